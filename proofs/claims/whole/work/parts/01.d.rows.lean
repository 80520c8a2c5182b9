set_option maxRecDepth 20000 in
theorem ggX3_init_X1_init : GoodIn wsX3_init wsX1_init := goodIn_r _ [17, 18, 2, 3, 19, 20, 21, 22, 23, 24, 25, 26, 27, 28, 29, 30, 31, 46, 47, 48, 49, 50, 51, 52, 53, 54, 55, 56, 57] (by decide +kernel) (by decide +kernel)
set_option maxRecDepth 20000 in
theorem gX3_init_X1_init_n11 : GoodIn wsX3_init (wsX1_init) := ggX3_init_X1_init
set_option maxRecDepth 20000 in
theorem ggX3_init_X2_init : GoodIn wsX3_init wsX2_init := goodIn_r _ [34, 35, 2, 3, 36, 37, 38, 39, 5, 6, 16, 17, 18, 19, 20, 21, 22, 23, 24, 25, 26, 27, 28, 29, 30, 31, 61, 62, 63, 46, 47, 48, 49, 50, 51, 52, 53, 54, 55, 56, 57] (by decide +kernel) (by decide +kernel)
set_option maxRecDepth 20000 in
theorem gX3_init_X2_init : GoodIn wsX3_init (wsX2_init) := ggX3_init_X2_init
set_option maxRecDepth 20000 in
theorem ggX3_init_X0_init : GoodIn wsX3_init wsX0_init := goodIn_r _ [41, 42, 2, 3, 43, 44, 45, 64, 65] (by decide +kernel) (by decide +kernel)
set_option maxRecDepth 20000 in
theorem gX3_init_X0_init_n25 : GoodIn wsX3_init (wsX0_init) := ggX3_init_X0_init
theorem dX3_init_0 : decode cX3_init 0 = .ok (.aload_n 0, 1) := by decide +kernel
theorem dX3_init_1 : decode cX3_init 1 = .ok (.invokespecial 3, 3) := by decide +kernel
theorem dX3_init_4 : decode cX3_init 4 = .ok (.aload_n 0, 1) := by decide +kernel
theorem dX3_init_5 : decode cX3_init 5 = .ok (.new 9, 3) := by decide +kernel
theorem dX3_init_8 : decode cX3_init 8 = .ok (.dup, 1) := by decide +kernel
theorem dX3_init_9 : decode cX3_init 9 = .ok (.invokespecial 11, 3) := by decide +kernel
theorem dX3_init_12 : decode cX3_init 12 = .ok (.putfield 12, 3) := by decide +kernel
theorem dX3_init_15 : decode cX3_init 15 = .ok (.aload_n 0, 1) := by decide +kernel
theorem dX3_init_16 : decode cX3_init 16 = .ok (.new 16, 3) := by decide +kernel
theorem dX3_init_19 : decode cX3_init 19 = .ok (.dup, 1) := by decide +kernel
theorem dX3_init_20 : decode cX3_init 20 = .ok (.invokespecial 18, 3) := by decide +kernel
theorem dX3_init_23 : decode cX3_init 23 = .ok (.putfield 19, 3) := by decide +kernel
theorem dX3_init_26 : decode cX3_init 26 = .ok (.aload_n 0, 1) := by decide +kernel
theorem dX3_init_27 : decode cX3_init 27 = .ok (.new 23, 3) := by decide +kernel
theorem dX3_init_30 : decode cX3_init 30 = .ok (.dup, 1) := by decide +kernel
theorem dX3_init_31 : decode cX3_init 31 = .ok (.invokespecial 25, 3) := by decide +kernel
theorem dX3_init_34 : decode cX3_init 34 = .ok (.putfield 26, 3) := by decide +kernel
theorem dX3_init_37 : decode cX3_init 37 = .ok (.return_, 1) := by decide +kernel
set_option maxRecDepth 20000 in
theorem ggX3_come_X3_checkRow : GoodIn wsX3_come wsX3_checkRow := goodIn_ca (goodIn_r _ [9, 10, 11, 12, 13, 8, 14] (by decide +kernel) (by decide +kernel)) (goodIn_sub (fun _ h => List.mem_cons_of_mem _ (List.mem_append_right _ h)) (by decide +kernel))
set_option maxRecDepth 20000 in
theorem gX3_come_X3_checkRow : GoodIn wsX3_come (va_wsS RX3 30 yX3_checkRow wsX3_checkRow) := goodIn_app (goodIn_of _ (by decide +kernel)) ggX3_come_X3_checkRow
set_option maxRecDepth 20000 in
theorem ggX3_come_X3_checkConcert : GoodIn wsX3_come wsX3_checkConcert := goodIn_ca (goodIn_r _ [17, 10, 11, 18, 19, 8, 20] (by decide +kernel) (by decide +kernel)) (goodIn_sub (fun _ h => List.mem_cons_of_mem _ (List.mem_append_right _ h)) (by decide +kernel))
set_option maxRecDepth 20000 in
theorem gX3_come_X3_checkConcert : GoodIn wsX3_come (va_wsS RX3 34 yX3_checkConcert wsX3_checkConcert) := goodIn_app (goodIn_of _ (by decide +kernel)) ggX3_come_X3_checkConcert
set_option maxRecDepth 20000 in
theorem ggX3_come_X3_placeOf : GoodIn wsX3_come wsX3_placeOf := goodIn_r _ [23] (by decide +kernel) (by decide +kernel)
set_option maxRecDepth 20000 in
theorem gX3_come_X3_placeOf : GoodIn wsX3_come (va_wsS RX3 37 yX3_placeOf wsX3_placeOf) := goodIn_app (goodIn_of _ (by decide +kernel)) ggX3_come_X3_placeOf
set_option maxRecDepth 20000 in
theorem ggX3_come_X1_hasRoom : GoodIn wsX3_come wsX1_hasRoom := goodIn_r _ [28, 29, 68, 69, 70, 71, 72, 73, 74, 75, 76, 77, 78, 79] (by decide +kernel) (by decide +kernel)
set_option maxRecDepth 20000 in
theorem gX3_come_X1_hasRoom : GoodIn wsX3_come (wsV RX3 41 RX1 yX1_hasRoom wsX1_hasRoom) := goodIn_app (goodIn_of _ (by decide +kernel)) ggX3_come_X1_hasRoom
set_option maxRecDepth 20000 in
theorem ggX3_come_X2_keep : GoodIn wsX3_come wsX2_keep := goodIn_r _ [34, 35, 36, 37, 38, 39, 40, 27, 41, 29, 42, 43, 44, 45, 46, 47, 48, 49, 50, 51, 52, 53, 54, 55, 56, 80, 81, 82, 68, 69, 70, 71, 72, 73, 74, 75, 76, 77, 78, 79] (by decide +kernel) (by decide +kernel)
set_option maxRecDepth 20000 in
theorem gX3_come_X2_keep : GoodIn wsX3_come (wsV RX3 52 RX2 yX2_keep wsX2_keep) := goodIn_app (goodIn_of _ (by decide +kernel)) ggX3_come_X2_keep
set_option maxRecDepth 20000 in
theorem ggX3_come_X1_seat : GoodIn wsX3_come wsX1_seat := goodIn_r _ [60, 29, 61, 62, 63, 27, 64, 46, 52, 47, 68, 69, 70, 71, 72, 73, 74, 75, 76, 77, 78, 79] (by decide +kernel) (by decide +kernel)
set_option maxRecDepth 20000 in
theorem gX3_come_X1_seat : GoodIn wsX3_come (wsV RX3 56 RX1 yX1_seat wsX1_seat) := goodIn_app (goodIn_of _ (by decide +kernel)) ggX3_come_X1_seat
theorem dX3_come_0 : decode cX3_come 0 = .ok (.iload_n 1, 1) := by decide +kernel
theorem dX3_come_1 : decode cX3_come 1 = .ok (.invokestatic 30, 3) := by decide +kernel
theorem dX3_come_4 : decode cX3_come 4 = .ok (.iload_n 2, 1) := by decide +kernel
theorem dX3_come_5 : decode cX3_come 5 = .ok (.invokestatic 34, 3) := by decide +kernel
theorem dX3_come_8 : decode cX3_come 8 = .ok (.iload_n 1, 1) := by decide +kernel
theorem dX3_come_9 : decode cX3_come 9 = .ok (.iload_n 2, 1) := by decide +kernel
theorem dX3_come_10 : decode cX3_come 10 = .ok (.invokestatic 37, 3) := by decide +kernel
theorem dX3_come_13 : decode cX3_come 13 = .ok (.istore_n 3, 1) := by decide +kernel
theorem dX3_come_14 : decode cX3_come 14 = .ok (.aload_n 0, 1) := by decide +kernel
theorem dX3_come_15 : decode cX3_come 15 = .ok (.getfield 12, 3) := by decide +kernel
theorem dX3_come_18 : decode cX3_come 18 = .ok (.iload_n 3, 1) := by decide +kernel
theorem dX3_come_19 : decode cX3_come 19 = .ok (.invokevirtual 41, 3) := by decide +kernel
theorem dX3_come_22 : decode cX3_come 22 = .ok (.ifCond .ne 13, 3) := by decide +kernel
theorem dX3_come_25 : decode cX3_come 25 = .ok (.new 45, 3) := by decide +kernel
theorem dX3_come_28 : decode cX3_come 28 = .ok (.dup, 1) := by decide +kernel
theorem dX3_come_29 : decode cX3_come 29 = .ok (.ldc 47, 2) := by decide +kernel
theorem dX3_come_31 : decode cX3_come 31 = .ok (.invokespecial 49, 3) := by decide +kernel
theorem dX3_come_34 : decode cX3_come 34 = .ok (.athrow, 1) := by decide +kernel
theorem dX3_come_35 : decode cX3_come 35 = .ok (.aload_n 0, 1) := by decide +kernel
theorem dX3_come_36 : decode cX3_come 36 = .ok (.getfield 19, 3) := by decide +kernel
theorem dX3_come_39 : decode cX3_come 39 = .ok (.aload_n 0, 1) := by decide +kernel
theorem dX3_come_40 : decode cX3_come 40 = .ok (.getfield 12, 3) := by decide +kernel
theorem dX3_come_43 : decode cX3_come 43 = .ok (.invokevirtual 52, 3) := by decide +kernel
theorem dX3_come_46 : decode cX3_come 46 = .ok (.aload_n 0, 1) := by decide +kernel
theorem dX3_come_47 : decode cX3_come 47 = .ok (.getfield 12, 3) := by decide +kernel
theorem dX3_come_50 : decode cX3_come 50 = .ok (.iload_n 3, 1) := by decide +kernel
theorem dX3_come_51 : decode cX3_come 51 = .ok (.invokevirtual 56, 3) := by decide +kernel
theorem dX3_come_54 : decode cX3_come 54 = .ok (.aload_n 0, 1) := by decide +kernel
theorem dX3_come_55 : decode cX3_come 55 = .ok (.getfield 12, 3) := by decide +kernel
theorem dX3_come_58 : decode cX3_come 58 = .ok (.getfield 59, 3) := by decide +kernel
theorem dX3_come_61 : decode cX3_come 61 = .ok (.iload_n 3, 1) := by decide +kernel
theorem dX3_come_62 : decode cX3_come 62 = .ok (.iaload, 1) := by decide +kernel
theorem dX3_come_63 : decode cX3_come 63 = .ok (.ireturn, 1) := by decide +kernel
set_option maxRecDepth 20000 in
theorem ggX3_leave_X3_checkRow : GoodIn wsX3_leave wsX3_checkRow := goodIn_ca (goodIn_r _ [9, 10, 11, 12, 13, 8, 14] (by decide +kernel) (by decide +kernel)) (goodIn_sub (fun _ h => List.mem_cons_of_mem _ (List.mem_append_right _ h)) (by decide +kernel))
set_option maxRecDepth 20000 in
theorem gX3_leave_X3_checkRow : GoodIn wsX3_leave (va_wsS RX3 30 yX3_checkRow wsX3_checkRow) := goodIn_app (goodIn_of _ (by decide +kernel)) ggX3_leave_X3_checkRow
set_option maxRecDepth 20000 in
theorem ggX3_leave_X3_checkConcert : GoodIn wsX3_leave wsX3_checkConcert := goodIn_ca (goodIn_r _ [17, 10, 11, 18, 19, 8, 20] (by decide +kernel) (by decide +kernel)) (goodIn_sub (fun _ h => List.mem_cons_of_mem _ (List.mem_append_right _ h)) (by decide +kernel))
set_option maxRecDepth 20000 in
theorem gX3_leave_X3_checkConcert : GoodIn wsX3_leave (va_wsS RX3 34 yX3_checkConcert wsX3_checkConcert) := goodIn_app (goodIn_of _ (by decide +kernel)) ggX3_leave_X3_checkConcert
set_option maxRecDepth 20000 in
theorem ggX3_leave_X3_placeOf : GoodIn wsX3_leave wsX3_placeOf := goodIn_r _ [23] (by decide +kernel) (by decide +kernel)
set_option maxRecDepth 20000 in
theorem gX3_leave_X3_placeOf : GoodIn wsX3_leave (va_wsS RX3 37 yX3_placeOf wsX3_placeOf) := goodIn_app (goodIn_of _ (by decide +kernel)) ggX3_leave_X3_placeOf
set_option maxRecDepth 20000 in
theorem ggX3_leave_X1_isWantedAt : GoodIn wsX3_leave wsX1_isWantedAt := goodIn_r _ [28, 29, 73, 74, 75, 76, 77, 78, 79, 80, 81, 82, 83, 84] (by decide +kernel) (by decide +kernel)
set_option maxRecDepth 20000 in
theorem gX3_leave_X1_isWantedAt : GoodIn wsX3_leave (wsV RX3 63 RX1 yX1_isWantedAt wsX1_isWantedAt) := goodIn_app (goodIn_of _ (by decide +kernel)) ggX3_leave_X1_isWantedAt
set_option maxRecDepth 20000 in
theorem ggX3_leave_X2_keep : GoodIn wsX3_leave wsX2_keep := goodIn_r _ [34, 35, 36, 37, 38, 39, 40, 27, 41, 29, 42, 43, 44, 45, 46, 47, 48, 49, 50, 51, 52, 53, 54, 55, 56, 85, 86, 87, 73, 74, 75, 76, 77, 78, 79, 80, 81, 82, 83, 84] (by decide +kernel) (by decide +kernel)
set_option maxRecDepth 20000 in
theorem gX3_leave_X2_keep : GoodIn wsX3_leave (wsV RX3 52 RX2 yX2_keep wsX2_keep) := goodIn_app (goodIn_of _ (by decide +kernel)) ggX3_leave_X2_keep
set_option maxRecDepth 20000 in
theorem ggX3_leave_X1_unseat : GoodIn wsX3_leave wsX1_unseat := goodIn_r _ [60, 29, 61, 62, 63, 27, 64, 49, 46, 53, 47, 65, 25, 26, 28, 66, 67, 68, 69, 52, 73, 74, 75, 76, 77, 78, 79, 80, 81, 82, 83, 84] (by decide +kernel) (by decide +kernel)
set_option maxRecDepth 20000 in
theorem gX3_leave_X1_unseat : GoodIn wsX3_leave (wsV RX3 68 RX1 yX1_unseat wsX1_unseat) := goodIn_app (goodIn_of _ (by decide +kernel)) ggX3_leave_X1_unseat
theorem dX3_leave_0 : decode cX3_leave 0 = .ok (.iload_n 1, 1) := by decide +kernel
theorem dX3_leave_1 : decode cX3_leave 1 = .ok (.invokestatic 30, 3) := by decide +kernel
theorem dX3_leave_4 : decode cX3_leave 4 = .ok (.iload_n 2, 1) := by decide +kernel
theorem dX3_leave_5 : decode cX3_leave 5 = .ok (.invokestatic 34, 3) := by decide +kernel
theorem dX3_leave_8 : decode cX3_leave 8 = .ok (.iload_n 1, 1) := by decide +kernel
theorem dX3_leave_9 : decode cX3_leave 9 = .ok (.iload_n 2, 1) := by decide +kernel
theorem dX3_leave_10 : decode cX3_leave 10 = .ok (.invokestatic 37, 3) := by decide +kernel
theorem dX3_leave_13 : decode cX3_leave 13 = .ok (.istore 4, 2) := by decide +kernel
theorem dX3_leave_15 : decode cX3_leave 15 = .ok (.aload_n 0, 1) := by decide +kernel
theorem dX3_leave_16 : decode cX3_leave 16 = .ok (.getfield 12, 3) := by decide +kernel
theorem dX3_leave_19 : decode cX3_leave 19 = .ok (.iload 4, 2) := by decide +kernel
theorem dX3_leave_21 : decode cX3_leave 21 = .ok (.invokevirtual 63, 3) := by decide +kernel
theorem dX3_leave_24 : decode cX3_leave 24 = .ok (.ifCond .ne 13, 3) := by decide +kernel
theorem dX3_leave_27 : decode cX3_leave 27 = .ok (.new 45, 3) := by decide +kernel
theorem dX3_leave_30 : decode cX3_leave 30 = .ok (.dup, 1) := by decide +kernel
theorem dX3_leave_31 : decode cX3_leave 31 = .ok (.ldc 66, 2) := by decide +kernel
theorem dX3_leave_33 : decode cX3_leave 33 = .ok (.invokespecial 49, 3) := by decide +kernel
theorem dX3_leave_36 : decode cX3_leave 36 = .ok (.athrow, 1) := by decide +kernel
theorem dX3_leave_37 : decode cX3_leave 37 = .ok (.aload_n 0, 1) := by decide +kernel
theorem dX3_leave_38 : decode cX3_leave 38 = .ok (.getfield 19, 3) := by decide +kernel
theorem dX3_leave_41 : decode cX3_leave 41 = .ok (.aload_n 0, 1) := by decide +kernel
theorem dX3_leave_42 : decode cX3_leave 42 = .ok (.getfield 12, 3) := by decide +kernel
theorem dX3_leave_45 : decode cX3_leave 45 = .ok (.invokevirtual 52, 3) := by decide +kernel
theorem dX3_leave_48 : decode cX3_leave 48 = .ok (.aload_n 0, 1) := by decide +kernel
theorem dX3_leave_49 : decode cX3_leave 49 = .ok (.getfield 12, 3) := by decide +kernel
theorem dX3_leave_52 : decode cX3_leave 52 = .ok (.iload 4, 2) := by decide +kernel
theorem dX3_leave_54 : decode cX3_leave 54 = .ok (.iload_n 3, 1) := by decide +kernel
theorem dX3_leave_55 : decode cX3_leave 55 = .ok (.invokevirtual 68, 3) := by decide +kernel
theorem dX3_leave_58 : decode cX3_leave 58 = .ok (.aload_n 0, 1) := by decide +kernel
theorem dX3_leave_59 : decode cX3_leave 59 = .ok (.getfield 12, 3) := by decide +kernel
theorem dX3_leave_62 : decode cX3_leave 62 = .ok (.getfield 59, 3) := by decide +kernel
theorem dX3_leave_65 : decode cX3_leave 65 = .ok (.iload 4, 2) := by decide +kernel
theorem dX3_leave_67 : decode cX3_leave 67 = .ok (.iaload, 1) := by decide +kernel
theorem dX3_leave_68 : decode cX3_leave 68 = .ok (.ireturn, 1) := by decide +kernel
set_option maxRecDepth 20000 in
theorem ggX3_listeners_X3_checkRow : GoodIn wsX3_listeners wsX3_checkRow := goodIn_ca (goodIn_r _ [6, 7, 8, 9, 10, 5, 11] (by decide +kernel) (by decide +kernel)) (goodIn_sub (fun _ h => List.mem_cons_of_mem _ (List.mem_append_right _ h)) (by decide +kernel))
set_option maxRecDepth 20000 in
theorem gX3_listeners_X3_checkRow : GoodIn wsX3_listeners (va_wsS RX3 30 yX3_checkRow wsX3_checkRow) := goodIn_app (goodIn_of _ (by decide +kernel)) ggX3_listeners_X3_checkRow
set_option maxRecDepth 20000 in
theorem ggX3_listeners_X3_checkConcert : GoodIn wsX3_listeners wsX3_checkConcert := goodIn_ca (goodIn_r _ [14, 7, 8, 15, 16, 5, 17] (by decide +kernel) (by decide +kernel)) (goodIn_sub (fun _ h => List.mem_cons_of_mem _ (List.mem_append_right _ h)) (by decide +kernel))
set_option maxRecDepth 20000 in
theorem gX3_listeners_X3_checkConcert : GoodIn wsX3_listeners (va_wsS RX3 34 yX3_checkConcert wsX3_checkConcert) := goodIn_app (goodIn_of _ (by decide +kernel)) ggX3_listeners_X3_checkConcert
set_option maxRecDepth 20000 in
theorem ggX3_listeners_X3_placeOf : GoodIn wsX3_listeners wsX3_placeOf := goodIn_r _ [20] (by decide +kernel) (by decide +kernel)
set_option maxRecDepth 20000 in
theorem gX3_listeners_X3_placeOf : GoodIn wsX3_listeners (va_wsS RX3 37 yX3_placeOf wsX3_placeOf) := goodIn_app (goodIn_of _ (by decide +kernel)) ggX3_listeners_X3_placeOf
theorem dX3_listeners_0 : decode cX3_listeners 0 = .ok (.iload_n 1, 1) := by decide +kernel
theorem dX3_listeners_1 : decode cX3_listeners 1 = .ok (.invokestatic 30, 3) := by decide +kernel
theorem dX3_listeners_4 : decode cX3_listeners 4 = .ok (.iload_n 2, 1) := by decide +kernel
theorem dX3_listeners_5 : decode cX3_listeners 5 = .ok (.invokestatic 34, 3) := by decide +kernel
theorem dX3_listeners_8 : decode cX3_listeners 8 = .ok (.aload_n 0, 1) := by decide +kernel
theorem dX3_listeners_9 : decode cX3_listeners 9 = .ok (.getfield 12, 3) := by decide +kernel
theorem dX3_listeners_12 : decode cX3_listeners 12 = .ok (.getfield 59, 3) := by decide +kernel
theorem dX3_listeners_15 : decode cX3_listeners 15 = .ok (.iload_n 1, 1) := by decide +kernel
theorem dX3_listeners_16 : decode cX3_listeners 16 = .ok (.iload_n 2, 1) := by decide +kernel
theorem dX3_listeners_17 : decode cX3_listeners 17 = .ok (.invokestatic 37, 3) := by decide +kernel
theorem dX3_listeners_20 : decode cX3_listeners 20 = .ok (.iaload, 1) := by decide +kernel
theorem dX3_listeners_21 : decode cX3_listeners 21 = .ok (.ireturn, 1) := by decide +kernel
set_option maxRecDepth 20000 in
theorem ggX3_setOpen_X3_checkRow : GoodIn wsX3_setOpen wsX3_checkRow := goodIn_ca (goodIn_r _ [6, 7, 8, 9, 10, 5, 11] (by decide +kernel) (by decide +kernel)) (goodIn_sub (fun _ h => List.mem_cons_of_mem _ (List.mem_append_right _ h)) (by decide +kernel))
set_option maxRecDepth 20000 in
theorem gX3_setOpen_X3_checkRow : GoodIn wsX3_setOpen (va_wsS RX3 30 yX3_checkRow wsX3_checkRow) := goodIn_app (goodIn_of _ (by decide +kernel)) ggX3_setOpen_X3_checkRow
set_option maxRecDepth 20000 in
theorem ggX3_setOpen_X2_keep : GoodIn wsX3_setOpen wsX2_keep := goodIn_r _ [16, 17, 18, 19, 20, 21, 22, 23, 24, 25, 26, 27, 28, 29, 30, 31, 32, 33, 34, 35, 36, 37, 38, 39, 40, 52, 53, 54, 55, 56, 57, 58, 59, 60, 61, 62, 63, 64, 65, 66] (by decide +kernel) (by decide +kernel)
set_option maxRecDepth 20000 in
theorem gX3_setOpen_X2_keep : GoodIn wsX3_setOpen (wsV RX3 52 RX2 yX2_keep wsX2_keep) := goodIn_app (goodIn_of _ (by decide +kernel)) ggX3_setOpen_X2_keep
set_option maxRecDepth 20000 in
theorem ggX3_setOpen_X1_isRowOpen : GoodIn wsX3_setOpen wsX1_isRowOpen := goodIn_r _ [44, 32, 55, 56, 57, 58, 59, 60, 61, 62, 63, 64, 65, 66] (by decide +kernel) (by decide +kernel)
set_option maxRecDepth 20000 in
theorem gX3_setOpen_X1_isRowOpen : GoodIn wsX3_setOpen (wsV RX3 72 RX1 yX1_isRowOpen wsX1_isRowOpen) := goodIn_app (goodIn_of _ (by decide +kernel)) ggX3_setOpen_X1_isRowOpen
set_option maxRecDepth 20000 in
theorem ggX3_setOpen_X1_turnRow : GoodIn wsX3_setOpen wsX1_turnRow := goodIn_r _ [48, 32, 55, 56, 57, 58, 59, 60, 61, 62, 63, 64, 65, 66] (by decide +kernel) (by decide +kernel)
set_option maxRecDepth 20000 in
theorem gX3_setOpen_X1_turnRow : GoodIn wsX3_setOpen (wsV RX3 75 RX1 yX1_turnRow wsX1_turnRow) := goodIn_app (goodIn_of _ (by decide +kernel)) ggX3_setOpen_X1_turnRow
theorem dX3_setOpen_0 : decode cX3_setOpen 0 = .ok (.iload_n 1, 1) := by decide +kernel
theorem dX3_setOpen_1 : decode cX3_setOpen 1 = .ok (.invokestatic 30, 3) := by decide +kernel
theorem dX3_setOpen_4 : decode cX3_setOpen 4 = .ok (.aload_n 0, 1) := by decide +kernel
theorem dX3_setOpen_5 : decode cX3_setOpen 5 = .ok (.getfield 19, 3) := by decide +kernel
theorem dX3_setOpen_8 : decode cX3_setOpen 8 = .ok (.aload_n 0, 1) := by decide +kernel
theorem dX3_setOpen_9 : decode cX3_setOpen 9 = .ok (.getfield 12, 3) := by decide +kernel
theorem dX3_setOpen_12 : decode cX3_setOpen 12 = .ok (.invokevirtual 52, 3) := by decide +kernel
theorem dX3_setOpen_15 : decode cX3_setOpen 15 = .ok (.aload_n 0, 1) := by decide +kernel
theorem dX3_setOpen_16 : decode cX3_setOpen 16 = .ok (.getfield 12, 3) := by decide +kernel
theorem dX3_setOpen_19 : decode cX3_setOpen 19 = .ok (.iload_n 1, 1) := by decide +kernel
theorem dX3_setOpen_20 : decode cX3_setOpen 20 = .ok (.invokevirtual 72, 3) := by decide +kernel
theorem dX3_setOpen_23 : decode cX3_setOpen 23 = .ok (.istore_n 3, 1) := by decide +kernel
theorem dX3_setOpen_24 : decode cX3_setOpen 24 = .ok (.iload_n 3, 1) := by decide +kernel
theorem dX3_setOpen_25 : decode cX3_setOpen 25 = .ok (.iload_n 2, 1) := by decide +kernel
theorem dX3_setOpen_26 : decode cX3_setOpen 26 = .ok (.if_icmp .eq 11, 3) := by decide +kernel
theorem dX3_setOpen_29 : decode cX3_setOpen 29 = .ok (.aload_n 0, 1) := by decide +kernel
theorem dX3_setOpen_30 : decode cX3_setOpen 30 = .ok (.getfield 12, 3) := by decide +kernel
theorem dX3_setOpen_33 : decode cX3_setOpen 33 = .ok (.iload_n 1, 1) := by decide +kernel
theorem dX3_setOpen_34 : decode cX3_setOpen 34 = .ok (.invokevirtual 75, 3) := by decide +kernel
theorem dX3_setOpen_37 : decode cX3_setOpen 37 = .ok (.iload_n 3, 1) := by decide +kernel
theorem dX3_setOpen_38 : decode cX3_setOpen 38 = .ok (.ireturn, 1) := by decide +kernel
set_option maxRecDepth 20000 in
theorem ggX3_setQuick_X2_keep : GoodIn wsX3_setQuick wsX2_keep := goodIn_r _ [8, 9, 10, 11, 12, 13, 14, 15, 16, 17, 18, 19, 20, 21, 22, 23, 24, 25, 26, 27, 28, 29, 30, 31, 32, 48, 49, 50, 36, 37, 38, 39, 40, 41, 42, 43, 44, 45, 46, 47] (by decide +kernel) (by decide +kernel)
set_option maxRecDepth 20000 in
theorem gX3_setQuick_X2_keep : GoodIn wsX3_setQuick (wsV RX3 52 RX2 yX2_keep wsX2_keep) := goodIn_app (goodIn_of _ (by decide +kernel)) ggX3_setQuick_X2_keep
theorem dX3_setQuick_0 : decode cX3_setQuick 0 = .ok (.aload_n 0, 1) := by decide +kernel
theorem dX3_setQuick_1 : decode cX3_setQuick 1 = .ok (.getfield 19, 3) := by decide +kernel
theorem dX3_setQuick_4 : decode cX3_setQuick 4 = .ok (.aload_n 0, 1) := by decide +kernel
theorem dX3_setQuick_5 : decode cX3_setQuick 5 = .ok (.getfield 12, 3) := by decide +kernel
theorem dX3_setQuick_8 : decode cX3_setQuick 8 = .ok (.invokevirtual 52, 3) := by decide +kernel
theorem dX3_setQuick_11 : decode cX3_setQuick 11 = .ok (.aload_n 0, 1) := by decide +kernel
theorem dX3_setQuick_12 : decode cX3_setQuick 12 = .ok (.getfield 12, 3) := by decide +kernel
theorem dX3_setQuick_15 : decode cX3_setQuick 15 = .ok (.getfield 78, 3) := by decide +kernel
theorem dX3_setQuick_18 : decode cX3_setQuick 18 = .ok (.istore_n 2, 1) := by decide +kernel
theorem dX3_setQuick_19 : decode cX3_setQuick 19 = .ok (.aload_n 0, 1) := by decide +kernel
theorem dX3_setQuick_20 : decode cX3_setQuick 20 = .ok (.getfield 12, 3) := by decide +kernel
theorem dX3_setQuick_23 : decode cX3_setQuick 23 = .ok (.iload_n 1, 1) := by decide +kernel
theorem dX3_setQuick_24 : decode cX3_setQuick 24 = .ok (.putfield 78, 3) := by decide +kernel
theorem dX3_setQuick_27 : decode cX3_setQuick 27 = .ok (.iload_n 2, 1) := by decide +kernel
theorem dX3_setQuick_28 : decode cX3_setQuick 28 = .ok (.ireturn, 1) := by decide +kernel
set_option maxRecDepth 20000 in
theorem ggX3_setTimes_X2_keep : GoodIn wsX3_setTimes wsX2_keep := goodIn_r _ [12, 13, 14, 15, 16, 17, 18, 19, 20, 21, 22, 23, 24, 25, 26, 27, 28, 29, 30, 31, 32, 33, 34, 35, 36, 52, 53, 54, 40, 41, 42, 43, 44, 45, 46, 47, 48, 49, 50, 51] (by decide +kernel) (by decide +kernel)
set_option maxRecDepth 20000 in
theorem gX3_setTimes_X2_keep : GoodIn wsX3_setTimes (wsV RX3 52 RX2 yX2_keep wsX2_keep) := goodIn_app (goodIn_of _ (by decide +kernel)) ggX3_setTimes_X2_keep
theorem dX3_setTimes_0 : decode cX3_setTimes 0 = .ok (.iload_n 1, 1) := by decide +kernel
theorem dX3_setTimes_1 : decode cX3_setTimes 1 = .ok (.iconst 2, 1) := by decide +kernel
theorem dX3_setTimes_2 : decode cX3_setTimes 2 = .ok (.if_icmp .lt 9, 3) := by decide +kernel
theorem dX3_setTimes_5 : decode cX3_setTimes 5 = .ok (.iload_n 1, 1) := by decide +kernel
theorem dX3_setTimes_6 : decode cX3_setTimes 6 = .ok (.bipush 60, 2) := by decide +kernel
theorem dX3_setTimes_8 : decode cX3_setTimes 8 = .ok (.if_icmp .le 13, 3) := by decide +kernel
theorem dX3_setTimes_11 : decode cX3_setTimes 11 = .ok (.new 82, 3) := by decide +kernel
theorem dX3_setTimes_14 : decode cX3_setTimes 14 = .ok (.dup, 1) := by decide +kernel
theorem dX3_setTimes_15 : decode cX3_setTimes 15 = .ok (.ldc 84, 2) := by decide +kernel
theorem dX3_setTimes_17 : decode cX3_setTimes 17 = .ok (.invokespecial 86, 3) := by decide +kernel
theorem dX3_setTimes_20 : decode cX3_setTimes 20 = .ok (.athrow, 1) := by decide +kernel
theorem dX3_setTimes_21 : decode cX3_setTimes 21 = .ok (.iload_n 2, 1) := by decide +kernel
theorem dX3_setTimes_22 : decode cX3_setTimes 22 = .ok (.iconst 1, 1) := by decide +kernel
theorem dX3_setTimes_23 : decode cX3_setTimes 23 = .ok (.if_icmp .lt 9, 3) := by decide +kernel
theorem dX3_setTimes_26 : decode cX3_setTimes 26 = .ok (.iload_n 2, 1) := by decide +kernel
theorem dX3_setTimes_27 : decode cX3_setTimes 27 = .ok (.bipush 10, 2) := by decide +kernel
theorem dX3_setTimes_29 : decode cX3_setTimes 29 = .ok (.if_icmp .le 13, 3) := by decide +kernel
theorem dX3_setTimes_32 : decode cX3_setTimes 32 = .ok (.new 82, 3) := by decide +kernel
theorem dX3_setTimes_35 : decode cX3_setTimes 35 = .ok (.dup, 1) := by decide +kernel
theorem dX3_setTimes_36 : decode cX3_setTimes 36 = .ok (.ldc 87, 2) := by decide +kernel
theorem dX3_setTimes_38 : decode cX3_setTimes 38 = .ok (.invokespecial 86, 3) := by decide +kernel
theorem dX3_setTimes_41 : decode cX3_setTimes 41 = .ok (.athrow, 1) := by decide +kernel
theorem dX3_setTimes_42 : decode cX3_setTimes 42 = .ok (.iload_n 3, 1) := by decide +kernel
theorem dX3_setTimes_43 : decode cX3_setTimes 43 = .ok (.iconst 1, 1) := by decide +kernel
theorem dX3_setTimes_44 : decode cX3_setTimes 44 = .ok (.if_icmp .lt 9, 3) := by decide +kernel
theorem dX3_setTimes_47 : decode cX3_setTimes 47 = .ok (.iload_n 3, 1) := by decide +kernel
theorem dX3_setTimes_48 : decode cX3_setTimes 48 = .ok (.bipush 30, 2) := by decide +kernel
theorem dX3_setTimes_50 : decode cX3_setTimes 50 = .ok (.if_icmp .le 13, 3) := by decide +kernel
theorem dX3_setTimes_53 : decode cX3_setTimes 53 = .ok (.new 82, 3) := by decide +kernel
theorem dX3_setTimes_56 : decode cX3_setTimes 56 = .ok (.dup, 1) := by decide +kernel
theorem dX3_setTimes_57 : decode cX3_setTimes 57 = .ok (.ldc 89, 2) := by decide +kernel
theorem dX3_setTimes_59 : decode cX3_setTimes 59 = .ok (.invokespecial 86, 3) := by decide +kernel
theorem dX3_setTimes_62 : decode cX3_setTimes 62 = .ok (.athrow, 1) := by decide +kernel
theorem dX3_setTimes_63 : decode cX3_setTimes 63 = .ok (.aload_n 0, 1) := by decide +kernel
theorem dX3_setTimes_64 : decode cX3_setTimes 64 = .ok (.getfield 19, 3) := by decide +kernel
theorem dX3_setTimes_67 : decode cX3_setTimes 67 = .ok (.aload_n 0, 1) := by decide +kernel
theorem dX3_setTimes_68 : decode cX3_setTimes 68 = .ok (.getfield 12, 3) := by decide +kernel
theorem dX3_setTimes_71 : decode cX3_setTimes 71 = .ok (.invokevirtual 52, 3) := by decide +kernel
theorem dX3_setTimes_74 : decode cX3_setTimes 74 = .ok (.aload_n 0, 1) := by decide +kernel
theorem dX3_setTimes_75 : decode cX3_setTimes 75 = .ok (.getfield 12, 3) := by decide +kernel
theorem dX3_setTimes_78 : decode cX3_setTimes 78 = .ok (.getfield 91, 3) := by decide +kernel
theorem dX3_setTimes_81 : decode cX3_setTimes 81 = .ok (.istore 4, 2) := by decide +kernel
theorem dX3_setTimes_83 : decode cX3_setTimes 83 = .ok (.aload_n 0, 1) := by decide +kernel
theorem dX3_setTimes_84 : decode cX3_setTimes 84 = .ok (.getfield 12, 3) := by decide +kernel
theorem dX3_setTimes_87 : decode cX3_setTimes 87 = .ok (.iload_n 1, 1) := by decide +kernel
theorem dX3_setTimes_88 : decode cX3_setTimes 88 = .ok (.putfield 91, 3) := by decide +kernel
theorem dX3_setTimes_91 : decode cX3_setTimes 91 = .ok (.aload_n 0, 1) := by decide +kernel
theorem dX3_setTimes_92 : decode cX3_setTimes 92 = .ok (.getfield 12, 3) := by decide +kernel
theorem dX3_setTimes_95 : decode cX3_setTimes 95 = .ok (.iload_n 2, 1) := by decide +kernel
theorem dX3_setTimes_96 : decode cX3_setTimes 96 = .ok (.putfield 95, 3) := by decide +kernel
theorem dX3_setTimes_99 : decode cX3_setTimes 99 = .ok (.aload_n 0, 1) := by decide +kernel
theorem dX3_setTimes_100 : decode cX3_setTimes 100 = .ok (.getfield 12, 3) := by decide +kernel
theorem dX3_setTimes_103 : decode cX3_setTimes 103 = .ok (.iload_n 3, 1) := by decide +kernel
theorem dX3_setTimes_104 : decode cX3_setTimes 104 = .ok (.putfield 98, 3) := by decide +kernel
theorem dX3_setTimes_107 : decode cX3_setTimes 107 = .ok (.iload 4, 2) := by decide +kernel
theorem dX3_setTimes_109 : decode cX3_setTimes 109 = .ok (.ireturn, 1) := by decide +kernel
set_option maxRecDepth 20000 in
theorem ggX3_setPresent_X2_keep : GoodIn wsX3_setPresent wsX2_keep := goodIn_r _ [11, 12, 13, 14, 15, 16, 17, 18, 19, 20, 21, 22, 23, 24, 25, 26, 27, 28, 29, 30, 31, 32, 33, 34, 35, 55, 56, 57, 43, 44, 45, 46, 47, 48, 49, 50, 51, 52, 53, 54] (by decide +kernel) (by decide +kernel)
set_option maxRecDepth 20000 in
theorem gX3_setPresent_X2_keep : GoodIn wsX3_setPresent (wsV RX3 52 RX2 yX2_keep wsX2_keep) := goodIn_app (goodIn_of _ (by decide +kernel)) ggX3_setPresent_X2_keep
set_option maxRecDepth 20000 in
theorem ggX3_setPresent_X1_chiefAsker : GoodIn wsX3_setPresent wsX1_chiefAsker := goodIn_r _ [39, 30, 29, 43, 44, 45, 46, 47, 48, 49, 50, 51, 52, 53, 54] (by decide +kernel) (by decide +kernel)
set_option maxRecDepth 20000 in
theorem gX3_setPresent_X1_chiefAsker : GoodIn wsX3_setPresent (wsV RX3 112 RX1 yX1_chiefAsker wsX1_chiefAsker) := goodIn_app (goodIn_of _ (by decide +kernel)) ggX3_setPresent_X1_chiefAsker
theorem dX3_setPresent_0 : decode cX3_setPresent 0 = .ok (.iload_n 1, 1) := by decide +kernel
theorem dX3_setPresent_1 : decode cX3_setPresent 1 = .ok (.iconst 1, 1) := by decide +kernel
theorem dX3_setPresent_2 : decode cX3_setPresent 2 = .ok (.if_icmp .eq 18, 3) := by decide +kernel
theorem dX3_setPresent_5 : decode cX3_setPresent 5 = .ok (.iload_n 1, 1) := by decide +kernel
theorem dX3_setPresent_6 : decode cX3_setPresent 6 = .ok (.iconst 2, 1) := by decide +kernel
theorem dX3_setPresent_7 : decode cX3_setPresent 7 = .ok (.if_icmp .eq 13, 3) := by decide +kernel
theorem dX3_setPresent_10 : decode cX3_setPresent 10 = .ok (.new 101, 3) := by decide +kernel
theorem dX3_setPresent_13 : decode cX3_setPresent 13 = .ok (.dup, 1) := by decide +kernel
theorem dX3_setPresent_14 : decode cX3_setPresent 14 = .ok (.ldc 103, 2) := by decide +kernel
theorem dX3_setPresent_16 : decode cX3_setPresent 16 = .ok (.invokespecial 105, 3) := by decide +kernel
theorem dX3_setPresent_19 : decode cX3_setPresent 19 = .ok (.athrow, 1) := by decide +kernel
theorem dX3_setPresent_20 : decode cX3_setPresent 20 = .ok (.aload_n 0, 1) := by decide +kernel
theorem dX3_setPresent_21 : decode cX3_setPresent 21 = .ok (.getfield 19, 3) := by decide +kernel
theorem dX3_setPresent_24 : decode cX3_setPresent 24 = .ok (.aload_n 0, 1) := by decide +kernel
theorem dX3_setPresent_25 : decode cX3_setPresent 25 = .ok (.getfield 12, 3) := by decide +kernel
theorem dX3_setPresent_28 : decode cX3_setPresent 28 = .ok (.invokevirtual 52, 3) := by decide +kernel
theorem dX3_setPresent_31 : decode cX3_setPresent 31 = .ok (.iload_n 1, 1) := by decide +kernel
theorem dX3_setPresent_32 : decode cX3_setPresent 32 = .ok (.iconst 1, 1) := by decide +kernel
theorem dX3_setPresent_33 : decode cX3_setPresent 33 = .ok (.if_icmp .ne 14, 3) := by decide +kernel
theorem dX3_setPresent_36 : decode cX3_setPresent 36 = .ok (.aload_n 0, 1) := by decide +kernel
theorem dX3_setPresent_37 : decode cX3_setPresent 37 = .ok (.getfield 12, 3) := by decide +kernel
theorem dX3_setPresent_40 : decode cX3_setPresent 40 = .ok (.iload_n 2, 1) := by decide +kernel
theorem dX3_setPresent_41 : decode cX3_setPresent 41 = .ok (.putfield 106, 3) := by decide +kernel
theorem dX3_setPresent_44 : decode cX3_setPresent 44 = .ok (.goto 11, 3) := by decide +kernel
theorem dX3_setPresent_47 : decode cX3_setPresent 47 = .ok (.aload_n 0, 1) := by decide +kernel
theorem dX3_setPresent_48 : decode cX3_setPresent 48 = .ok (.getfield 12, 3) := by decide +kernel
theorem dX3_setPresent_51 : decode cX3_setPresent 51 = .ok (.iload_n 2, 1) := by decide +kernel
theorem dX3_setPresent_52 : decode cX3_setPresent 52 = .ok (.putfield 109, 3) := by decide +kernel
theorem dX3_setPresent_55 : decode cX3_setPresent 55 = .ok (.aload_n 0, 1) := by decide +kernel
theorem dX3_setPresent_56 : decode cX3_setPresent 56 = .ok (.getfield 12, 3) := by decide +kernel
theorem dX3_setPresent_59 : decode cX3_setPresent 59 = .ok (.invokevirtual 112, 3) := by decide +kernel
theorem dX3_setPresent_62 : decode cX3_setPresent 62 = .ok (.ireturn, 1) := by decide +kernel
set_option maxRecDepth 20000 in
theorem ggX3_chief_X1_chiefAsker : GoodIn wsX3_chief wsX1_chiefAsker := goodIn_r _ [6, 7, 8, 12, 13, 14, 15, 16, 17, 18, 19, 20, 21, 22, 23] (by decide +kernel) (by decide +kernel)
set_option maxRecDepth 20000 in
theorem gX3_chief_X1_chiefAsker : GoodIn wsX3_chief (wsV RX3 112 RX1 yX1_chiefAsker wsX1_chiefAsker) := goodIn_app (goodIn_of _ (by decide +kernel)) ggX3_chief_X1_chiefAsker
theorem dX3_chief_0 : decode cX3_chief 0 = .ok (.aload_n 0, 1) := by decide +kernel
theorem dX3_chief_1 : decode cX3_chief 1 = .ok (.getfield 12, 3) := by decide +kernel
theorem dX3_chief_4 : decode cX3_chief 4 = .ok (.invokevirtual 112, 3) := by decide +kernel
theorem dX3_chief_7 : decode cX3_chief 7 = .ok (.ireturn, 1) := by decide +kernel
set_option maxRecDepth 20000 in
theorem ggX3_rest_X3_checkRow : GoodIn wsX3_rest wsX3_checkRow := goodIn_ca (goodIn_r _ [6, 7, 8, 9, 10, 5, 11] (by decide +kernel) (by decide +kernel)) (goodIn_sub (fun _ h => List.mem_cons_of_mem _ (List.mem_append_right _ h)) (by decide +kernel))
set_option maxRecDepth 20000 in
theorem gX3_rest_X3_checkRow : GoodIn wsX3_rest (va_wsS RX3 30 yX3_checkRow wsX3_checkRow) := goodIn_app (goodIn_of _ (by decide +kernel)) ggX3_rest_X3_checkRow
set_option maxRecDepth 20000 in
theorem ggX3_rest_X3_checkConcert : GoodIn wsX3_rest wsX3_checkConcert := goodIn_ca (goodIn_r _ [14, 7, 8, 15, 16, 5, 17] (by decide +kernel) (by decide +kernel)) (goodIn_sub (fun _ h => List.mem_cons_of_mem _ (List.mem_append_right _ h)) (by decide +kernel))
set_option maxRecDepth 20000 in
theorem gX3_rest_X3_checkConcert : GoodIn wsX3_rest (va_wsS RX3 34 yX3_checkConcert wsX3_checkConcert) := goodIn_app (goodIn_of _ (by decide +kernel)) ggX3_rest_X3_checkConcert
set_option maxRecDepth 20000 in
theorem ggX3_rest_X3_placeOf : GoodIn wsX3_rest wsX3_placeOf := goodIn_r _ [20] (by decide +kernel) (by decide +kernel)
set_option maxRecDepth 20000 in
theorem gX3_rest_X3_placeOf : GoodIn wsX3_rest (va_wsS RX3 37 yX3_placeOf wsX3_placeOf) := goodIn_app (goodIn_of _ (by decide +kernel)) ggX3_rest_X3_placeOf
theorem dX3_rest_0 : decode cX3_rest 0 = .ok (.iload_n 1, 1) := by decide +kernel
theorem dX3_rest_1 : decode cX3_rest 1 = .ok (.invokestatic 30, 3) := by decide +kernel
theorem dX3_rest_4 : decode cX3_rest 4 = .ok (.iload_n 2, 1) := by decide +kernel
theorem dX3_rest_5 : decode cX3_rest 5 = .ok (.invokestatic 34, 3) := by decide +kernel
theorem dX3_rest_8 : decode cX3_rest 8 = .ok (.aload_n 0, 1) := by decide +kernel
theorem dX3_rest_9 : decode cX3_rest 9 = .ok (.getfield 12, 3) := by decide +kernel
theorem dX3_rest_12 : decode cX3_rest 12 = .ok (.getfield 116, 3) := by decide +kernel
theorem dX3_rest_15 : decode cX3_rest 15 = .ok (.iload_n 1, 1) := by decide +kernel
theorem dX3_rest_16 : decode cX3_rest 16 = .ok (.iload_n 2, 1) := by decide +kernel
theorem dX3_rest_17 : decode cX3_rest 17 = .ok (.invokestatic 37, 3) := by decide +kernel
theorem dX3_rest_20 : decode cX3_rest 20 = .ok (.iaload, 1) := by decide +kernel
theorem dX3_rest_21 : decode cX3_rest 21 = .ok (.ireturn, 1) := by decide +kernel
set_option maxRecDepth 20000 in
theorem ggX3_entries_X1_entriesInAll : GoodIn wsX3_entries wsX1_entriesInAll := goodIn_r _ [6, 7, 11, 12, 13, 14, 15, 16, 17, 18, 19, 20, 21, 22] (by decide +kernel) (by decide +kernel)
set_option maxRecDepth 20000 in
theorem gX3_entries_X1_entriesInAll : GoodIn wsX3_entries (wsV RX3 119 RX1 yX1_entriesInAll wsX1_entriesInAll) := goodIn_app (goodIn_of _ (by decide +kernel)) ggX3_entries_X1_entriesInAll
theorem dX3_entries_0 : decode cX3_entries 0 = .ok (.aload_n 0, 1) := by decide +kernel
theorem dX3_entries_1 : decode cX3_entries 1 = .ok (.getfield 12, 3) := by decide +kernel
theorem dX3_entries_4 : decode cX3_entries 4 = .ok (.invokevirtual 119, 3) := by decide +kernel
theorem dX3_entries_7 : decode cX3_entries 7 = .ok (.ireturn, 1) := by decide +kernel
set_option maxRecDepth 20000 in
theorem ggX3_isOpen_X3_checkRow : GoodIn wsX3_isOpen wsX3_checkRow := goodIn_ca (goodIn_r _ [5, 6, 7, 8, 9, 4, 10] (by decide +kernel) (by decide +kernel)) (goodIn_sub (fun _ h => List.mem_cons_of_mem _ (List.mem_append_right _ h)) (by decide +kernel))
set_option maxRecDepth 20000 in
theorem gX3_isOpen_X3_checkRow : GoodIn wsX3_isOpen (va_wsS RX3 30 yX3_checkRow wsX3_checkRow) := goodIn_app (goodIn_of _ (by decide +kernel)) ggX3_isOpen_X3_checkRow
set_option maxRecDepth 20000 in
theorem ggX3_isOpen_X1_isRowOpen : GoodIn wsX3_isOpen wsX1_isRowOpen := goodIn_r _ [15, 16, 20, 21, 22, 23, 24, 25, 26, 27, 28, 29, 30, 31] (by decide +kernel) (by decide +kernel)
set_option maxRecDepth 20000 in
theorem gX3_isOpen_X1_isRowOpen : GoodIn wsX3_isOpen (wsV RX3 72 RX1 yX1_isRowOpen wsX1_isRowOpen) := goodIn_app (goodIn_of _ (by decide +kernel)) ggX3_isOpen_X1_isRowOpen
theorem dX3_isOpen_0 : decode cX3_isOpen 0 = .ok (.iload_n 1, 1) := by decide +kernel
theorem dX3_isOpen_1 : decode cX3_isOpen 1 = .ok (.invokestatic 30, 3) := by decide +kernel
theorem dX3_isOpen_4 : decode cX3_isOpen 4 = .ok (.aload_n 0, 1) := by decide +kernel
theorem dX3_isOpen_5 : decode cX3_isOpen 5 = .ok (.getfield 12, 3) := by decide +kernel
theorem dX3_isOpen_8 : decode cX3_isOpen 8 = .ok (.iload_n 1, 1) := by decide +kernel
theorem dX3_isOpen_9 : decode cX3_isOpen 9 = .ok (.invokevirtual 72, 3) := by decide +kernel
theorem dX3_isOpen_12 : decode cX3_isOpen 12 = .ok (.ireturn, 1) := by decide +kernel
set_option maxRecDepth 20000 in
theorem ggX3_rows_X3_checkConcert : GoodIn wsX3_rows wsX3_checkConcert := goodIn_ca (goodIn_r _ [5, 6, 7, 8, 9, 4, 10] (by decide +kernel) (by decide +kernel)) (goodIn_sub (fun _ h => List.mem_cons_of_mem _ (List.mem_append_right _ h)) (by decide +kernel))
set_option maxRecDepth 20000 in
theorem gX3_rows_X3_checkConcert : GoodIn wsX3_rows (va_wsS RX3 34 yX3_checkConcert wsX3_checkConcert) := goodIn_app (goodIn_of _ (by decide +kernel)) ggX3_rows_X3_checkConcert
set_option maxRecDepth 20000 in
theorem ggX3_rows_X1_rowsThatGet : GoodIn wsX3_rows wsX1_rowsThatGet := goodIn_r _ [15, 16, 17, 18, 4, 19, 23, 24, 25, 26, 27, 28, 29, 30, 31, 32, 33, 34] (by decide +kernel) (by decide +kernel)
set_option maxRecDepth 20000 in
theorem gX3_rows_X1_rowsThatGet : GoodIn wsX3_rows (wsV RX3 122 RX1 yX1_rowsThatGet wsX1_rowsThatGet) := goodIn_app (goodIn_of _ (by decide +kernel)) ggX3_rows_X1_rowsThatGet
theorem dX3_rows_0 : decode cX3_rows 0 = .ok (.iload_n 1, 1) := by decide +kernel
theorem dX3_rows_1 : decode cX3_rows 1 = .ok (.invokestatic 34, 3) := by decide +kernel
theorem dX3_rows_4 : decode cX3_rows 4 = .ok (.aload_n 0, 1) := by decide +kernel
theorem dX3_rows_5 : decode cX3_rows 5 = .ok (.getfield 12, 3) := by decide +kernel
theorem dX3_rows_8 : decode cX3_rows 8 = .ok (.iload_n 1, 1) := by decide +kernel
theorem dX3_rows_9 : decode cX3_rows 9 = .ok (.invokevirtual 122, 3) := by decide +kernel
theorem dX3_rows_12 : decode cX3_rows 12 = .ok (.ireturn, 1) := by decide +kernel
set_option maxRecDepth 20000 in
theorem ggX3_wanted_X3_checkConcert : GoodIn wsX3_wanted wsX3_checkConcert := goodIn_ca (goodIn_r _ [5, 6, 7, 8, 9, 4, 10] (by decide +kernel) (by decide +kernel)) (goodIn_sub (fun _ h => List.mem_cons_of_mem _ (List.mem_append_right _ h)) (by decide +kernel))
set_option maxRecDepth 20000 in
theorem gX3_wanted_X3_checkConcert : GoodIn wsX3_wanted (va_wsS RX3 34 yX3_checkConcert wsX3_checkConcert) := goodIn_app (goodIn_of _ (by decide +kernel)) ggX3_wanted_X3_checkConcert
set_option maxRecDepth 20000 in
theorem ggX3_wanted_X1_rowsThatWant : GoodIn wsX3_wanted wsX1_rowsThatWant := goodIn_r _ [15, 16, 4, 17, 18, 19, 20, 14, 21, 22, 26, 27, 28, 29, 30, 31, 32, 33, 34, 35, 36, 37] (by decide +kernel) (by decide +kernel)
set_option maxRecDepth 20000 in
theorem gX3_wanted_X1_rowsThatWant : GoodIn wsX3_wanted (wsV RX3 126 RX1 yX1_rowsThatWant wsX1_rowsThatWant) := goodIn_app (goodIn_of _ (by decide +kernel)) ggX3_wanted_X1_rowsThatWant
theorem dX3_wanted_0 : decode cX3_wanted 0 = .ok (.iload_n 1, 1) := by decide +kernel
theorem dX3_wanted_1 : decode cX3_wanted 1 = .ok (.invokestatic 34, 3) := by decide +kernel
theorem dX3_wanted_4 : decode cX3_wanted 4 = .ok (.aload_n 0, 1) := by decide +kernel
theorem dX3_wanted_5 : decode cX3_wanted 5 = .ok (.getfield 12, 3) := by decide +kernel
theorem dX3_wanted_8 : decode cX3_wanted 8 = .ok (.iload_n 1, 1) := by decide +kernel
theorem dX3_wanted_9 : decode cX3_wanted 9 = .ok (.invokevirtual 126, 3) := by decide +kernel
theorem dX3_wanted_12 : decode cX3_wanted 12 = .ok (.ireturn, 1) := by decide +kernel
set_option maxRecDepth 20000 in
theorem ggX3_pass_X3_checkMinutes : GoodIn wsX3_pass wsX3_checkMinutes := goodIn_ca (goodIn_r _ [6, 7, 8] (by decide +kernel) (by decide +kernel)) (goodIn_sub (fun _ h => List.mem_cons_of_mem _ (List.mem_append_right _ h)) (by decide +kernel))
set_option maxRecDepth 20000 in
theorem gX3_pass_X3_checkMinutes : GoodIn wsX3_pass (va_wsS RX3 129 yX3_checkMinutes wsX3_checkMinutes) := goodIn_app (goodIn_of _ (by decide +kernel)) ggX3_pass_X3_checkMinutes
set_option maxRecDepth 20000 in
theorem ggX3_pass_X2_keep : GoodIn wsX3_pass wsX2_keep := goodIn_r _ [13, 14, 15, 16, 17, 18, 19, 20, 21, 22, 23, 24, 25, 26, 27, 28, 29, 30, 31, 32, 33, 34, 35, 36, 37, 65, 66, 67, 68, 69, 70, 71, 72, 73, 74, 75, 76, 77, 78, 79] (by decide +kernel) (by decide +kernel)
set_option maxRecDepth 20000 in
theorem gX3_pass_X2_keep : GoodIn wsX3_pass (wsV RX3 52 RX2 yX2_keep wsX2_keep) := goodIn_app (goodIn_of _ (by decide +kernel)) ggX3_pass_X2_keep
set_option maxRecDepth 20000 in
theorem ggX3_pass_X1_letPass : GoodIn wsX3_pass wsX1_letPass := goodIn_r _ [41, 36, 37, 42, 43, 44, 20, 45, 27, 46, 47, 48, 49, 35, 50, 51, 52, 53, 32, 31, 54, 55, 56, 57, 28, 58, 59, 60, 61, 22, 33, 68, 69, 70, 71, 72, 73, 74, 75, 76, 77, 78, 79] (by decide +kernel) (by decide +kernel)
set_option maxRecDepth 20000 in
theorem gX3_pass_X1_letPass : GoodIn wsX3_pass (wsV RX3 132 RX1 yX1_letPass wsX1_letPass) := goodIn_app (goodIn_of _ (by decide +kernel)) ggX3_pass_X1_letPass
theorem dX3_pass_0 : decode cX3_pass 0 = .ok (.iload_n 1, 1) := by decide +kernel
theorem dX3_pass_1 : decode cX3_pass 1 = .ok (.invokestatic 129, 3) := by decide +kernel
theorem dX3_pass_4 : decode cX3_pass 4 = .ok (.aload_n 0, 1) := by decide +kernel
theorem dX3_pass_5 : decode cX3_pass 5 = .ok (.getfield 19, 3) := by decide +kernel
theorem dX3_pass_8 : decode cX3_pass 8 = .ok (.aload_n 0, 1) := by decide +kernel
theorem dX3_pass_9 : decode cX3_pass 9 = .ok (.getfield 12, 3) := by decide +kernel
theorem dX3_pass_12 : decode cX3_pass 12 = .ok (.invokevirtual 52, 3) := by decide +kernel
theorem dX3_pass_15 : decode cX3_pass 15 = .ok (.aload_n 0, 1) := by decide +kernel
theorem dX3_pass_16 : decode cX3_pass 16 = .ok (.getfield 12, 3) := by decide +kernel
theorem dX3_pass_19 : decode cX3_pass 19 = .ok (.iload_n 1, 1) := by decide +kernel
theorem dX3_pass_20 : decode cX3_pass 20 = .ok (.invokevirtual 132, 3) := by decide +kernel
theorem dX3_pass_23 : decode cX3_pass 23 = .ok (.ireturn, 1) := by decide +kernel
set_option maxRecDepth 20000 in
theorem ggX3_play_X3_checkConcert : GoodIn wsX3_play wsX3_checkConcert := goodIn_ca (goodIn_r _ [6, 7, 8, 9, 10, 5, 11] (by decide +kernel) (by decide +kernel)) (goodIn_sub (fun _ h => List.mem_cons_of_mem _ (List.mem_append_right _ h)) (by decide +kernel))
set_option maxRecDepth 20000 in
theorem gX3_play_X3_checkConcert : GoodIn wsX3_play (va_wsS RX3 34 yX3_checkConcert wsX3_checkConcert) := goodIn_app (goodIn_of _ (by decide +kernel)) ggX3_play_X3_checkConcert
set_option maxRecDepth 20000 in
theorem ggX3_play_X2_keep : GoodIn wsX3_play wsX2_keep := goodIn_r _ [16, 17, 18, 19, 20, 21, 22, 23, 24, 25, 26, 27, 28, 29, 30, 31, 32, 33, 34, 35, 36, 37, 38, 39, 40, 69, 70, 71, 72, 73, 74, 75, 76, 77, 78, 79, 80, 81, 82, 83] (by decide +kernel) (by decide +kernel)
set_option maxRecDepth 20000 in
theorem gX3_play_X2_keep : GoodIn wsX3_play (wsV RX3 52 RX2 yX2_keep wsX2_keep) := goodIn_app (goodIn_of _ (by decide +kernel)) ggX3_play_X2_keep
set_option maxRecDepth 20000 in
theorem ggX3_play_X1_perform : GoodIn wsX3_play wsX1_perform := goodIn_r _ [44, 31, 45, 46, 47, 23, 48, 32, 30, 49, 5, 50, 51, 52, 53, 54, 55, 56, 57, 58, 25, 59, 60, 61, 62, 63, 64, 65, 72, 73, 74, 75, 76, 77, 78, 79, 80, 81, 82, 83] (by decide +kernel) (by decide +kernel)
set_option maxRecDepth 20000 in
theorem gX3_play_X1_perform : GoodIn wsX3_play (wsV RX3 135 RX1 yX1_perform wsX1_perform) := goodIn_app (goodIn_of _ (by decide +kernel)) ggX3_play_X1_perform
theorem dX3_play_0 : decode cX3_play 0 = .ok (.iload_n 1, 1) := by decide +kernel
theorem dX3_play_1 : decode cX3_play 1 = .ok (.invokestatic 34, 3) := by decide +kernel
theorem dX3_play_4 : decode cX3_play 4 = .ok (.aload_n 0, 1) := by decide +kernel
theorem dX3_play_5 : decode cX3_play 5 = .ok (.getfield 19, 3) := by decide +kernel
theorem dX3_play_8 : decode cX3_play 8 = .ok (.aload_n 0, 1) := by decide +kernel
theorem dX3_play_9 : decode cX3_play 9 = .ok (.getfield 12, 3) := by decide +kernel
theorem dX3_play_12 : decode cX3_play 12 = .ok (.invokevirtual 52, 3) := by decide +kernel
theorem dX3_play_15 : decode cX3_play 15 = .ok (.aload_n 0, 1) := by decide +kernel
theorem dX3_play_16 : decode cX3_play 16 = .ok (.getfield 12, 3) := by decide +kernel
theorem dX3_play_19 : decode cX3_play 19 = .ok (.iload_n 1, 1) := by decide +kernel
theorem dX3_play_20 : decode cX3_play 20 = .ok (.invokevirtual 135, 3) := by decide +kernel
theorem dX3_play_23 : decode cX3_play 23 = .ok (.ireturn, 1) := by decide +kernel
theorem dX3_minutes_0 : decode cX3_minutes 0 = .ok (.aload_n 0, 1) := by decide +kernel
theorem dX3_minutes_1 : decode cX3_minutes 1 = .ok (.getfield 12, 3) := by decide +kernel
theorem dX3_minutes_4 : decode cX3_minutes 4 = .ok (.getfield 138, 3) := by decide +kernel
theorem dX3_minutes_7 : decode cX3_minutes 7 = .ok (.ireturn, 1) := by decide +kernel
theorem dX3_sinceQuestion_0 : decode cX3_sinceQuestion 0 = .ok (.aload_n 0, 1) := by decide +kernel
theorem dX3_sinceQuestion_1 : decode cX3_sinceQuestion 1 = .ok (.getfield 12, 3) := by decide +kernel
theorem dX3_sinceQuestion_4 : decode cX3_sinceQuestion 4 = .ok (.getfield 141, 3) := by decide +kernel
theorem dX3_sinceQuestion_7 : decode cX3_sinceQuestion 7 = .ok (.ireturn, 1) := by decide +kernel
theorem dX3_count_0 : decode cX3_count 0 = .ok (.iload_n 1, 1) := by decide +kernel
theorem dX3_count_1 : decode cX3_count 1 = .ok (.ifCond .lt 9, 3) := by decide +kernel
theorem dX3_count_4 : decode cX3_count 4 = .ok (.iload_n 1, 1) := by decide +kernel
theorem dX3_count_5 : decode cX3_count 5 = .ok (.bipush 6, 2) := by decide +kernel
theorem dX3_count_7 : decode cX3_count 7 = .ok (.if_icmp .lt 13, 3) := by decide +kernel
theorem dX3_count_10 : decode cX3_count 10 = .ok (.new 101, 3) := by decide +kernel
theorem dX3_count_13 : decode cX3_count 13 = .ok (.dup, 1) := by decide +kernel
theorem dX3_count_14 : decode cX3_count 14 = .ok (.ldc 144, 2) := by decide +kernel
theorem dX3_count_16 : decode cX3_count 16 = .ok (.invokespecial 105, 3) := by decide +kernel
theorem dX3_count_19 : decode cX3_count 19 = .ok (.athrow, 1) := by decide +kernel
theorem dX3_count_20 : decode cX3_count 20 = .ok (.aload_n 0, 1) := by decide +kernel
theorem dX3_count_21 : decode cX3_count 21 = .ok (.getfield 12, 3) := by decide +kernel
theorem dX3_count_24 : decode cX3_count 24 = .ok (.getfield 146, 3) := by decide +kernel
theorem dX3_count_27 : decode cX3_count 27 = .ok (.iload_n 1, 1) := by decide +kernel
theorem dX3_count_28 : decode cX3_count 28 = .ok (.iaload, 1) := by decide +kernel
theorem dX3_count_29 : decode cX3_count 29 = .ok (.ireturn, 1) := by decide +kernel
theorem dX3_usefulShare_0 : decode cX3_usefulShare 0 = .ok (.aload_n 0, 1) := by decide +kernel
theorem dX3_usefulShare_1 : decode cX3_usefulShare 1 = .ok (.getfield 12, 3) := by decide +kernel
theorem dX3_usefulShare_4 : decode cX3_usefulShare 4 = .ok (.getfield 146, 3) := by decide +kernel
theorem dX3_usefulShare_7 : decode cX3_usefulShare 7 = .ok (.iconst 0, 1) := by decide +kernel
theorem dX3_usefulShare_8 : decode cX3_usefulShare 8 = .ok (.iaload, 1) := by decide +kernel
theorem dX3_usefulShare_9 : decode cX3_usefulShare 9 = .ok (.istore_n 1, 1) := by decide +kernel
theorem dX3_usefulShare_10 : decode cX3_usefulShare 10 = .ok (.iload_n 1, 1) := by decide +kernel
theorem dX3_usefulShare_11 : decode cX3_usefulShare 11 = .ok (.aload_n 0, 1) := by decide +kernel
theorem dX3_usefulShare_12 : decode cX3_usefulShare 12 = .ok (.getfield 12, 3) := by decide +kernel
theorem dX3_usefulShare_15 : decode cX3_usefulShare 15 = .ok (.getfield 146, 3) := by decide +kernel
theorem dX3_usefulShare_18 : decode cX3_usefulShare 18 = .ok (.iconst 1, 1) := by decide +kernel
theorem dX3_usefulShare_19 : decode cX3_usefulShare 19 = .ok (.iaload, 1) := by decide +kernel
theorem dX3_usefulShare_20 : decode cX3_usefulShare 20 = .ok (.iadd, 1) := by decide +kernel
theorem dX3_usefulShare_21 : decode cX3_usefulShare 21 = .ok (.istore_n 2, 1) := by decide +kernel
theorem dX3_usefulShare_22 : decode cX3_usefulShare 22 = .ok (.iload_n 2, 1) := by decide +kernel
theorem dX3_usefulShare_23 : decode cX3_usefulShare 23 = .ok (.ifCond .ne 5, 3) := by decide +kernel
theorem dX3_usefulShare_26 : decode cX3_usefulShare 26 = .ok (.dconst 1, 1) := by decide +kernel
theorem dX3_usefulShare_27 : decode cX3_usefulShare 27 = .ok (.dreturn, 1) := by decide +kernel
theorem dX3_usefulShare_28 : decode cX3_usefulShare 28 = .ok (.iload_n 1, 1) := by decide +kernel
theorem dX3_usefulShare_29 : decode cX3_usefulShare 29 = .ok (.i2d, 1) := by decide +kernel
theorem dX3_usefulShare_30 : decode cX3_usefulShare 30 = .ok (.iload_n 2, 1) := by decide +kernel
theorem dX3_usefulShare_31 : decode cX3_usefulShare 31 = .ok (.i2d, 1) := by decide +kernel
theorem dX3_usefulShare_32 : decode cX3_usefulShare 32 = .ok (.ddiv, 1) := by decide +kernel
theorem dX3_usefulShare_33 : decode cX3_usefulShare 33 = .ok (.dreturn, 1) := by decide +kernel
set_option maxRecDepth 20000 in
theorem ggX3_minutesToFade_X3_checkRow : GoodIn wsX3_minutesToFade wsX3_checkRow := goodIn_ca (goodIn_r _ [5, 6, 7, 8, 9, 4, 10] (by decide +kernel) (by decide +kernel)) (goodIn_sub (fun _ h => List.mem_cons_of_mem _ (List.mem_append_right _ h)) (by decide +kernel))
set_option maxRecDepth 20000 in
theorem gX3_minutesToFade_X3_checkRow : GoodIn wsX3_minutesToFade (va_wsS RX3 30 yX3_checkRow wsX3_checkRow) := goodIn_app (goodIn_of _ (by decide +kernel)) ggX3_minutesToFade_X3_checkRow
set_option maxRecDepth 20000 in
theorem ggX3_minutesToFade_X3_checkConcert : GoodIn wsX3_minutesToFade wsX3_checkConcert := goodIn_ca (goodIn_r _ [13, 6, 7, 14, 15, 4, 16] (by decide +kernel) (by decide +kernel)) (goodIn_sub (fun _ h => List.mem_cons_of_mem _ (List.mem_append_right _ h)) (by decide +kernel))
set_option maxRecDepth 20000 in
theorem gX3_minutesToFade_X3_checkConcert : GoodIn wsX3_minutesToFade (va_wsS RX3 34 yX3_checkConcert wsX3_checkConcert) := goodIn_app (goodIn_of _ (by decide +kernel)) ggX3_minutesToFade_X3_checkConcert
set_option maxRecDepth 20000 in
theorem ggX3_minutesToFade_X3_placeOf : GoodIn wsX3_minutesToFade wsX3_placeOf := goodIn_r _ [19] (by decide +kernel) (by decide +kernel)
set_option maxRecDepth 20000 in
theorem gX3_minutesToFade_X3_placeOf : GoodIn wsX3_minutesToFade (va_wsS RX3 37 yX3_placeOf wsX3_placeOf) := goodIn_app (goodIn_of _ (by decide +kernel)) ggX3_minutesToFade_X3_placeOf
set_option maxRecDepth 20000 in
theorem ggX3_minutesToFade_X1_fadesIn : GoodIn wsX3_minutesToFade wsX1_fadesIn := goodIn_r _ [24, 25, 26, 27, 28, 29, 23, 30, 31, 32, 33, 34, 35, 36, 37, 38, 39, 40, 41, 42, 43, 44, 45, 46, 47, 48, 49, 50, 51, 55, 56, 57, 58, 59, 60, 61, 62, 63, 64, 65, 66] (by decide +kernel) (by decide +kernel)
set_option maxRecDepth 20000 in
theorem gX3_minutesToFade_X1_fadesIn : GoodIn wsX3_minutesToFade (wsV RX3 149 RX1 yX1_fadesIn wsX1_fadesIn) := goodIn_app (goodIn_of _ (by decide +kernel)) ggX3_minutesToFade_X1_fadesIn
theorem dX3_minutesToFade_0 : decode cX3_minutesToFade 0 = .ok (.iload_n 1, 1) := by decide +kernel
theorem dX3_minutesToFade_1 : decode cX3_minutesToFade 1 = .ok (.invokestatic 30, 3) := by decide +kernel
theorem dX3_minutesToFade_4 : decode cX3_minutesToFade 4 = .ok (.iload_n 2, 1) := by decide +kernel
theorem dX3_minutesToFade_5 : decode cX3_minutesToFade 5 = .ok (.invokestatic 34, 3) := by decide +kernel
theorem dX3_minutesToFade_8 : decode cX3_minutesToFade 8 = .ok (.aload_n 0, 1) := by decide +kernel
theorem dX3_minutesToFade_9 : decode cX3_minutesToFade 9 = .ok (.getfield 12, 3) := by decide +kernel
theorem dX3_minutesToFade_12 : decode cX3_minutesToFade 12 = .ok (.iload_n 1, 1) := by decide +kernel
theorem dX3_minutesToFade_13 : decode cX3_minutesToFade 13 = .ok (.iload_n 2, 1) := by decide +kernel
theorem dX3_minutesToFade_14 : decode cX3_minutesToFade 14 = .ok (.invokestatic 37, 3) := by decide +kernel
theorem dX3_minutesToFade_17 : decode cX3_minutesToFade 17 = .ok (.invokevirtual 149, 3) := by decide +kernel
theorem dX3_minutesToFade_20 : decode cX3_minutesToFade 20 = .ok (.ireturn, 1) := by decide +kernel
set_option maxRecDepth 20000 in
theorem ggX3_minutesToQuestion_X1_asksIn : GoodIn wsX3_minutesToQuestion wsX1_asksIn := goodIn_r _ [6, 7, 8, 9, 10, 11, 12, 13, 14, 5, 15, 16, 17, 18, 19, 20, 21, 22, 26, 27, 28, 29, 30, 31, 32, 33, 34, 35, 36, 37] (by decide +kernel) (by decide +kernel)
set_option maxRecDepth 20000 in
theorem gX3_minutesToQuestion_X1_asksIn : GoodIn wsX3_minutesToQuestion (wsV RX3 152 RX1 yX1_asksIn wsX1_asksIn) := goodIn_app (goodIn_of _ (by decide +kernel)) ggX3_minutesToQuestion_X1_asksIn
theorem dX3_minutesToQuestion_0 : decode cX3_minutesToQuestion 0 = .ok (.aload_n 0, 1) := by decide +kernel
theorem dX3_minutesToQuestion_1 : decode cX3_minutesToQuestion 1 = .ok (.getfield 12, 3) := by decide +kernel
theorem dX3_minutesToQuestion_4 : decode cX3_minutesToQuestion 4 = .ok (.invokevirtual 152, 3) := by decide +kernel
theorem dX3_minutesToQuestion_7 : decode cX3_minutesToQuestion 7 = .ok (.ireturn, 1) := by decide +kernel
set_option maxRecDepth 20000 in
theorem ggX3_disturbedAfter_X3_checkConcert : GoodIn wsX3_disturbedAfter wsX3_checkConcert := goodIn_ca (goodIn_r _ [5, 6, 7, 8, 9, 4, 10] (by decide +kernel) (by decide +kernel)) (goodIn_sub (fun _ h => List.mem_cons_of_mem _ (List.mem_append_left _ (List.mem_append_right _ h))) (by decide +kernel))
set_option maxRecDepth 20000 in
theorem gX3_disturbedAfter_X3_checkConcert : GoodIn wsX3_disturbedAfter (va_wsS RX3 34 yX3_checkConcert wsX3_checkConcert) := goodIn_app (goodIn_of _ (by decide +kernel)) ggX3_disturbedAfter_X3_checkConcert
set_option maxRecDepth 20000 in
theorem ggX3_disturbedAfter_X3_checkMinutes : GoodIn wsX3_disturbedAfter wsX3_checkMinutes := goodIn_ca (goodIn_r _ [13, 14, 15] (by decide +kernel) (by decide +kernel)) (goodIn_sub (fun _ h => List.mem_cons_of_mem _ (List.mem_append_right _ h)) (by decide +kernel))
set_option maxRecDepth 20000 in
theorem gX3_disturbedAfter_X3_checkMinutes : GoodIn wsX3_disturbedAfter (va_wsS RX3 129 yX3_checkMinutes wsX3_checkMinutes) := goodIn_app (goodIn_of _ (by decide +kernel)) ggX3_disturbedAfter_X3_checkMinutes
set_option maxRecDepth 20000 in
theorem ggX3_disturbedAfter_X1_disturbedIn : GoodIn wsX3_disturbedAfter wsX1_disturbedIn := goodIn_r _ [20, 21, 22, 4, 23, 24, 25, 26, 19, 27, 28, 29, 30, 31, 32, 33, 37, 38, 39, 40, 41, 42, 43, 44, 45, 46, 47, 48] (by decide +kernel) (by decide +kernel)
set_option maxRecDepth 20000 in
theorem gX3_disturbedAfter_X1_disturbedIn : GoodIn wsX3_disturbedAfter (wsV RX3 155 RX1 yX1_disturbedIn wsX1_disturbedIn) := goodIn_app (goodIn_of _ (by decide +kernel)) ggX3_disturbedAfter_X1_disturbedIn
theorem dX3_disturbedAfter_0 : decode cX3_disturbedAfter 0 = .ok (.iload_n 1, 1) := by decide +kernel
theorem dX3_disturbedAfter_1 : decode cX3_disturbedAfter 1 = .ok (.invokestatic 34, 3) := by decide +kernel
theorem dX3_disturbedAfter_4 : decode cX3_disturbedAfter 4 = .ok (.iload_n 2, 1) := by decide +kernel
theorem dX3_disturbedAfter_5 : decode cX3_disturbedAfter 5 = .ok (.invokestatic 129, 3) := by decide +kernel
theorem dX3_disturbedAfter_8 : decode cX3_disturbedAfter 8 = .ok (.aload_n 0, 1) := by decide +kernel
theorem dX3_disturbedAfter_9 : decode cX3_disturbedAfter 9 = .ok (.getfield 12, 3) := by decide +kernel
theorem dX3_disturbedAfter_12 : decode cX3_disturbedAfter 12 = .ok (.iload_n 1, 1) := by decide +kernel
theorem dX3_disturbedAfter_13 : decode cX3_disturbedAfter 13 = .ok (.iload_n 2, 1) := by decide +kernel
theorem dX3_disturbedAfter_14 : decode cX3_disturbedAfter 14 = .ok (.invokevirtual 155, 3) := by decide +kernel
theorem dX3_disturbedAfter_17 : decode cX3_disturbedAfter 17 = .ok (.ireturn, 1) := by decide +kernel
set_option maxRecDepth 20000 in
theorem ggX3_append_X0_add : GoodIn wsX3_append wsX0_add := goodIn_r _ [11, 12, 13, 17, 18] (by decide +kernel) (by decide +kernel)
set_option maxRecDepth 20000 in
theorem gX3_append_X0_add : GoodIn wsX3_append (wsV RX3 165 RX0 yX0_add wsX0_add) := goodIn_app (goodIn_of _ (by decide +kernel)) ggX3_append_X0_add
theorem dX3_append_0 : decode cX3_append 0 = .ok (.iload_n 1, 1) := by decide +kernel
theorem dX3_append_1 : decode cX3_append 1 = .ok (.bipush 33, 2) := by decide +kernel
theorem dX3_append_3 : decode cX3_append 3 = .ok (.if_icmp .lt 9, 3) := by decide +kernel
theorem dX3_append_6 : decode cX3_append 6 = .ok (.iload_n 1, 1) := by decide +kernel
theorem dX3_append_7 : decode cX3_append 7 = .ok (.bipush 126, 2) := by decide +kernel
theorem dX3_append_9 : decode cX3_append 9 = .ok (.if_icmp .le 13, 3) := by decide +kernel
theorem dX3_append_12 : decode cX3_append 12 = .ok (.new 82, 3) := by decide +kernel
theorem dX3_append_15 : decode cX3_append 15 = .ok (.dup, 1) := by decide +kernel
theorem dX3_append_16 : decode cX3_append 16 = .ok (.ldc 158, 2) := by decide +kernel
theorem dX3_append_18 : decode cX3_append 18 = .ok (.invokespecial 86, 3) := by decide +kernel
theorem dX3_append_21 : decode cX3_append 21 = .ok (.athrow, 1) := by decide +kernel
theorem dX3_append_22 : decode cX3_append 22 = .ok (.aload_n 0, 1) := by decide +kernel
theorem dX3_append_23 : decode cX3_append 23 = .ok (.getfield 26, 3) := by decide +kernel
theorem dX3_append_26 : decode cX3_append 26 = .ok (.getfield 160, 3) := by decide +kernel
theorem dX3_append_29 : decode cX3_append 29 = .ok (.bipush 60, 2) := by decide +kernel
theorem dX3_append_31 : decode cX3_append 31 = .ok (.if_icmp .lt 13, 3) := by decide +kernel
theorem dX3_append_34 : decode cX3_append 34 = .ok (.new 45, 3) := by decide +kernel
theorem dX3_append_37 : decode cX3_append 37 = .ok (.dup, 1) := by decide +kernel
theorem dX3_append_38 : decode cX3_append 38 = .ok (.ldc 163, 2) := by decide +kernel
theorem dX3_append_40 : decode cX3_append 40 = .ok (.invokespecial 49, 3) := by decide +kernel
theorem dX3_append_43 : decode cX3_append 43 = .ok (.athrow, 1) := by decide +kernel
theorem dX3_append_44 : decode cX3_append 44 = .ok (.aload_n 0, 1) := by decide +kernel
theorem dX3_append_45 : decode cX3_append 45 = .ok (.getfield 26, 3) := by decide +kernel
theorem dX3_append_48 : decode cX3_append 48 = .ok (.iload_n 1, 1) := by decide +kernel
theorem dX3_append_49 : decode cX3_append 49 = .ok (.i2c, 1) := by decide +kernel
theorem dX3_append_50 : decode cX3_append 50 = .ok (.invokevirtual 165, 3) := by decide +kernel
theorem dX3_append_53 : decode cX3_append 53 = .ok (.aload_n 0, 1) := by decide +kernel
theorem dX3_append_54 : decode cX3_append 54 = .ok (.getfield 26, 3) := by decide +kernel
theorem dX3_append_57 : decode cX3_append 57 = .ok (.getfield 160, 3) := by decide +kernel
theorem dX3_append_60 : decode cX3_append 60 = .ok (.ireturn, 1) := by decide +kernel
theorem dX3_clearText_0 : decode cX3_clearText 0 = .ok (.aload_n 0, 1) := by decide +kernel
theorem dX3_clearText_1 : decode cX3_clearText 1 = .ok (.getfield 26, 3) := by decide +kernel
theorem dX3_clearText_4 : decode cX3_clearText 4 = .ok (.getfield 160, 3) := by decide +kernel
theorem dX3_clearText_7 : decode cX3_clearText 7 = .ok (.istore_n 1, 1) := by decide +kernel
theorem dX3_clearText_8 : decode cX3_clearText 8 = .ok (.aload_n 0, 1) := by decide +kernel
theorem dX3_clearText_9 : decode cX3_clearText 9 = .ok (.getfield 26, 3) := by decide +kernel
theorem dX3_clearText_12 : decode cX3_clearText 12 = .ok (.iconst 0, 1) := by decide +kernel
theorem dX3_clearText_13 : decode cX3_clearText 13 = .ok (.putfield 160, 3) := by decide +kernel
theorem dX3_clearText_16 : decode cX3_clearText 16 = .ok (.iload_n 1, 1) := by decide +kernel
theorem dX3_clearText_17 : decode cX3_clearText 17 = .ok (.ireturn, 1) := by decide +kernel
set_option maxRecDepth 20000 in
theorem ggX3_firstError_X0_firstWrongSign : GoodIn wsX3_firstError wsX0_firstWrongSign := goodIn_r _ [6, 7, 8, 9, 10, 5, 11, 12, 13, 14, 15, 16, 17, 18, 19, 20, 21, 22, 23, 24, 25, 26, 27, 31, 32] (by decide +kernel) (by decide +kernel)
set_option maxRecDepth 20000 in
theorem gX3_firstError_X0_firstWrongSign : GoodIn wsX3_firstError (wsV RX3 169 RX0 yX0_firstWrongSign wsX0_firstWrongSign) := goodIn_app (goodIn_of _ (by decide +kernel)) ggX3_firstError_X0_firstWrongSign
theorem dX3_firstError_0 : decode cX3_firstError 0 = .ok (.aload_n 0, 1) := by decide +kernel
theorem dX3_firstError_1 : decode cX3_firstError 1 = .ok (.getfield 26, 3) := by decide +kernel
theorem dX3_firstError_4 : decode cX3_firstError 4 = .ok (.invokevirtual 169, 3) := by decide +kernel
theorem dX3_firstError_7 : decode cX3_firstError 7 = .ok (.ireturn, 1) := by decide +kernel
set_option maxRecDepth 20000 in
theorem ggX3_run_X0_isComplete : GoodIn wsX3_run wsX0_isComplete := goodIn_r _ [11, 12, 13, 14, 15, 10, 16, 17, 18, 19, 20, 21, 22, 23, 24, 25, 26, 27, 28, 29, 30, 31, 32, 177, 178] (by decide +kernel) (by decide +kernel)
set_option maxRecDepth 20000 in
theorem gX3_run_X0_isComplete : GoodIn wsX3_run (wsV RX3 172 RX0 yX0_isComplete wsX0_isComplete) := goodIn_app (goodIn_of _ (by decide +kernel)) ggX3_run_X0_isComplete
set_option maxRecDepth 20000 in
theorem ggX3_run_X2_keep : GoodIn wsX3_run wsX2_keep := goodIn_r _ [37, 38, 39, 40, 41, 42, 43, 44, 45, 46, 47, 48, 49, 50, 51, 52, 53, 54, 55, 56, 57, 58, 59, 60, 61, 179, 180, 181, 182, 183, 184, 185, 186, 187, 188, 189, 190, 191, 192, 193] (by decide +kernel) (by decide +kernel)
set_option maxRecDepth 20000 in
theorem gX3_run_X2_keep : GoodIn wsX3_run (wsV RX3 52 RX2 yX2_keep wsX2_keep) := goodIn_app (goodIn_of _ (by decide +kernel)) ggX3_run_X2_keep
set_option maxRecDepth 20000 in
theorem ggX3_run_X3_doEvents : GoodIn wsX3_run wsX3_doEvents := goodIn_r _ [66, 3, 6, 67, 68, 69, 10, 70, 13, 14, 15, 16, 12, 17, 71, 72, 73, 65, 74, 5, 75, 76, 77, 78, 79, 80, 81, 82, 83, 84, 85, 86, 87, 88, 89, 90, 91, 92, 93, 94, 95, 44, 96, 46, 97, 98, 99, 100, 101, 102, 103, 104, 51, 57, 52, 105, 106, 107, 108, 109, 110, 111, 112, 113, 114, 115, 116, 117, 118, 119, 120, 54, 58, 121, 122, 123, 124, 125, 126, 127, 128, 129, 130, 131, 132, 133, 53, 134, 135, 136, 137, 138, 139, 140, 141, 142, 143, 144, 145, 146, 147, 148, 149, 150, 151, 152, 153, 60, 61, 154, 155, 156, 157, 158, 159, 160, 161, 59, 162, 163, 164, 165, 56, 55, 166, 167, 168, 169, 170, 171, 172, 173, 174, 175, 176, 177, 178, 182, 183, 184, 185, 186, 187, 188, 189, 190, 191, 192, 193] (by decide +kernel) (by decide +kernel)
set_option maxRecDepth 20000 in
theorem gX3_run_X3_doEvents : GoodIn wsX3_run (wsV RX3 178 RX3 yX3_doEvents wsX3_doEvents) := goodIn_app (goodIn_of _ (by decide +kernel)) ggX3_run_X3_doEvents
theorem dX3_run_0 : decode cX3_run 0 = .ok (.aload_n 0, 1) := by decide +kernel
theorem dX3_run_1 : decode cX3_run 1 = .ok (.getfield 26, 3) := by decide +kernel
theorem dX3_run_4 : decode cX3_run 4 = .ok (.invokevirtual 172, 3) := by decide +kernel
theorem dX3_run_7 : decode cX3_run 7 = .ok (.ifCond .ne 13, 3) := by decide +kernel
theorem dX3_run_10 : decode cX3_run 10 = .ok (.new 82, 3) := by decide +kernel
theorem dX3_run_13 : decode cX3_run 13 = .ok (.dup, 1) := by decide +kernel
theorem dX3_run_14 : decode cX3_run 14 = .ok (.ldc 176, 2) := by decide +kernel
theorem dX3_run_16 : decode cX3_run 16 = .ok (.invokespecial 86, 3) := by decide +kernel
theorem dX3_run_19 : decode cX3_run 19 = .ok (.athrow, 1) := by decide +kernel
theorem dX3_run_20 : decode cX3_run 20 = .ok (.aload_n 0, 1) := by decide +kernel
theorem dX3_run_21 : decode cX3_run 21 = .ok (.getfield 19, 3) := by decide +kernel
theorem dX3_run_24 : decode cX3_run 24 = .ok (.aload_n 0, 1) := by decide +kernel
theorem dX3_run_25 : decode cX3_run 25 = .ok (.getfield 12, 3) := by decide +kernel
theorem dX3_run_28 : decode cX3_run 28 = .ok (.invokevirtual 52, 3) := by decide +kernel
theorem dX3_run_31 : decode cX3_run 31 = .ok (.aload_n 0, 1) := by decide +kernel
theorem dX3_run_32 : decode cX3_run 32 = .ok (.invokevirtual 178, 3) := by decide +kernel
theorem dX3_run_35 : decode cX3_run 35 = .ok (.istore_n 1, 1) := by decide +kernel
theorem dX3_run_36 : decode cX3_run 36 = .ok (.aload_n 0, 1) := by decide +kernel
theorem dX3_run_37 : decode cX3_run 37 = .ok (.getfield 26, 3) := by decide +kernel
theorem dX3_run_40 : decode cX3_run 40 = .ok (.iconst 0, 1) := by decide +kernel
theorem dX3_run_41 : decode cX3_run 41 = .ok (.putfield 160, 3) := by decide +kernel
theorem dX3_run_44 : decode cX3_run 44 = .ok (.iload_n 1, 1) := by decide +kernel
theorem dX3_run_45 : decode cX3_run 45 = .ok (.ireturn, 1) := by decide +kernel
set_option maxRecDepth 20000 in
theorem ggX3_undo_X2_takeBack : GoodIn wsX3_undo wsX2_takeBack := goodIn_r _ [10, 11, 12, 13, 14, 15, 16, 17, 18, 19, 20, 21, 22, 23, 24, 25, 26, 27, 28, 29, 30, 31, 32, 33, 34, 38, 39, 40, 41, 42, 43, 44, 45, 46, 47, 48, 49, 50, 51, 52] (by decide +kernel) (by decide +kernel)
set_option maxRecDepth 20000 in
theorem gX3_undo_X2_takeBack : GoodIn wsX3_undo (wsV RX3 186 RX2 yX2_takeBack wsX2_takeBack) := goodIn_app (goodIn_of _ (by decide +kernel)) ggX3_undo_X2_takeBack
theorem dX3_undo_0 : decode cX3_undo 0 = .ok (.aload_n 0, 1) := by decide +kernel
theorem dX3_undo_1 : decode cX3_undo 1 = .ok (.getfield 19, 3) := by decide +kernel
theorem dX3_undo_4 : decode cX3_undo 4 = .ok (.getfield 181, 3) := by decide +kernel
theorem dX3_undo_7 : decode cX3_undo 7 = .ok (.ifCond .ne 13, 3) := by decide +kernel
theorem dX3_undo_10 : decode cX3_undo 10 = .ok (.new 45, 3) := by decide +kernel
theorem dX3_undo_13 : decode cX3_undo 13 = .ok (.dup, 1) := by decide +kernel
theorem dX3_undo_14 : decode cX3_undo 14 = .ok (.ldc 184, 2) := by decide +kernel
theorem dX3_undo_16 : decode cX3_undo 16 = .ok (.invokespecial 49, 3) := by decide +kernel
theorem dX3_undo_19 : decode cX3_undo 19 = .ok (.athrow, 1) := by decide +kernel
theorem dX3_undo_20 : decode cX3_undo 20 = .ok (.aload_n 0, 1) := by decide +kernel
theorem dX3_undo_21 : decode cX3_undo 21 = .ok (.getfield 19, 3) := by decide +kernel
theorem dX3_undo_24 : decode cX3_undo 24 = .ok (.aload_n 0, 1) := by decide +kernel
theorem dX3_undo_25 : decode cX3_undo 25 = .ok (.getfield 12, 3) := by decide +kernel
theorem dX3_undo_28 : decode cX3_undo 28 = .ok (.invokevirtual 186, 3) := by decide +kernel
theorem dX3_undo_31 : decode cX3_undo 31 = .ok (.aload_n 0, 1) := by decide +kernel
theorem dX3_undo_32 : decode cX3_undo 32 = .ok (.getfield 19, 3) := by decide +kernel
theorem dX3_undo_35 : decode cX3_undo 35 = .ok (.getfield 181, 3) := by decide +kernel
theorem dX3_undo_38 : decode cX3_undo 38 = .ok (.ireturn, 1) := by decide +kernel
theorem dX3_savedStates_0 : decode cX3_savedStates 0 = .ok (.aload_n 0, 1) := by decide +kernel
theorem dX3_savedStates_1 : decode cX3_savedStates 1 = .ok (.getfield 19, 3) := by decide +kernel
theorem dX3_savedStates_4 : decode cX3_savedStates 4 = .ok (.getfield 181, 3) := by decide +kernel
theorem dX3_savedStates_7 : decode cX3_savedStates 7 = .ok (.ireturn, 1) := by decide +kernel
set_option maxRecDepth 20000 in
theorem ggX3_digest_X3_mix : GoodIn wsX3_digest wsX3_mix := goodIn_r _ [9, 10] (by decide +kernel) (by decide +kernel)
set_option maxRecDepth 20000 in
theorem gX3_digest_X3_mix : GoodIn wsX3_digest (va_wsS RX3 191 yX3_mix wsX3_mix) := goodIn_app (goodIn_of _ (by decide +kernel)) ggX3_digest_X3_mix
set_option maxRecDepth 20000 in
theorem ggX3_digest_X1_chiefAsker : GoodIn wsX3_digest wsX1_chiefAsker := goodIn_r _ [15, 16, 17, 74, 75, 76, 77, 78, 79, 80, 81, 82, 83, 84, 85] (by decide +kernel) (by decide +kernel)
set_option maxRecDepth 20000 in
theorem gX3_digest_X1_chiefAsker : GoodIn wsX3_digest (wsV RX3 112 RX1 yX1_chiefAsker wsX1_chiefAsker) := goodIn_app (goodIn_of _ (by decide +kernel)) ggX3_digest_X1_chiefAsker
set_option maxRecDepth 20000 in
theorem ggX3_digest_X1_entriesInAll : GoodIn wsX3_digest wsX1_entriesInAll := goodIn_r _ [21, 22, 74, 75, 76, 77, 78, 79, 80, 81, 82, 83, 84, 85] (by decide +kernel) (by decide +kernel)
set_option maxRecDepth 20000 in
theorem gX3_digest_X1_entriesInAll : GoodIn wsX3_digest (wsV RX3 119 RX1 yX1_entriesInAll wsX1_entriesInAll) := goodIn_app (goodIn_of _ (by decide +kernel)) ggX3_digest_X1_entriesInAll
set_option maxRecDepth 20000 in
theorem ggX3_digest_X1_asksIn : GoodIn wsX3_digest wsX1_asksIn := goodIn_r _ [26, 27, 28, 29, 30, 31, 32, 33, 34, 14, 35, 36, 37, 12, 13, 15, 16, 17, 74, 75, 76, 77, 78, 79, 80, 81, 82, 83, 84, 85] (by decide +kernel) (by decide +kernel)
set_option maxRecDepth 20000 in
theorem gX3_digest_X1_asksIn : GoodIn wsX3_digest (wsV RX3 152 RX1 yX1_asksIn wsX1_asksIn) := goodIn_app (goodIn_of _ (by decide +kernel)) ggX3_digest_X1_asksIn
set_option maxRecDepth 20000 in
theorem ggX3_digest_X1_rowsThatGet : GoodIn wsX3_digest wsX1_rowsThatGet := goodIn_r _ [41, 42, 22, 43, 8, 44, 74, 75, 76, 77, 78, 79, 80, 81, 82, 83, 84, 85] (by decide +kernel) (by decide +kernel)
set_option maxRecDepth 20000 in
theorem gX3_digest_X1_rowsThatGet : GoodIn wsX3_digest (wsV RX3 122 RX1 yX1_rowsThatGet wsX1_rowsThatGet) := goodIn_app (goodIn_of _ (by decide +kernel)) ggX3_digest_X1_rowsThatGet
set_option maxRecDepth 20000 in
theorem ggX3_digest_X1_rowsThatWant : GoodIn wsX3_digest wsX1_rowsThatWant := goodIn_r _ [48, 43, 8, 44, 49, 50, 51, 14, 52, 53, 74, 75, 76, 77, 78, 79, 80, 81, 82, 83, 84, 85] (by decide +kernel) (by decide +kernel)
set_option maxRecDepth 20000 in
theorem gX3_digest_X1_rowsThatWant : GoodIn wsX3_digest (wsV RX3 126 RX1 yX1_rowsThatWant wsX1_rowsThatWant) := goodIn_app (goodIn_of _ (by decide +kernel)) ggX3_digest_X1_rowsThatWant
set_option maxRecDepth 20000 in
theorem ggX3_digest_X3_mixRow : GoodIn wsX3_digest wsX3_mixRow := goodIn_r _ [57, 2, 58, 59, 60, 61, 62, 14, 63, 42, 6, 7, 8, 9, 10, 64, 43, 44, 65, 66, 67, 68, 22, 69, 70, 24, 25, 26, 27, 28, 29, 30, 31, 32, 33, 34, 35, 36, 37, 12, 13, 15, 16, 17, 49, 50, 51, 52, 53, 71, 72, 73, 74, 75, 76, 77, 78, 79, 80, 81, 82, 83, 84, 85] (by decide +kernel) (by decide +kernel)
set_option maxRecDepth 20000 in
theorem gX3_digest_X3_mixRow : GoodIn wsX3_digest (wsV RX3 195 RX3 yX3_mixRow wsX3_mixRow) := goodIn_app (goodIn_of _ (by decide +kernel)) ggX3_digest_X3_mixRow
theorem dX3_digest_0 : decode cX3_digest 0 = .ok (.ldc2_w 189, 3) := by decide +kernel
theorem dX3_digest_3 : decode cX3_digest 3 = .ok (.lstore_n 1, 1) := by decide +kernel
theorem dX3_digest_4 : decode cX3_digest 4 = .ok (.lload_n 1, 1) := by decide +kernel
theorem dX3_digest_5 : decode cX3_digest 5 = .ok (.aload_n 0, 1) := by decide +kernel
theorem dX3_digest_6 : decode cX3_digest 6 = .ok (.getfield 12, 3) := by decide +kernel
theorem dX3_digest_9 : decode cX3_digest 9 = .ok (.getfield 138, 3) := by decide +kernel
theorem dX3_digest_12 : decode cX3_digest 12 = .ok (.invokestatic 191, 3) := by decide +kernel
theorem dX3_digest_15 : decode cX3_digest 15 = .ok (.lstore_n 1, 1) := by decide +kernel
theorem dX3_digest_16 : decode cX3_digest 16 = .ok (.lload_n 1, 1) := by decide +kernel
theorem dX3_digest_17 : decode cX3_digest 17 = .ok (.aload_n 0, 1) := by decide +kernel
theorem dX3_digest_18 : decode cX3_digest 18 = .ok (.getfield 12, 3) := by decide +kernel
theorem dX3_digest_21 : decode cX3_digest 21 = .ok (.getfield 141, 3) := by decide +kernel
theorem dX3_digest_24 : decode cX3_digest 24 = .ok (.invokestatic 191, 3) := by decide +kernel
theorem dX3_digest_27 : decode cX3_digest 27 = .ok (.lstore_n 1, 1) := by decide +kernel
theorem dX3_digest_28 : decode cX3_digest 28 = .ok (.lload_n 1, 1) := by decide +kernel
theorem dX3_digest_29 : decode cX3_digest 29 = .ok (.aload_n 0, 1) := by decide +kernel
theorem dX3_digest_30 : decode cX3_digest 30 = .ok (.getfield 12, 3) := by decide +kernel
theorem dX3_digest_33 : decode cX3_digest 33 = .ok (.invokevirtual 112, 3) := by decide +kernel
theorem dX3_digest_36 : decode cX3_digest 36 = .ok (.invokestatic 191, 3) := by decide +kernel
theorem dX3_digest_39 : decode cX3_digest 39 = .ok (.lstore_n 1, 1) := by decide +kernel
theorem dX3_digest_40 : decode cX3_digest 40 = .ok (.lload_n 1, 1) := by decide +kernel
theorem dX3_digest_41 : decode cX3_digest 41 = .ok (.aload_n 0, 1) := by decide +kernel
theorem dX3_digest_42 : decode cX3_digest 42 = .ok (.getfield 12, 3) := by decide +kernel
theorem dX3_digest_45 : decode cX3_digest 45 = .ok (.invokevirtual 119, 3) := by decide +kernel
theorem dX3_digest_48 : decode cX3_digest 48 = .ok (.invokestatic 191, 3) := by decide +kernel
theorem dX3_digest_51 : decode cX3_digest 51 = .ok (.lstore_n 1, 1) := by decide +kernel
theorem dX3_digest_52 : decode cX3_digest 52 = .ok (.lload_n 1, 1) := by decide +kernel
theorem dX3_digest_53 : decode cX3_digest 53 = .ok (.aload_n 0, 1) := by decide +kernel
theorem dX3_digest_54 : decode cX3_digest 54 = .ok (.getfield 12, 3) := by decide +kernel
theorem dX3_digest_57 : decode cX3_digest 57 = .ok (.invokevirtual 152, 3) := by decide +kernel
theorem dX3_digest_60 : decode cX3_digest 60 = .ok (.invokestatic 191, 3) := by decide +kernel
theorem dX3_digest_63 : decode cX3_digest 63 = .ok (.lstore_n 1, 1) := by decide +kernel
theorem dX3_digest_64 : decode cX3_digest 64 = .ok (.iconst 0, 1) := by decide +kernel
theorem dX3_digest_65 : decode cX3_digest 65 = .ok (.istore_n 3, 1) := by decide +kernel
theorem dX3_digest_66 : decode cX3_digest 66 = .ok (.iload_n 3, 1) := by decide +kernel
theorem dX3_digest_67 : decode cX3_digest 67 = .ok (.bipush 6, 2) := by decide +kernel
theorem dX3_digest_69 : decode cX3_digest 69 = .ok (.if_icmp .ge 23, 3) := by decide +kernel
theorem dX3_digest_72 : decode cX3_digest 72 = .ok (.lload_n 1, 1) := by decide +kernel
theorem dX3_digest_73 : decode cX3_digest 73 = .ok (.aload_n 0, 1) := by decide +kernel
theorem dX3_digest_74 : decode cX3_digest 74 = .ok (.getfield 12, 3) := by decide +kernel
theorem dX3_digest_77 : decode cX3_digest 77 = .ok (.getfield 146, 3) := by decide +kernel
theorem dX3_digest_80 : decode cX3_digest 80 = .ok (.iload_n 3, 1) := by decide +kernel
theorem dX3_digest_81 : decode cX3_digest 81 = .ok (.iaload, 1) := by decide +kernel
theorem dX3_digest_82 : decode cX3_digest 82 = .ok (.invokestatic 191, 3) := by decide +kernel
theorem dX3_digest_85 : decode cX3_digest 85 = .ok (.lstore_n 1, 1) := by decide +kernel
theorem dX3_digest_86 : decode cX3_digest 86 = .ok (.iinc 3 1, 3) := by decide +kernel
theorem dX3_digest_89 : decode cX3_digest 89 = .ok (.goto (-23), 3) := by decide +kernel
theorem dX3_digest_92 : decode cX3_digest 92 = .ok (.iconst 0, 1) := by decide +kernel
theorem dX3_digest_93 : decode cX3_digest 93 = .ok (.istore_n 3, 1) := by decide +kernel
theorem dX3_digest_94 : decode cX3_digest 94 = .ok (.iload_n 3, 1) := by decide +kernel
theorem dX3_digest_95 : decode cX3_digest 95 = .ok (.bipush 6, 2) := by decide +kernel
theorem dX3_digest_97 : decode cX3_digest 97 = .ok (.if_icmp .ge 35, 3) := by decide +kernel
theorem dX3_digest_100 : decode cX3_digest 100 = .ok (.lload_n 1, 1) := by decide +kernel
theorem dX3_digest_101 : decode cX3_digest 101 = .ok (.aload_n 0, 1) := by decide +kernel
theorem dX3_digest_102 : decode cX3_digest 102 = .ok (.getfield 12, 3) := by decide +kernel
theorem dX3_digest_105 : decode cX3_digest 105 = .ok (.iload_n 3, 1) := by decide +kernel
theorem dX3_digest_106 : decode cX3_digest 106 = .ok (.invokevirtual 122, 3) := by decide +kernel
theorem dX3_digest_109 : decode cX3_digest 109 = .ok (.invokestatic 191, 3) := by decide +kernel
theorem dX3_digest_112 : decode cX3_digest 112 = .ok (.lstore_n 1, 1) := by decide +kernel
theorem dX3_digest_113 : decode cX3_digest 113 = .ok (.lload_n 1, 1) := by decide +kernel
theorem dX3_digest_114 : decode cX3_digest 114 = .ok (.aload_n 0, 1) := by decide +kernel
theorem dX3_digest_115 : decode cX3_digest 115 = .ok (.getfield 12, 3) := by decide +kernel
theorem dX3_digest_118 : decode cX3_digest 118 = .ok (.iload_n 3, 1) := by decide +kernel
theorem dX3_digest_119 : decode cX3_digest 119 = .ok (.invokevirtual 126, 3) := by decide +kernel
theorem dX3_digest_122 : decode cX3_digest 122 = .ok (.invokestatic 191, 3) := by decide +kernel
theorem dX3_digest_125 : decode cX3_digest 125 = .ok (.lstore_n 1, 1) := by decide +kernel
theorem dX3_digest_126 : decode cX3_digest 126 = .ok (.iinc 3 1, 3) := by decide +kernel
theorem dX3_digest_129 : decode cX3_digest 129 = .ok (.goto (-35), 3) := by decide +kernel
theorem dX3_digest_132 : decode cX3_digest 132 = .ok (.iconst 0, 1) := by decide +kernel
theorem dX3_digest_133 : decode cX3_digest 133 = .ok (.istore_n 3, 1) := by decide +kernel
theorem dX3_digest_134 : decode cX3_digest 134 = .ok (.iload_n 3, 1) := by decide +kernel
theorem dX3_digest_135 : decode cX3_digest 135 = .ok (.bipush 8, 2) := by decide +kernel
theorem dX3_digest_137 : decode cX3_digest 137 = .ok (.if_icmp .ge 16, 3) := by decide +kernel
theorem dX3_digest_140 : decode cX3_digest 140 = .ok (.aload_n 0, 1) := by decide +kernel
theorem dX3_digest_141 : decode cX3_digest 141 = .ok (.lload_n 1, 1) := by decide +kernel
theorem dX3_digest_142 : decode cX3_digest 142 = .ok (.iload_n 3, 1) := by decide +kernel
theorem dX3_digest_143 : decode cX3_digest 143 = .ok (.invokevirtual 195, 3) := by decide +kernel
theorem dX3_digest_146 : decode cX3_digest 146 = .ok (.lstore_n 1, 1) := by decide +kernel
theorem dX3_digest_147 : decode cX3_digest 147 = .ok (.iinc 3 1, 3) := by decide +kernel
theorem dX3_digest_150 : decode cX3_digest 150 = .ok (.goto (-16), 3) := by decide +kernel
theorem dX3_digest_153 : decode cX3_digest 153 = .ok (.lload_n 1, 1) := by decide +kernel
theorem dX3_digest_154 : decode cX3_digest 154 = .ok (.lreturn, 1) := by decide +kernel
set_option maxRecDepth 20000 in
theorem ggX3_mixRow_X1_isRowOpen : GoodIn wsX3_mixRow wsX1_isRowOpen := goodIn_r _ [8, 9, 52, 53, 54, 55, 56, 57, 58, 59, 60, 61, 62, 63] (by decide +kernel) (by decide +kernel)
set_option maxRecDepth 20000 in
theorem gX3_mixRow_X1_isRowOpen : GoodIn wsX3_mixRow (wsV RX3 72 RX1 yX1_isRowOpen wsX1_isRowOpen) := goodIn_app (goodIn_of _ (by decide +kernel)) ggX3_mixRow_X1_isRowOpen
set_option maxRecDepth 20000 in
theorem ggX3_mixRow_X3_mix : GoodIn wsX3_mixRow wsX3_mix := goodIn_r _ [13, 14] (by decide +kernel) (by decide +kernel)
set_option maxRecDepth 20000 in
theorem gX3_mixRow_X3_mix : GoodIn wsX3_mixRow (va_wsS RX3 191 yX3_mix wsX3_mix) := goodIn_app (goodIn_of _ (by decide +kernel)) ggX3_mixRow_X3_mix
set_option maxRecDepth 20000 in
theorem ggX3_mixRow_X3_placeOf : GoodIn wsX3_mixRow wsX3_placeOf := goodIn_r _ [17] (by decide +kernel) (by decide +kernel)
set_option maxRecDepth 20000 in
theorem gX3_mixRow_X3_placeOf : GoodIn wsX3_mixRow (va_wsS RX3 37 yX3_placeOf wsX3_placeOf) := goodIn_app (goodIn_of _ (by decide +kernel)) ggX3_mixRow_X3_placeOf
set_option maxRecDepth 20000 in
theorem ggX3_mixRow_X1_fadesIn : GoodIn wsX3_mixRow wsX1_fadesIn := goodIn_r _ [21, 22, 23, 24, 25, 26, 7, 27, 28, 29, 30, 31, 32, 33, 34, 35, 36, 37, 38, 39, 40, 41, 42, 43, 44, 45, 46, 47, 48, 52, 53, 54, 55, 56, 57, 58, 59, 60, 61, 62, 63] (by decide +kernel) (by decide +kernel)
set_option maxRecDepth 20000 in
theorem gX3_mixRow_X1_fadesIn : GoodIn wsX3_mixRow (wsV RX3 149 RX1 yX1_fadesIn wsX1_fadesIn) := goodIn_app (goodIn_of _ (by decide +kernel)) ggX3_mixRow_X1_fadesIn
theorem dX3_mixRow_0 : decode cX3_mixRow 0 = .ok (.lload_n 1, 1) := by decide +kernel
theorem dX3_mixRow_1 : decode cX3_mixRow 1 = .ok (.aload_n 0, 1) := by decide +kernel
theorem dX3_mixRow_2 : decode cX3_mixRow 2 = .ok (.getfield 12, 3) := by decide +kernel
theorem dX3_mixRow_5 : decode cX3_mixRow 5 = .ok (.iload_n 3, 1) := by decide +kernel
theorem dX3_mixRow_6 : decode cX3_mixRow 6 = .ok (.invokevirtual 72, 3) := by decide +kernel
theorem dX3_mixRow_9 : decode cX3_mixRow 9 = .ok (.ifCond .eq 7, 3) := by decide +kernel
theorem dX3_mixRow_12 : decode cX3_mixRow 12 = .ok (.iconst 1, 1) := by decide +kernel
theorem dX3_mixRow_13 : decode cX3_mixRow 13 = .ok (.goto 4, 3) := by decide +kernel
theorem dX3_mixRow_16 : decode cX3_mixRow 16 = .ok (.iconst 0, 1) := by decide +kernel
theorem dX3_mixRow_17 : decode cX3_mixRow 17 = .ok (.invokestatic 191, 3) := by decide +kernel
theorem dX3_mixRow_20 : decode cX3_mixRow 20 = .ok (.lstore 4, 2) := by decide +kernel
theorem dX3_mixRow_22 : decode cX3_mixRow 22 = .ok (.iconst 0, 1) := by decide +kernel
theorem dX3_mixRow_23 : decode cX3_mixRow 23 = .ok (.istore 6, 2) := by decide +kernel
theorem dX3_mixRow_25 : decode cX3_mixRow 25 = .ok (.iload 6, 2) := by decide +kernel
theorem dX3_mixRow_27 : decode cX3_mixRow 27 = .ok (.bipush 6, 2) := by decide +kernel
theorem dX3_mixRow_29 : decode cX3_mixRow 29 = .ok (.if_icmp .ge 67, 3) := by decide +kernel
theorem dX3_mixRow_32 : decode cX3_mixRow 32 = .ok (.iload_n 3, 1) := by decide +kernel
theorem dX3_mixRow_33 : decode cX3_mixRow 33 = .ok (.iload 6, 2) := by decide +kernel
theorem dX3_mixRow_35 : decode cX3_mixRow 35 = .ok (.invokestatic 37, 3) := by decide +kernel
theorem dX3_mixRow_38 : decode cX3_mixRow 38 = .ok (.istore 7, 2) := by decide +kernel
theorem dX3_mixRow_40 : decode cX3_mixRow 40 = .ok (.lload 4, 2) := by decide +kernel
theorem dX3_mixRow_42 : decode cX3_mixRow 42 = .ok (.aload_n 0, 1) := by decide +kernel
theorem dX3_mixRow_43 : decode cX3_mixRow 43 = .ok (.getfield 12, 3) := by decide +kernel
theorem dX3_mixRow_46 : decode cX3_mixRow 46 = .ok (.getfield 59, 3) := by decide +kernel
theorem dX3_mixRow_49 : decode cX3_mixRow 49 = .ok (.iload 7, 2) := by decide +kernel
theorem dX3_mixRow_51 : decode cX3_mixRow 51 = .ok (.iaload, 1) := by decide +kernel
theorem dX3_mixRow_52 : decode cX3_mixRow 52 = .ok (.invokestatic 191, 3) := by decide +kernel
theorem dX3_mixRow_55 : decode cX3_mixRow 55 = .ok (.lstore 4, 2) := by decide +kernel
theorem dX3_mixRow_57 : decode cX3_mixRow 57 = .ok (.lload 4, 2) := by decide +kernel
theorem dX3_mixRow_59 : decode cX3_mixRow 59 = .ok (.aload_n 0, 1) := by decide +kernel
theorem dX3_mixRow_60 : decode cX3_mixRow 60 = .ok (.getfield 12, 3) := by decide +kernel
theorem dX3_mixRow_63 : decode cX3_mixRow 63 = .ok (.getfield 116, 3) := by decide +kernel
theorem dX3_mixRow_66 : decode cX3_mixRow 66 = .ok (.iload 7, 2) := by decide +kernel
theorem dX3_mixRow_68 : decode cX3_mixRow 68 = .ok (.iaload, 1) := by decide +kernel
theorem dX3_mixRow_69 : decode cX3_mixRow 69 = .ok (.invokestatic 191, 3) := by decide +kernel
theorem dX3_mixRow_72 : decode cX3_mixRow 72 = .ok (.lstore 4, 2) := by decide +kernel
theorem dX3_mixRow_74 : decode cX3_mixRow 74 = .ok (.lload 4, 2) := by decide +kernel
theorem dX3_mixRow_76 : decode cX3_mixRow 76 = .ok (.aload_n 0, 1) := by decide +kernel
theorem dX3_mixRow_77 : decode cX3_mixRow 77 = .ok (.getfield 12, 3) := by decide +kernel
theorem dX3_mixRow_80 : decode cX3_mixRow 80 = .ok (.iload 7, 2) := by decide +kernel
theorem dX3_mixRow_82 : decode cX3_mixRow 82 = .ok (.invokevirtual 149, 3) := by decide +kernel
theorem dX3_mixRow_85 : decode cX3_mixRow 85 = .ok (.invokestatic 191, 3) := by decide +kernel
theorem dX3_mixRow_88 : decode cX3_mixRow 88 = .ok (.lstore 4, 2) := by decide +kernel
theorem dX3_mixRow_90 : decode cX3_mixRow 90 = .ok (.iinc 6 1, 3) := by decide +kernel
theorem dX3_mixRow_93 : decode cX3_mixRow 93 = .ok (.goto (-68), 3) := by decide +kernel
theorem dX3_mixRow_96 : decode cX3_mixRow 96 = .ok (.lload 4, 2) := by decide +kernel
theorem dX3_mixRow_98 : decode cX3_mixRow 98 = .ok (.lreturn, 1) := by decide +kernel
theorem dX3_mix_0 : decode cX3_mix 0 = .ok (.ldc2_w 198, 3) := by decide +kernel
theorem dX3_mix_3 : decode cX3_mix 3 = .ok (.lload_n 0, 1) := by decide +kernel
theorem dX3_mix_4 : decode cX3_mix 4 = .ok (.lmul, 1) := by decide +kernel
theorem dX3_mix_5 : decode cX3_mix 5 = .ok (.iload_n 2, 1) := by decide +kernel
theorem dX3_mix_6 : decode cX3_mix 6 = .ok (.i2l, 1) := by decide +kernel
theorem dX3_mix_7 : decode cX3_mix 7 = .ok (.ladd, 1) := by decide +kernel
theorem dX3_mix_8 : decode cX3_mix 8 = .ok (.lreturn, 1) := by decide +kernel
set_option maxRecDepth 20000 in
theorem ggX3_checkRow_X3_isRow : GoodIn wsX3_checkRow wsX3_isRow := goodIn_r _ [6] (by decide +kernel) (by decide +kernel)
set_option maxRecDepth 20000 in
theorem gX3_checkRow_X3_isRow : GoodIn wsX3_checkRow (va_wsS RX3 200 yX3_isRow wsX3_isRow) := goodIn_app (goodIn_of _ (by decide +kernel)) ggX3_checkRow_X3_isRow
theorem dX3_checkRow_0 : decode cX3_checkRow 0 = .ok (.iload_n 0, 1) := by decide +kernel
theorem dX3_checkRow_1 : decode cX3_checkRow 1 = .ok (.invokestatic 200, 3) := by decide +kernel
theorem dX3_checkRow_4 : decode cX3_checkRow 4 = .ok (.ifCond .ne 13, 3) := by decide +kernel
theorem dX3_checkRow_7 : decode cX3_checkRow 7 = .ok (.new 101, 3) := by decide +kernel
theorem dX3_checkRow_10 : decode cX3_checkRow 10 = .ok (.dup, 1) := by decide +kernel
theorem dX3_checkRow_11 : decode cX3_checkRow 11 = .ok (.ldc 203, 2) := by decide +kernel
theorem dX3_checkRow_13 : decode cX3_checkRow 13 = .ok (.invokespecial 105, 3) := by decide +kernel
theorem dX3_checkRow_16 : decode cX3_checkRow 16 = .ok (.athrow, 1) := by decide +kernel
theorem dX3_checkRow_17 : decode cX3_checkRow 17 = .ok (.return_, 1) := by decide +kernel
set_option maxRecDepth 20000 in
theorem ggX3_checkConcert_X3_isConcert : GoodIn wsX3_checkConcert wsX3_isConcert := goodIn_r _ [6] (by decide +kernel) (by decide +kernel)
set_option maxRecDepth 20000 in
theorem gX3_checkConcert_X3_isConcert : GoodIn wsX3_checkConcert (va_wsS RX3 205 yX3_isConcert wsX3_isConcert) := goodIn_app (goodIn_of _ (by decide +kernel)) ggX3_checkConcert_X3_isConcert
theorem dX3_checkConcert_0 : decode cX3_checkConcert 0 = .ok (.iload_n 0, 1) := by decide +kernel
theorem dX3_checkConcert_1 : decode cX3_checkConcert 1 = .ok (.invokestatic 205, 3) := by decide +kernel
theorem dX3_checkConcert_4 : decode cX3_checkConcert 4 = .ok (.ifCond .ne 13, 3) := by decide +kernel
theorem dX3_checkConcert_7 : decode cX3_checkConcert 7 = .ok (.new 101, 3) := by decide +kernel
theorem dX3_checkConcert_10 : decode cX3_checkConcert 10 = .ok (.dup, 1) := by decide +kernel
theorem dX3_checkConcert_11 : decode cX3_checkConcert 11 = .ok (.ldc 208, 2) := by decide +kernel
theorem dX3_checkConcert_13 : decode cX3_checkConcert 13 = .ok (.invokespecial 105, 3) := by decide +kernel
theorem dX3_checkConcert_16 : decode cX3_checkConcert 16 = .ok (.athrow, 1) := by decide +kernel
theorem dX3_checkConcert_17 : decode cX3_checkConcert 17 = .ok (.return_, 1) := by decide +kernel
theorem dX3_checkMinutes_0 : decode cX3_checkMinutes 0 = .ok (.iload_n 0, 1) := by decide +kernel
theorem dX3_checkMinutes_1 : decode cX3_checkMinutes 1 = .ok (.iconst 1, 1) := by decide +kernel
theorem dX3_checkMinutes_2 : decode cX3_checkMinutes 2 = .ok (.if_icmp .lt 9, 3) := by decide +kernel
theorem dX3_checkMinutes_5 : decode cX3_checkMinutes 5 = .ok (.iload_n 0, 1) := by decide +kernel
theorem dX3_checkMinutes_6 : decode cX3_checkMinutes 6 = .ok (.bipush 60, 2) := by decide +kernel
theorem dX3_checkMinutes_8 : decode cX3_checkMinutes 8 = .ok (.if_icmp .le 13, 3) := by decide +kernel
theorem dX3_checkMinutes_11 : decode cX3_checkMinutes 11 = .ok (.new 82, 3) := by decide +kernel
theorem dX3_checkMinutes_14 : decode cX3_checkMinutes 14 = .ok (.dup, 1) := by decide +kernel
theorem dX3_checkMinutes_15 : decode cX3_checkMinutes 15 = .ok (.ldc 210, 2) := by decide +kernel
theorem dX3_checkMinutes_17 : decode cX3_checkMinutes 17 = .ok (.invokespecial 86, 3) := by decide +kernel
theorem dX3_checkMinutes_20 : decode cX3_checkMinutes 20 = .ok (.athrow, 1) := by decide +kernel
theorem dX3_checkMinutes_21 : decode cX3_checkMinutes 21 = .ok (.return_, 1) := by decide +kernel
theorem dX3_isRow_0 : decode cX3_isRow 0 = .ok (.iload_n 0, 1) := by decide +kernel
theorem dX3_isRow_1 : decode cX3_isRow 1 = .ok (.ifCond .lt 13, 3) := by decide +kernel
theorem dX3_isRow_4 : decode cX3_isRow 4 = .ok (.iload_n 0, 1) := by decide +kernel
theorem dX3_isRow_5 : decode cX3_isRow 5 = .ok (.bipush 8, 2) := by decide +kernel
theorem dX3_isRow_7 : decode cX3_isRow 7 = .ok (.if_icmp .ge 7, 3) := by decide +kernel
theorem dX3_isRow_10 : decode cX3_isRow 10 = .ok (.iconst 1, 1) := by decide +kernel
theorem dX3_isRow_11 : decode cX3_isRow 11 = .ok (.goto 4, 3) := by decide +kernel
theorem dX3_isRow_14 : decode cX3_isRow 14 = .ok (.iconst 0, 1) := by decide +kernel
theorem dX3_isRow_15 : decode cX3_isRow 15 = .ok (.ireturn, 1) := by decide +kernel
theorem dX3_isConcert_0 : decode cX3_isConcert 0 = .ok (.iload_n 0, 1) := by decide +kernel
theorem dX3_isConcert_1 : decode cX3_isConcert 1 = .ok (.ifCond .lt 13, 3) := by decide +kernel
theorem dX3_isConcert_4 : decode cX3_isConcert 4 = .ok (.iload_n 0, 1) := by decide +kernel
theorem dX3_isConcert_5 : decode cX3_isConcert 5 = .ok (.bipush 6, 2) := by decide +kernel
theorem dX3_isConcert_7 : decode cX3_isConcert 7 = .ok (.if_icmp .ge 7, 3) := by decide +kernel
theorem dX3_isConcert_10 : decode cX3_isConcert 10 = .ok (.iconst 1, 1) := by decide +kernel
theorem dX3_isConcert_11 : decode cX3_isConcert 11 = .ok (.goto 4, 3) := by decide +kernel
theorem dX3_isConcert_14 : decode cX3_isConcert 14 = .ok (.iconst 0, 1) := by decide +kernel
theorem dX3_isConcert_15 : decode cX3_isConcert 15 = .ok (.ireturn, 1) := by decide +kernel
theorem dX3_placeOf_0 : decode cX3_placeOf 0 = .ok (.iload_n 0, 1) := by decide +kernel
theorem dX3_placeOf_1 : decode cX3_placeOf 1 = .ok (.bipush 6, 2) := by decide +kernel
theorem dX3_placeOf_3 : decode cX3_placeOf 3 = .ok (.imul, 1) := by decide +kernel
theorem dX3_placeOf_4 : decode cX3_placeOf 4 = .ok (.iload_n 1, 1) := by decide +kernel
theorem dX3_placeOf_5 : decode cX3_placeOf 5 = .ok (.iadd, 1) := by decide +kernel
theorem dX3_placeOf_6 : decode cX3_placeOf 6 = .ok (.ireturn, 1) := by decide +kernel
set_option maxRecDepth 20000 in
theorem ggX3_doEvents_X0_startsEvent : GoodIn wsX3_doEvents wsX0_startsEvent := goodIn_r _ [7, 8, 9, 10, 6, 11, 12, 13, 135, 136] (by decide +kernel) (by decide +kernel)
set_option maxRecDepth 20000 in
theorem gX3_doEvents_X0_startsEvent : GoodIn wsX3_doEvents (wsV RX3 212 RX0 yX0_startsEvent wsX0_startsEvent) := goodIn_app (goodIn_of _ (by decide +kernel)) ggX3_doEvents_X0_startsEvent
set_option maxRecDepth 20000 in
theorem ggX3_doEvents_X3_doEvent : GoodIn wsX3_doEvents wsX3_doEvent := goodIn_r _ [18, 1, 19, 20, 21, 22, 6, 23, 8, 9, 10, 11, 12, 13, 24, 25, 26, 27, 17, 28, 29, 30, 31, 32, 33, 34, 35, 36, 37, 38, 39, 40, 41, 42, 43, 44, 45, 46, 47, 48, 49, 50, 51, 52, 53, 54, 55, 56, 57, 58, 59, 60, 61, 62, 63, 64, 65, 66, 67, 68, 69, 70, 71, 72, 73, 74, 75, 76, 77, 78, 79, 80, 81, 82, 83, 84, 85, 86, 87, 88, 89, 90, 91, 92, 93, 94, 95, 96, 97, 98, 99, 100, 101, 102, 103, 104, 105, 106, 107, 108, 109, 110, 111, 112, 113, 114, 115, 116, 117, 118, 119, 120, 121, 122, 123, 124, 125, 126, 127, 128, 129, 130, 131, 132, 133, 134, 135, 136, 137, 138, 139, 140, 141, 142, 143, 144, 145, 146, 147, 148] (by decide +kernel) (by decide +kernel)
set_option maxRecDepth 20000 in
theorem gX3_doEvents_X3_doEvent : GoodIn wsX3_doEvents (wsV RX3 215 RX3 yX3_doEvent wsX3_doEvent) := goodIn_app (goodIn_of _ (by decide +kernel)) ggX3_doEvents_X3_doEvent
theorem dX3_doEvents_0 : decode cX3_doEvents 0 = .ok (.iconst 0, 1) := by decide +kernel
theorem dX3_doEvents_1 : decode cX3_doEvents 1 = .ok (.istore_n 1, 1) := by decide +kernel
theorem dX3_doEvents_2 : decode cX3_doEvents 2 = .ok (.aload_n 0, 1) := by decide +kernel
theorem dX3_doEvents_3 : decode cX3_doEvents 3 = .ok (.getfield 26, 3) := by decide +kernel
theorem dX3_doEvents_6 : decode cX3_doEvents 6 = .ok (.getfield 160, 3) := by decide +kernel
theorem dX3_doEvents_9 : decode cX3_doEvents 9 = .ok (.istore_n 2, 1) := by decide +kernel
theorem dX3_doEvents_10 : decode cX3_doEvents 10 = .ok (.iconst 0, 1) := by decide +kernel
theorem dX3_doEvents_11 : decode cX3_doEvents 11 = .ok (.istore_n 3, 1) := by decide +kernel
theorem dX3_doEvents_12 : decode cX3_doEvents 12 = .ok (.iload_n 3, 1) := by decide +kernel
theorem dX3_doEvents_13 : decode cX3_doEvents 13 = .ok (.iload_n 2, 1) := by decide +kernel
theorem dX3_doEvents_14 : decode cX3_doEvents 14 = .ok (.if_icmp .ge 33, 3) := by decide +kernel
theorem dX3_doEvents_17 : decode cX3_doEvents 17 = .ok (.aload_n 0, 1) := by decide +kernel
theorem dX3_doEvents_18 : decode cX3_doEvents 18 = .ok (.getfield 26, 3) := by decide +kernel
theorem dX3_doEvents_21 : decode cX3_doEvents 21 = .ok (.iload_n 3, 1) := by decide +kernel
theorem dX3_doEvents_22 : decode cX3_doEvents 22 = .ok (.invokevirtual 212, 3) := by decide +kernel
theorem dX3_doEvents_25 : decode cX3_doEvents 25 = .ok (.ifCond .eq 16, 3) := by decide +kernel
theorem dX3_doEvents_28 : decode cX3_doEvents 28 = .ok (.aload_n 0, 1) := by decide +kernel
theorem dX3_doEvents_29 : decode cX3_doEvents 29 = .ok (.iload_n 3, 1) := by decide +kernel
theorem dX3_doEvents_30 : decode cX3_doEvents 30 = .ok (.invokevirtual 215, 3) := by decide +kernel
theorem dX3_doEvents_33 : decode cX3_doEvents 33 = .ok (.ifCond .ne 5, 3) := by decide +kernel
theorem dX3_doEvents_36 : decode cX3_doEvents 36 = .ok (.iload_n 1, 1) := by decide +kernel
theorem dX3_doEvents_37 : decode cX3_doEvents 37 = .ok (.ireturn, 1) := by decide +kernel
theorem dX3_doEvents_38 : decode cX3_doEvents 38 = .ok (.iinc 1 1, 3) := by decide +kernel
theorem dX3_doEvents_41 : decode cX3_doEvents 41 = .ok (.iinc 3 1, 3) := by decide +kernel
theorem dX3_doEvents_44 : decode cX3_doEvents 44 = .ok (.goto (-32), 3) := by decide +kernel
theorem dX3_doEvents_47 : decode cX3_doEvents 47 = .ok (.iload_n 1, 1) := by decide +kernel
theorem dX3_doEvents_48 : decode cX3_doEvents 48 = .ok (.ireturn, 1) := by decide +kernel
set_option maxRecDepth 20000 in
theorem ggX3_doEvent_X0_digitAt : GoodIn wsX3_doEvent wsX0_digitAt := goodIn_r _ [7, 8, 9, 10, 6, 11, 12, 13, 126, 127] (by decide +kernel) (by decide +kernel)
set_option maxRecDepth 20000 in
theorem gX3_doEvent_X0_digitAt : GoodIn wsX3_doEvent (wsV RX3 218 RX0 yX0_digitAt wsX0_digitAt) := goodIn_app (goodIn_of _ (by decide +kernel)) ggX3_doEvent_X0_digitAt
set_option maxRecDepth 20000 in
theorem ggX3_doEvent_X0_signAt : GoodIn wsX3_doEvent wsX0_signAt := goodIn_r _ [11, 12, 13, 126, 127] (by decide +kernel) (by decide +kernel)
set_option maxRecDepth 20000 in
theorem gX3_doEvent_X0_signAt : GoodIn wsX3_doEvent (wsV RX3 221 RX0 yX0_signAt wsX0_signAt) := goodIn_app (goodIn_of _ (by decide +kernel)) ggX3_doEvent_X0_signAt
set_option maxRecDepth 20000 in
theorem ggX3_doEvent_X3_seatIfRoom : GoodIn wsX3_doEvent wsX3_seatIfRoom := goodIn_r _ [19, 2, 20, 21, 18, 22, 23, 24, 25, 26, 27, 28, 29, 30, 31, 32, 33, 34, 35, 36, 37, 38, 39, 40, 41, 42, 43, 44, 45, 123, 124, 125, 128, 129, 130, 131, 132, 133, 134, 135, 136, 137, 138, 139] (by decide +kernel) (by decide +kernel)
set_option maxRecDepth 20000 in
theorem gX3_doEvent_X3_seatIfRoom : GoodIn wsX3_doEvent (wsV RX3 225 RX3 yX3_seatIfRoom wsX3_seatIfRoom) := goodIn_app (goodIn_of _ (by decide +kernel)) ggX3_doEvent_X3_seatIfRoom
set_option maxRecDepth 20000 in
theorem ggX3_doEvent_X3_unseatIfWanted : GoodIn wsX3_doEvent wsX3_unseatIfWanted := goodIn_r _ [49, 2, 20, 21, 18, 22, 23, 24, 25, 26, 27, 28, 50, 51, 52, 32, 53, 34, 54, 55, 56, 57, 58, 59, 60, 61, 62, 43, 63, 45, 64, 39, 40, 41, 42, 44, 123, 124, 125, 128, 129, 130, 131, 132, 133, 134, 135, 136, 137, 138, 139] (by decide +kernel) (by decide +kernel)
set_option maxRecDepth 20000 in
theorem gX3_doEvent_X3_unseatIfWanted : GoodIn wsX3_doEvent (wsV RX3 229 RX3 yX3_unseatIfWanted wsX3_unseatIfWanted) := goodIn_app (goodIn_of _ (by decide +kernel)) ggX3_doEvent_X3_unseatIfWanted
set_option maxRecDepth 20000 in
theorem ggX3_doEvent_X3_performIfThere : GoodIn wsX3_doEvent wsX3_performIfThere := goodIn_r _ [68, 2, 23, 24, 18, 25, 69, 70, 71, 32, 72, 45, 73, 74, 75, 76, 77, 43, 27, 28, 78, 79, 80, 81, 64, 51, 52, 53, 34, 82, 83, 84, 85, 86, 87, 88, 123, 124, 125, 128, 129, 130, 131, 132, 133, 134, 135, 136, 137, 138, 139] (by decide +kernel) (by decide +kernel)
set_option maxRecDepth 20000 in
theorem gX3_doEvent_X3_performIfThere : GoodIn wsX3_doEvent (wsV RX3 233 RX3 yX3_performIfThere wsX3_performIfThere) := goodIn_app (goodIn_of _ (by decide +kernel)) ggX3_doEvent_X3_performIfThere
set_option maxRecDepth 20000 in
theorem ggX3_doEvent_X0_numberAt : GoodIn wsX3_doEvent wsX0_numberAt := goodIn_r _ [92, 93, 4, 5, 6, 7, 8, 9, 10, 11, 12, 13, 126, 127] (by decide +kernel) (by decide +kernel)
set_option maxRecDepth 20000 in
theorem gX3_doEvent_X0_numberAt : GoodIn wsX3_doEvent (wsV RX3 236 RX0 yX0_numberAt wsX0_numberAt) := goodIn_app (goodIn_of _ (by decide +kernel)) ggX3_doEvent_X0_numberAt
set_option maxRecDepth 20000 in
theorem ggX3_doEvent_X1_letPass : GoodIn wsX3_doEvent wsX1_letPass := goodIn_r _ [97, 98, 99, 100, 101, 102, 32, 103, 43, 104, 105, 106, 107, 108, 109, 110, 111, 112, 113, 114, 115, 116, 117, 118, 45, 39, 40, 41, 42, 34, 44, 128, 129, 130, 131, 132, 133, 134, 135, 136, 137, 138, 139] (by decide +kernel) (by decide +kernel)
set_option maxRecDepth 20000 in
theorem gX3_doEvent_X1_letPass : GoodIn wsX3_doEvent (wsV RX3 132 RX1 yX1_letPass wsX1_letPass) := goodIn_app (goodIn_of _ (by decide +kernel)) ggX3_doEvent_X1_letPass
set_option maxRecDepth 20000 in
theorem ggX3_doEvent_X1_turnRow : GoodIn wsX3_doEvent wsX1_turnRow := goodIn_r _ [122, 77, 128, 129, 130, 131, 132, 133, 134, 135, 136, 137, 138, 139] (by decide +kernel) (by decide +kernel)
set_option maxRecDepth 20000 in
theorem gX3_doEvent_X1_turnRow : GoodIn wsX3_doEvent (wsV RX3 75 RX1 yX1_turnRow wsX1_turnRow) := goodIn_app (goodIn_of _ (by decide +kernel)) ggX3_doEvent_X1_turnRow
theorem dX3_doEvent_0 : decode cX3_doEvent 0 = .ok (.aload_n 0, 1) := by decide +kernel
theorem dX3_doEvent_1 : decode cX3_doEvent 1 = .ok (.getfield 26, 3) := by decide +kernel
theorem dX3_doEvent_4 : decode cX3_doEvent 4 = .ok (.iload_n 1, 1) := by decide +kernel
theorem dX3_doEvent_5 : decode cX3_doEvent 5 = .ok (.iconst 1, 1) := by decide +kernel
theorem dX3_doEvent_6 : decode cX3_doEvent 6 = .ok (.iadd, 1) := by decide +kernel
theorem dX3_doEvent_7 : decode cX3_doEvent 7 = .ok (.invokevirtual 218, 3) := by decide +kernel
theorem dX3_doEvent_10 : decode cX3_doEvent 10 = .ok (.istore_n 2, 1) := by decide +kernel
theorem dX3_doEvent_11 : decode cX3_doEvent 11 = .ok (.aload_n 0, 1) := by decide +kernel
theorem dX3_doEvent_12 : decode cX3_doEvent 12 = .ok (.getfield 26, 3) := by decide +kernel
theorem dX3_doEvent_15 : decode cX3_doEvent 15 = .ok (.iload_n 1, 1) := by decide +kernel
theorem dX3_doEvent_16 : decode cX3_doEvent 16 = .ok (.iconst 2, 1) := by decide +kernel
theorem dX3_doEvent_17 : decode cX3_doEvent 17 = .ok (.iadd, 1) := by decide +kernel
theorem dX3_doEvent_18 : decode cX3_doEvent 18 = .ok (.invokevirtual 218, 3) := by decide +kernel
theorem dX3_doEvent_21 : decode cX3_doEvent 21 = .ok (.istore_n 3, 1) := by decide +kernel
theorem dX3_doEvent_22 : decode cX3_doEvent 22 = .ok (.aload_n 0, 1) := by decide +kernel
theorem dX3_doEvent_23 : decode cX3_doEvent 23 = .ok (.getfield 26, 3) := by decide +kernel
theorem dX3_doEvent_26 : decode cX3_doEvent 26 = .ok (.iload_n 1, 1) := by decide +kernel
theorem dX3_doEvent_27 : decode cX3_doEvent 27 = .ok (.invokevirtual 221, 3) := by decide +kernel
theorem dX3_doEvent_30 : decode cX3_doEvent 30 = .ok (.lookupswitch 99 #[(99, 50), (108, 57), (112, 73), (115, 65), (116, 79)], 50) := by decide +kernel
theorem dX3_doEvent_80 : decode cX3_doEvent 80 = .ok (.aload_n 0, 1) := by decide +kernel
theorem dX3_doEvent_81 : decode cX3_doEvent 81 = .ok (.iload_n 2, 1) := by decide +kernel
theorem dX3_doEvent_82 : decode cX3_doEvent 82 = .ok (.iload_n 3, 1) := by decide +kernel
theorem dX3_doEvent_83 : decode cX3_doEvent 83 = .ok (.invokevirtual 225, 3) := by decide +kernel
theorem dX3_doEvent_86 : decode cX3_doEvent 86 = .ok (.ireturn, 1) := by decide +kernel
theorem dX3_doEvent_87 : decode cX3_doEvent 87 = .ok (.aload_n 0, 1) := by decide +kernel
theorem dX3_doEvent_88 : decode cX3_doEvent 88 = .ok (.iload_n 2, 1) := by decide +kernel
theorem dX3_doEvent_89 : decode cX3_doEvent 89 = .ok (.iload_n 3, 1) := by decide +kernel
theorem dX3_doEvent_90 : decode cX3_doEvent 90 = .ok (.iconst 1, 1) := by decide +kernel
theorem dX3_doEvent_91 : decode cX3_doEvent 91 = .ok (.invokevirtual 229, 3) := by decide +kernel
theorem dX3_doEvent_94 : decode cX3_doEvent 94 = .ok (.ireturn, 1) := by decide +kernel
theorem dX3_doEvent_95 : decode cX3_doEvent 95 = .ok (.aload_n 0, 1) := by decide +kernel
theorem dX3_doEvent_96 : decode cX3_doEvent 96 = .ok (.iload_n 2, 1) := by decide +kernel
theorem dX3_doEvent_97 : decode cX3_doEvent 97 = .ok (.iload_n 3, 1) := by decide +kernel
theorem dX3_doEvent_98 : decode cX3_doEvent 98 = .ok (.iconst 0, 1) := by decide +kernel
theorem dX3_doEvent_99 : decode cX3_doEvent 99 = .ok (.invokevirtual 229, 3) := by decide +kernel
theorem dX3_doEvent_102 : decode cX3_doEvent 102 = .ok (.ireturn, 1) := by decide +kernel
theorem dX3_doEvent_103 : decode cX3_doEvent 103 = .ok (.aload_n 0, 1) := by decide +kernel
theorem dX3_doEvent_104 : decode cX3_doEvent 104 = .ok (.iload_n 2, 1) := by decide +kernel
theorem dX3_doEvent_105 : decode cX3_doEvent 105 = .ok (.invokevirtual 233, 3) := by decide +kernel
theorem dX3_doEvent_108 : decode cX3_doEvent 108 = .ok (.ireturn, 1) := by decide +kernel
theorem dX3_doEvent_109 : decode cX3_doEvent 109 = .ok (.aload_n 0, 1) := by decide +kernel
theorem dX3_doEvent_110 : decode cX3_doEvent 110 = .ok (.getfield 12, 3) := by decide +kernel
theorem dX3_doEvent_113 : decode cX3_doEvent 113 = .ok (.aload_n 0, 1) := by decide +kernel
theorem dX3_doEvent_114 : decode cX3_doEvent 114 = .ok (.getfield 26, 3) := by decide +kernel
theorem dX3_doEvent_117 : decode cX3_doEvent 117 = .ok (.iload_n 1, 1) := by decide +kernel
theorem dX3_doEvent_118 : decode cX3_doEvent 118 = .ok (.iconst 1, 1) := by decide +kernel
theorem dX3_doEvent_119 : decode cX3_doEvent 119 = .ok (.iadd, 1) := by decide +kernel
theorem dX3_doEvent_120 : decode cX3_doEvent 120 = .ok (.invokevirtual 236, 3) := by decide +kernel
theorem dX3_doEvent_123 : decode cX3_doEvent 123 = .ok (.invokevirtual 132, 3) := by decide +kernel
theorem dX3_doEvent_126 : decode cX3_doEvent 126 = .ok (.pop, 1) := by decide +kernel
theorem dX3_doEvent_127 : decode cX3_doEvent 127 = .ok (.iconst 1, 1) := by decide +kernel
theorem dX3_doEvent_128 : decode cX3_doEvent 128 = .ok (.ireturn, 1) := by decide +kernel
theorem dX3_doEvent_129 : decode cX3_doEvent 129 = .ok (.aload_n 0, 1) := by decide +kernel
theorem dX3_doEvent_130 : decode cX3_doEvent 130 = .ok (.getfield 12, 3) := by decide +kernel
theorem dX3_doEvent_133 : decode cX3_doEvent 133 = .ok (.iload_n 2, 1) := by decide +kernel
theorem dX3_doEvent_134 : decode cX3_doEvent 134 = .ok (.invokevirtual 75, 3) := by decide +kernel
theorem dX3_doEvent_137 : decode cX3_doEvent 137 = .ok (.iconst 1, 1) := by decide +kernel
theorem dX3_doEvent_138 : decode cX3_doEvent 138 = .ok (.ireturn, 1) := by decide +kernel
set_option maxRecDepth 20000 in
theorem ggX3_seatIfRoom_X3_isRow : GoodIn wsX3_seatIfRoom wsX3_isRow := goodIn_r _ [5] (by decide +kernel) (by decide +kernel)
set_option maxRecDepth 20000 in
theorem gX3_seatIfRoom_X3_isRow : GoodIn wsX3_seatIfRoom (va_wsS RX3 200 yX3_isRow wsX3_isRow) := goodIn_app (goodIn_of _ (by decide +kernel)) ggX3_seatIfRoom_X3_isRow
set_option maxRecDepth 20000 in
theorem ggX3_seatIfRoom_X3_isConcert : GoodIn wsX3_seatIfRoom wsX3_isConcert := goodIn_r _ [8] (by decide +kernel) (by decide +kernel)
set_option maxRecDepth 20000 in
theorem gX3_seatIfRoom_X3_isConcert : GoodIn wsX3_seatIfRoom (va_wsS RX3 205 yX3_isConcert wsX3_isConcert) := goodIn_app (goodIn_of _ (by decide +kernel)) ggX3_seatIfRoom_X3_isConcert
set_option maxRecDepth 20000 in
theorem ggX3_seatIfRoom_X3_placeOf : GoodIn wsX3_seatIfRoom wsX3_placeOf := goodIn_r _ [11] (by decide +kernel) (by decide +kernel)
set_option maxRecDepth 20000 in
theorem gX3_seatIfRoom_X3_placeOf : GoodIn wsX3_seatIfRoom (va_wsS RX3 37 yX3_placeOf wsX3_placeOf) := goodIn_app (goodIn_of _ (by decide +kernel)) ggX3_seatIfRoom_X3_placeOf
set_option maxRecDepth 20000 in
theorem ggX3_seatIfRoom_X1_hasRoom : GoodIn wsX3_seatIfRoom wsX1_hasRoom := goodIn_r _ [16, 17, 32, 33, 34, 35, 36, 37, 38, 39, 40, 41, 42, 43] (by decide +kernel) (by decide +kernel)
set_option maxRecDepth 20000 in
theorem gX3_seatIfRoom_X1_hasRoom : GoodIn wsX3_seatIfRoom (wsV RX3 41 RX1 yX1_hasRoom wsX1_hasRoom) := goodIn_app (goodIn_of _ (by decide +kernel)) ggX3_seatIfRoom_X1_hasRoom
set_option maxRecDepth 20000 in
theorem ggX3_seatIfRoom_X1_seat : GoodIn wsX3_seatIfRoom wsX1_seat := goodIn_r _ [21, 17, 22, 23, 24, 15, 25, 26, 27, 28, 32, 33, 34, 35, 36, 37, 38, 39, 40, 41, 42, 43] (by decide +kernel) (by decide +kernel)
set_option maxRecDepth 20000 in
theorem gX3_seatIfRoom_X1_seat : GoodIn wsX3_seatIfRoom (wsV RX3 56 RX1 yX1_seat wsX1_seat) := goodIn_app (goodIn_of _ (by decide +kernel)) ggX3_seatIfRoom_X1_seat
theorem dX3_seatIfRoom_0 : decode cX3_seatIfRoom 0 = .ok (.iload_n 1, 1) := by decide +kernel
theorem dX3_seatIfRoom_1 : decode cX3_seatIfRoom 1 = .ok (.invokestatic 200, 3) := by decide +kernel
theorem dX3_seatIfRoom_4 : decode cX3_seatIfRoom 4 = .ok (.ifCond .eq 25, 3) := by decide +kernel
theorem dX3_seatIfRoom_7 : decode cX3_seatIfRoom 7 = .ok (.iload_n 2, 1) := by decide +kernel
theorem dX3_seatIfRoom_8 : decode cX3_seatIfRoom 8 = .ok (.invokestatic 205, 3) := by decide +kernel
theorem dX3_seatIfRoom_11 : decode cX3_seatIfRoom 11 = .ok (.ifCond .eq 18, 3) := by decide +kernel
theorem dX3_seatIfRoom_14 : decode cX3_seatIfRoom 14 = .ok (.aload_n 0, 1) := by decide +kernel
theorem dX3_seatIfRoom_15 : decode cX3_seatIfRoom 15 = .ok (.getfield 12, 3) := by decide +kernel
theorem dX3_seatIfRoom_18 : decode cX3_seatIfRoom 18 = .ok (.iload_n 1, 1) := by decide +kernel
theorem dX3_seatIfRoom_19 : decode cX3_seatIfRoom 19 = .ok (.iload_n 2, 1) := by decide +kernel
theorem dX3_seatIfRoom_20 : decode cX3_seatIfRoom 20 = .ok (.invokestatic 37, 3) := by decide +kernel
theorem dX3_seatIfRoom_23 : decode cX3_seatIfRoom 23 = .ok (.invokevirtual 41, 3) := by decide +kernel
theorem dX3_seatIfRoom_26 : decode cX3_seatIfRoom 26 = .ok (.ifCond .ne 5, 3) := by decide +kernel
theorem dX3_seatIfRoom_29 : decode cX3_seatIfRoom 29 = .ok (.iconst 0, 1) := by decide +kernel
theorem dX3_seatIfRoom_30 : decode cX3_seatIfRoom 30 = .ok (.ireturn, 1) := by decide +kernel
theorem dX3_seatIfRoom_31 : decode cX3_seatIfRoom 31 = .ok (.aload_n 0, 1) := by decide +kernel
theorem dX3_seatIfRoom_32 : decode cX3_seatIfRoom 32 = .ok (.getfield 12, 3) := by decide +kernel
theorem dX3_seatIfRoom_35 : decode cX3_seatIfRoom 35 = .ok (.iload_n 1, 1) := by decide +kernel
theorem dX3_seatIfRoom_36 : decode cX3_seatIfRoom 36 = .ok (.iload_n 2, 1) := by decide +kernel
theorem dX3_seatIfRoom_37 : decode cX3_seatIfRoom 37 = .ok (.invokestatic 37, 3) := by decide +kernel
theorem dX3_seatIfRoom_40 : decode cX3_seatIfRoom 40 = .ok (.invokevirtual 56, 3) := by decide +kernel
theorem dX3_seatIfRoom_43 : decode cX3_seatIfRoom 43 = .ok (.iconst 1, 1) := by decide +kernel
theorem dX3_seatIfRoom_44 : decode cX3_seatIfRoom 44 = .ok (.ireturn, 1) := by decide +kernel
set_option maxRecDepth 20000 in
theorem ggX3_unseatIfWanted_X3_isRow : GoodIn wsX3_unseatIfWanted wsX3_isRow := goodIn_r _ [5] (by decide +kernel) (by decide +kernel)
set_option maxRecDepth 20000 in
theorem gX3_unseatIfWanted_X3_isRow : GoodIn wsX3_unseatIfWanted (va_wsS RX3 200 yX3_isRow wsX3_isRow) := goodIn_app (goodIn_of _ (by decide +kernel)) ggX3_unseatIfWanted_X3_isRow
set_option maxRecDepth 20000 in
theorem ggX3_unseatIfWanted_X3_isConcert : GoodIn wsX3_unseatIfWanted wsX3_isConcert := goodIn_r _ [8] (by decide +kernel) (by decide +kernel)
set_option maxRecDepth 20000 in
theorem gX3_unseatIfWanted_X3_isConcert : GoodIn wsX3_unseatIfWanted (va_wsS RX3 205 yX3_isConcert wsX3_isConcert) := goodIn_app (goodIn_of _ (by decide +kernel)) ggX3_unseatIfWanted_X3_isConcert
set_option maxRecDepth 20000 in
theorem ggX3_unseatIfWanted_X3_placeOf : GoodIn wsX3_unseatIfWanted wsX3_placeOf := goodIn_r _ [11] (by decide +kernel) (by decide +kernel)
set_option maxRecDepth 20000 in
theorem gX3_unseatIfWanted_X3_placeOf : GoodIn wsX3_unseatIfWanted (va_wsS RX3 37 yX3_placeOf wsX3_placeOf) := goodIn_app (goodIn_of _ (by decide +kernel)) ggX3_unseatIfWanted_X3_placeOf
set_option maxRecDepth 20000 in
theorem ggX3_unseatIfWanted_X1_isWantedAt : GoodIn wsX3_unseatIfWanted wsX1_isWantedAt := goodIn_r _ [16, 17, 39, 40, 41, 42, 43, 44, 45, 46, 47, 48, 49, 50] (by decide +kernel) (by decide +kernel)
set_option maxRecDepth 20000 in
theorem gX3_unseatIfWanted_X1_isWantedAt : GoodIn wsX3_unseatIfWanted (wsV RX3 63 RX1 yX1_isWantedAt wsX1_isWantedAt) := goodIn_app (goodIn_of _ (by decide +kernel)) ggX3_unseatIfWanted_X1_isWantedAt
set_option maxRecDepth 20000 in
theorem ggX3_unseatIfWanted_X1_unseat : GoodIn wsX3_unseatIfWanted wsX1_unseat := goodIn_r _ [21, 17, 22, 23, 24, 15, 25, 26, 27, 28, 29, 30, 13, 14, 16, 31, 32, 33, 34, 35, 39, 40, 41, 42, 43, 44, 45, 46, 47, 48, 49, 50] (by decide +kernel) (by decide +kernel)
set_option maxRecDepth 20000 in
theorem gX3_unseatIfWanted_X1_unseat : GoodIn wsX3_unseatIfWanted (wsV RX3 68 RX1 yX1_unseat wsX1_unseat) := goodIn_app (goodIn_of _ (by decide +kernel)) ggX3_unseatIfWanted_X1_unseat
theorem dX3_unseatIfWanted_0 : decode cX3_unseatIfWanted 0 = .ok (.iload_n 1, 1) := by decide +kernel
theorem dX3_unseatIfWanted_1 : decode cX3_unseatIfWanted 1 = .ok (.invokestatic 200, 3) := by decide +kernel
theorem dX3_unseatIfWanted_4 : decode cX3_unseatIfWanted 4 = .ok (.ifCond .eq 25, 3) := by decide +kernel
theorem dX3_unseatIfWanted_7 : decode cX3_unseatIfWanted 7 = .ok (.iload_n 2, 1) := by decide +kernel
theorem dX3_unseatIfWanted_8 : decode cX3_unseatIfWanted 8 = .ok (.invokestatic 205, 3) := by decide +kernel
theorem dX3_unseatIfWanted_11 : decode cX3_unseatIfWanted 11 = .ok (.ifCond .eq 18, 3) := by decide +kernel
theorem dX3_unseatIfWanted_14 : decode cX3_unseatIfWanted 14 = .ok (.aload_n 0, 1) := by decide +kernel
theorem dX3_unseatIfWanted_15 : decode cX3_unseatIfWanted 15 = .ok (.getfield 12, 3) := by decide +kernel
theorem dX3_unseatIfWanted_18 : decode cX3_unseatIfWanted 18 = .ok (.iload_n 1, 1) := by decide +kernel
theorem dX3_unseatIfWanted_19 : decode cX3_unseatIfWanted 19 = .ok (.iload_n 2, 1) := by decide +kernel
theorem dX3_unseatIfWanted_20 : decode cX3_unseatIfWanted 20 = .ok (.invokestatic 37, 3) := by decide +kernel
theorem dX3_unseatIfWanted_23 : decode cX3_unseatIfWanted 23 = .ok (.invokevirtual 63, 3) := by decide +kernel
theorem dX3_unseatIfWanted_26 : decode cX3_unseatIfWanted 26 = .ok (.ifCond .ne 5, 3) := by decide +kernel
theorem dX3_unseatIfWanted_29 : decode cX3_unseatIfWanted 29 = .ok (.iconst 0, 1) := by decide +kernel
theorem dX3_unseatIfWanted_30 : decode cX3_unseatIfWanted 30 = .ok (.ireturn, 1) := by decide +kernel
theorem dX3_unseatIfWanted_31 : decode cX3_unseatIfWanted 31 = .ok (.aload_n 0, 1) := by decide +kernel
theorem dX3_unseatIfWanted_32 : decode cX3_unseatIfWanted 32 = .ok (.getfield 12, 3) := by decide +kernel
theorem dX3_unseatIfWanted_35 : decode cX3_unseatIfWanted 35 = .ok (.iload_n 1, 1) := by decide +kernel
theorem dX3_unseatIfWanted_36 : decode cX3_unseatIfWanted 36 = .ok (.iload_n 2, 1) := by decide +kernel
theorem dX3_unseatIfWanted_37 : decode cX3_unseatIfWanted 37 = .ok (.invokestatic 37, 3) := by decide +kernel
theorem dX3_unseatIfWanted_40 : decode cX3_unseatIfWanted 40 = .ok (.iload_n 3, 1) := by decide +kernel
theorem dX3_unseatIfWanted_41 : decode cX3_unseatIfWanted 41 = .ok (.invokevirtual 68, 3) := by decide +kernel
theorem dX3_unseatIfWanted_44 : decode cX3_unseatIfWanted 44 = .ok (.iconst 1, 1) := by decide +kernel
theorem dX3_unseatIfWanted_45 : decode cX3_unseatIfWanted 45 = .ok (.ireturn, 1) := by decide +kernel
set_option maxRecDepth 20000 in
theorem ggX3_performIfThere_X3_isConcert : GoodIn wsX3_performIfThere wsX3_isConcert := goodIn_r _ [5] (by decide +kernel) (by decide +kernel)
set_option maxRecDepth 20000 in
theorem gX3_performIfThere_X3_isConcert : GoodIn wsX3_performIfThere (va_wsS RX3 205 yX3_isConcert wsX3_isConcert) := goodIn_app (goodIn_of _ (by decide +kernel)) ggX3_performIfThere_X3_isConcert
set_option maxRecDepth 20000 in
theorem ggX3_performIfThere_X1_perform : GoodIn wsX3_performIfThere wsX1_perform := goodIn_r _ [10, 11, 12, 13, 14, 9, 15, 16, 17, 18, 4, 19, 20, 21, 22, 23, 24, 25, 26, 27, 28, 29, 30, 31, 32, 33, 34, 35, 39, 40, 41, 42, 43, 44, 45, 46, 47, 48, 49, 50] (by decide +kernel) (by decide +kernel)
set_option maxRecDepth 20000 in
theorem gX3_performIfThere_X1_perform : GoodIn wsX3_performIfThere (wsV RX3 135 RX1 yX1_perform wsX1_perform) := goodIn_app (goodIn_of _ (by decide +kernel)) ggX3_performIfThere_X1_perform
theorem dX3_performIfThere_0 : decode cX3_performIfThere 0 = .ok (.iload_n 1, 1) := by decide +kernel
theorem dX3_performIfThere_1 : decode cX3_performIfThere 1 = .ok (.invokestatic 205, 3) := by decide +kernel
theorem dX3_performIfThere_4 : decode cX3_performIfThere 4 = .ok (.ifCond .ne 5, 3) := by decide +kernel
theorem dX3_performIfThere_7 : decode cX3_performIfThere 7 = .ok (.iconst 0, 1) := by decide +kernel
theorem dX3_performIfThere_8 : decode cX3_performIfThere 8 = .ok (.ireturn, 1) := by decide +kernel
theorem dX3_performIfThere_9 : decode cX3_performIfThere 9 = .ok (.aload_n 0, 1) := by decide +kernel
theorem dX3_performIfThere_10 : decode cX3_performIfThere 10 = .ok (.getfield 12, 3) := by decide +kernel
theorem dX3_performIfThere_13 : decode cX3_performIfThere 13 = .ok (.iload_n 1, 1) := by decide +kernel
theorem dX3_performIfThere_14 : decode cX3_performIfThere 14 = .ok (.invokevirtual 135, 3) := by decide +kernel
theorem dX3_performIfThere_17 : decode cX3_performIfThere 17 = .ok (.pop, 1) := by decide +kernel
theorem dX3_performIfThere_18 : decode cX3_performIfThere 18 = .ok (.iconst 1, 1) := by decide +kernel
theorem dX3_performIfThere_19 : decode cX3_performIfThere 19 = .ok (.ireturn, 1) := by decide +kernel

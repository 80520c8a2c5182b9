theorem dX0_init_0 : decode cX0_init 0 = .ok (.aload_n 0, 1) := by decide +kernel
theorem dX0_init_1 : decode cX0_init 1 = .ok (.invokespecial 3, 3) := by decide +kernel
theorem dX0_init_4 : decode cX0_init 4 = .ok (.aload_n 0, 1) := by decide +kernel
theorem dX0_init_5 : decode cX0_init 5 = .ok (.bipush 60, 2) := by decide +kernel
theorem dX0_init_7 : decode cX0_init 7 = .ok (.newarray .char, 2) := by decide +kernel
theorem dX0_init_9 : decode cX0_init 9 = .ok (.putfield 9, 3) := by decide +kernel
theorem dX0_init_12 : decode cX0_init 12 = .ok (.aload_n 0, 1) := by decide +kernel
theorem dX0_init_13 : decode cX0_init 13 = .ok (.iconst 0, 1) := by decide +kernel
theorem dX0_init_14 : decode cX0_init 14 = .ok (.putfield 15, 3) := by decide +kernel
theorem dX0_init_17 : decode cX0_init 17 = .ok (.return_, 1) := by decide +kernel
theorem dX1_init_0 : decode cX1_init 0 = .ok (.aload_n 0, 1) := by decide +kernel
theorem dX1_init_1 : decode cX1_init 1 = .ok (.invokespecial 3, 3) := by decide +kernel
theorem dX1_init_4 : decode cX1_init 4 = .ok (.aload_n 0, 1) := by decide +kernel
theorem dX1_init_5 : decode cX1_init 5 = .ok (.bipush 48, 2) := by decide +kernel
theorem dX1_init_7 : decode cX1_init 7 = .ok (.newarray .int, 2) := by decide +kernel
theorem dX1_init_9 : decode cX1_init 9 = .ok (.putfield 9, 3) := by decide +kernel
theorem dX1_init_12 : decode cX1_init 12 = .ok (.aload_n 0, 1) := by decide +kernel
theorem dX1_init_13 : decode cX1_init 13 = .ok (.bipush 48, 2) := by decide +kernel
theorem dX1_init_15 : decode cX1_init 15 = .ok (.newarray .int, 2) := by decide +kernel
theorem dX1_init_17 : decode cX1_init 17 = .ok (.putfield 15, 3) := by decide +kernel
theorem dX1_init_20 : decode cX1_init 20 = .ok (.aload_n 0, 1) := by decide +kernel
theorem dX1_init_21 : decode cX1_init 21 = .ok (.bipush 6, 2) := by decide +kernel
theorem dX1_init_23 : decode cX1_init 23 = .ok (.newarray .int, 2) := by decide +kernel
theorem dX1_init_25 : decode cX1_init 25 = .ok (.putfield 18, 3) := by decide +kernel
theorem dX1_init_28 : decode cX1_init 28 = .ok (.aload_n 0, 1) := by decide +kernel
theorem dX1_init_29 : decode cX1_init 29 = .ok (.iconst 0, 1) := by decide +kernel
theorem dX1_init_30 : decode cX1_init 30 = .ok (.putfield 21, 3) := by decide +kernel
theorem dX1_init_33 : decode cX1_init 33 = .ok (.aload_n 0, 1) := by decide +kernel
theorem dX1_init_34 : decode cX1_init 34 = .ok (.iconst 0, 1) := by decide +kernel
theorem dX1_init_35 : decode cX1_init 35 = .ok (.putfield 25, 3) := by decide +kernel
theorem dX1_init_38 : decode cX1_init 38 = .ok (.aload_n 0, 1) := by decide +kernel
theorem dX1_init_39 : decode cX1_init 39 = .ok (.iconst 0, 1) := by decide +kernel
theorem dX1_init_40 : decode cX1_init 40 = .ok (.putfield 29, 3) := by decide +kernel
theorem dX1_init_43 : decode cX1_init 43 = .ok (.aload_n 0, 1) := by decide +kernel
theorem dX1_init_44 : decode cX1_init 44 = .ok (.iconst 0, 1) := by decide +kernel
theorem dX1_init_45 : decode cX1_init 45 = .ok (.putfield 32, 3) := by decide +kernel
theorem dX1_init_48 : decode cX1_init 48 = .ok (.aload_n 0, 1) := by decide +kernel
theorem dX1_init_49 : decode cX1_init 49 = .ok (.bipush 20, 2) := by decide +kernel
theorem dX1_init_51 : decode cX1_init 51 = .ok (.putfield 35, 3) := by decide +kernel
theorem dX1_init_54 : decode cX1_init 54 = .ok (.aload_n 0, 1) := by decide +kernel
theorem dX1_init_55 : decode cX1_init 55 = .ok (.iconst 3, 1) := by decide +kernel
theorem dX1_init_56 : decode cX1_init 56 = .ok (.putfield 38, 3) := by decide +kernel
theorem dX1_init_59 : decode cX1_init 59 = .ok (.aload_n 0, 1) := by decide +kernel
theorem dX1_init_60 : decode cX1_init 60 = .ok (.bipush 10, 2) := by decide +kernel
theorem dX1_init_62 : decode cX1_init 62 = .ok (.putfield 41, 3) := by decide +kernel
theorem dX1_init_65 : decode cX1_init 65 = .ok (.aload_n 0, 1) := by decide +kernel
theorem dX1_init_66 : decode cX1_init 66 = .ok (.iconst 0, 1) := by decide +kernel
theorem dX1_init_67 : decode cX1_init 67 = .ok (.putfield 44, 3) := by decide +kernel
theorem dX1_init_70 : decode cX1_init 70 = .ok (.aload_n 0, 1) := by decide +kernel
theorem dX1_init_71 : decode cX1_init 71 = .ok (.iconst 0, 1) := by decide +kernel
theorem dX1_init_72 : decode cX1_init 72 = .ok (.putfield 47, 3) := by decide +kernel
theorem dX1_init_75 : decode cX1_init 75 = .ok (.return_, 1) := by decide +kernel
theorem dX1_copyFrom_0 : decode cX1_copyFrom 0 = .ok (.aload_n 1, 1) := by decide +kernel
theorem dX1_copyFrom_1 : decode cX1_copyFrom 1 = .ok (.getfield 9, 3) := by decide +kernel
theorem dX1_copyFrom_4 : decode cX1_copyFrom 4 = .ok (.iconst 0, 1) := by decide +kernel
theorem dX1_copyFrom_5 : decode cX1_copyFrom 5 = .ok (.aload_n 0, 1) := by decide +kernel
theorem dX1_copyFrom_6 : decode cX1_copyFrom 6 = .ok (.getfield 9, 3) := by decide +kernel
theorem dX1_copyFrom_9 : decode cX1_copyFrom 9 = .ok (.iconst 0, 1) := by decide +kernel
theorem dX1_copyFrom_10 : decode cX1_copyFrom 10 = .ok (.bipush 48, 2) := by decide +kernel
theorem dX1_copyFrom_12 : decode cX1_copyFrom 12 = .ok (.invokestatic 50, 3) := by decide +kernel
theorem dX1_copyFrom_15 : decode cX1_copyFrom 15 = .ok (.aload_n 1, 1) := by decide +kernel
theorem dX1_copyFrom_16 : decode cX1_copyFrom 16 = .ok (.getfield 15, 3) := by decide +kernel
theorem dX1_copyFrom_19 : decode cX1_copyFrom 19 = .ok (.iconst 0, 1) := by decide +kernel
theorem dX1_copyFrom_20 : decode cX1_copyFrom 20 = .ok (.aload_n 0, 1) := by decide +kernel
theorem dX1_copyFrom_21 : decode cX1_copyFrom 21 = .ok (.getfield 15, 3) := by decide +kernel
theorem dX1_copyFrom_24 : decode cX1_copyFrom 24 = .ok (.iconst 0, 1) := by decide +kernel
theorem dX1_copyFrom_25 : decode cX1_copyFrom 25 = .ok (.bipush 48, 2) := by decide +kernel
theorem dX1_copyFrom_27 : decode cX1_copyFrom 27 = .ok (.invokestatic 50, 3) := by decide +kernel
theorem dX1_copyFrom_30 : decode cX1_copyFrom 30 = .ok (.aload_n 1, 1) := by decide +kernel
theorem dX1_copyFrom_31 : decode cX1_copyFrom 31 = .ok (.getfield 18, 3) := by decide +kernel
theorem dX1_copyFrom_34 : decode cX1_copyFrom 34 = .ok (.iconst 0, 1) := by decide +kernel
theorem dX1_copyFrom_35 : decode cX1_copyFrom 35 = .ok (.aload_n 0, 1) := by decide +kernel
theorem dX1_copyFrom_36 : decode cX1_copyFrom 36 = .ok (.getfield 18, 3) := by decide +kernel
theorem dX1_copyFrom_39 : decode cX1_copyFrom 39 = .ok (.iconst 0, 1) := by decide +kernel
theorem dX1_copyFrom_40 : decode cX1_copyFrom 40 = .ok (.bipush 6, 2) := by decide +kernel
theorem dX1_copyFrom_42 : decode cX1_copyFrom 42 = .ok (.invokestatic 50, 3) := by decide +kernel
theorem dX1_copyFrom_45 : decode cX1_copyFrom 45 = .ok (.aload_n 0, 1) := by decide +kernel
theorem dX1_copyFrom_46 : decode cX1_copyFrom 46 = .ok (.aload_n 1, 1) := by decide +kernel
theorem dX1_copyFrom_47 : decode cX1_copyFrom 47 = .ok (.getfield 21, 3) := by decide +kernel
theorem dX1_copyFrom_50 : decode cX1_copyFrom 50 = .ok (.putfield 21, 3) := by decide +kernel
theorem dX1_copyFrom_53 : decode cX1_copyFrom 53 = .ok (.aload_n 0, 1) := by decide +kernel
theorem dX1_copyFrom_54 : decode cX1_copyFrom 54 = .ok (.aload_n 1, 1) := by decide +kernel
theorem dX1_copyFrom_55 : decode cX1_copyFrom 55 = .ok (.getfield 25, 3) := by decide +kernel
theorem dX1_copyFrom_58 : decode cX1_copyFrom 58 = .ok (.putfield 25, 3) := by decide +kernel
theorem dX1_copyFrom_61 : decode cX1_copyFrom 61 = .ok (.aload_n 0, 1) := by decide +kernel
theorem dX1_copyFrom_62 : decode cX1_copyFrom 62 = .ok (.aload_n 1, 1) := by decide +kernel
theorem dX1_copyFrom_63 : decode cX1_copyFrom 63 = .ok (.getfield 29, 3) := by decide +kernel
theorem dX1_copyFrom_66 : decode cX1_copyFrom 66 = .ok (.putfield 29, 3) := by decide +kernel
theorem dX1_copyFrom_69 : decode cX1_copyFrom 69 = .ok (.aload_n 0, 1) := by decide +kernel
theorem dX1_copyFrom_70 : decode cX1_copyFrom 70 = .ok (.aload_n 1, 1) := by decide +kernel
theorem dX1_copyFrom_71 : decode cX1_copyFrom 71 = .ok (.getfield 32, 3) := by decide +kernel
theorem dX1_copyFrom_74 : decode cX1_copyFrom 74 = .ok (.putfield 32, 3) := by decide +kernel
theorem dX1_copyFrom_77 : decode cX1_copyFrom 77 = .ok (.aload_n 0, 1) := by decide +kernel
theorem dX1_copyFrom_78 : decode cX1_copyFrom 78 = .ok (.aload_n 1, 1) := by decide +kernel
theorem dX1_copyFrom_79 : decode cX1_copyFrom 79 = .ok (.getfield 35, 3) := by decide +kernel
theorem dX1_copyFrom_82 : decode cX1_copyFrom 82 = .ok (.putfield 35, 3) := by decide +kernel
theorem dX1_copyFrom_85 : decode cX1_copyFrom 85 = .ok (.aload_n 0, 1) := by decide +kernel
theorem dX1_copyFrom_86 : decode cX1_copyFrom 86 = .ok (.aload_n 1, 1) := by decide +kernel
theorem dX1_copyFrom_87 : decode cX1_copyFrom 87 = .ok (.getfield 38, 3) := by decide +kernel
theorem dX1_copyFrom_90 : decode cX1_copyFrom 90 = .ok (.putfield 38, 3) := by decide +kernel
theorem dX1_copyFrom_93 : decode cX1_copyFrom 93 = .ok (.aload_n 0, 1) := by decide +kernel
theorem dX1_copyFrom_94 : decode cX1_copyFrom 94 = .ok (.aload_n 1, 1) := by decide +kernel
theorem dX1_copyFrom_95 : decode cX1_copyFrom 95 = .ok (.getfield 41, 3) := by decide +kernel
theorem dX1_copyFrom_98 : decode cX1_copyFrom 98 = .ok (.putfield 41, 3) := by decide +kernel
theorem dX1_copyFrom_101 : decode cX1_copyFrom 101 = .ok (.aload_n 0, 1) := by decide +kernel
theorem dX1_copyFrom_102 : decode cX1_copyFrom 102 = .ok (.aload_n 1, 1) := by decide +kernel
theorem dX1_copyFrom_103 : decode cX1_copyFrom 103 = .ok (.getfield 44, 3) := by decide +kernel
theorem dX1_copyFrom_106 : decode cX1_copyFrom 106 = .ok (.putfield 44, 3) := by decide +kernel
theorem dX1_copyFrom_109 : decode cX1_copyFrom 109 = .ok (.aload_n 0, 1) := by decide +kernel
theorem dX1_copyFrom_110 : decode cX1_copyFrom 110 = .ok (.aload_n 1, 1) := by decide +kernel
theorem dX1_copyFrom_111 : decode cX1_copyFrom 111 = .ok (.getfield 47, 3) := by decide +kernel
theorem dX1_copyFrom_114 : decode cX1_copyFrom 114 = .ok (.putfield 47, 3) := by decide +kernel
theorem dX1_copyFrom_117 : decode cX1_copyFrom 117 = .ok (.return_, 1) := by decide +kernel
theorem dX1_hasRoom_0 : decode cX1_hasRoom 0 = .ok (.aload_n 0, 1) := by decide +kernel
theorem dX1_hasRoom_1 : decode cX1_hasRoom 1 = .ok (.getfield 9, 3) := by decide +kernel
theorem dX1_hasRoom_4 : decode cX1_hasRoom 4 = .ok (.iload_n 1, 1) := by decide +kernel
theorem dX1_hasRoom_5 : decode cX1_hasRoom 5 = .ok (.iaload, 1) := by decide +kernel
theorem dX1_hasRoom_6 : decode cX1_hasRoom 6 = .ok (.bipush 9, 2) := by decide +kernel
theorem dX1_hasRoom_8 : decode cX1_hasRoom 8 = .ok (.if_icmp .ge 7, 3) := by decide +kernel
theorem dX1_hasRoom_11 : decode cX1_hasRoom 11 = .ok (.iconst 1, 1) := by decide +kernel
theorem dX1_hasRoom_12 : decode cX1_hasRoom 12 = .ok (.goto 4, 3) := by decide +kernel
theorem dX1_hasRoom_15 : decode cX1_hasRoom 15 = .ok (.iconst 0, 1) := by decide +kernel
theorem dX1_hasRoom_16 : decode cX1_hasRoom 16 = .ok (.ireturn, 1) := by decide +kernel
theorem dX1_isWantedAt_0 : decode cX1_isWantedAt 0 = .ok (.aload_n 0, 1) := by decide +kernel
theorem dX1_isWantedAt_1 : decode cX1_isWantedAt 1 = .ok (.getfield 9, 3) := by decide +kernel
theorem dX1_isWantedAt_4 : decode cX1_isWantedAt 4 = .ok (.iload_n 1, 1) := by decide +kernel
theorem dX1_isWantedAt_5 : decode cX1_isWantedAt 5 = .ok (.iaload, 1) := by decide +kernel
theorem dX1_isWantedAt_6 : decode cX1_isWantedAt 6 = .ok (.ifCond .le 7, 3) := by decide +kernel
theorem dX1_isWantedAt_9 : decode cX1_isWantedAt 9 = .ok (.iconst 1, 1) := by decide +kernel
theorem dX1_isWantedAt_10 : decode cX1_isWantedAt 10 = .ok (.goto 4, 3) := by decide +kernel
theorem dX1_isWantedAt_13 : decode cX1_isWantedAt 13 = .ok (.iconst 0, 1) := by decide +kernel
theorem dX1_isWantedAt_14 : decode cX1_isWantedAt 14 = .ok (.ireturn, 1) := by decide +kernel
set_option maxRecDepth 20000 in
theorem ggX1_seat_X1_hearCall : GoodIn wsX1_seat wsX1_hearCall := goodIn_r _ [6, 1, 7, 8, 9, 10, 11, 12, 13, 14, 15, 16, 17, 18, 19, 20, 21] (by decide +kernel) (by decide +kernel)
set_option maxRecDepth 20000 in
theorem gX1_seat_X1_hearCall : GoodIn wsX1_seat (wsV RX1 56 RX1 yX1_hearCall wsX1_hearCall) := goodIn_app (goodIn_of _ (by decide +kernel)) ggX1_seat_X1_hearCall
theorem dX1_seat_0 : decode cX1_seat 0 = .ok (.aload_n 0, 1) := by decide +kernel
theorem dX1_seat_1 : decode cX1_seat 1 = .ok (.getfield 9, 3) := by decide +kernel
theorem dX1_seat_4 : decode cX1_seat 4 = .ok (.iload_n 1, 1) := by decide +kernel
theorem dX1_seat_5 : decode cX1_seat 5 = .ok (.dup2, 1) := by decide +kernel
theorem dX1_seat_6 : decode cX1_seat 6 = .ok (.iaload, 1) := by decide +kernel
theorem dX1_seat_7 : decode cX1_seat 7 = .ok (.iconst 1, 1) := by decide +kernel
theorem dX1_seat_8 : decode cX1_seat 8 = .ok (.iadd, 1) := by decide +kernel
theorem dX1_seat_9 : decode cX1_seat 9 = .ok (.iastore, 1) := by decide +kernel
theorem dX1_seat_10 : decode cX1_seat 10 = .ok (.aload_n 0, 1) := by decide +kernel
theorem dX1_seat_11 : decode cX1_seat 11 = .ok (.iload_n 1, 1) := by decide +kernel
theorem dX1_seat_12 : decode cX1_seat 12 = .ok (.invokevirtual 56, 3) := by decide +kernel
theorem dX1_seat_15 : decode cX1_seat 15 = .ok (.return_, 1) := by decide +kernel
set_option maxRecDepth 20000 in
theorem ggX1_unseat_X1_hearFarewell : GoodIn wsX1_unseat wsX1_hearFarewell := goodIn_r _ [6, 7, 8, 9, 10, 11, 12, 13, 5, 14, 1, 15, 16, 17, 18, 19, 20, 21, 22, 23, 24, 25, 26, 27, 28, 29, 30, 31] (by decide +kernel) (by decide +kernel)
set_option maxRecDepth 20000 in
theorem gX1_unseat_X1_hearFarewell : GoodIn wsX1_unseat (wsV RX1 60 RX1 yX1_hearFarewell wsX1_hearFarewell) := goodIn_app (goodIn_of _ (by decide +kernel)) ggX1_unseat_X1_hearFarewell
theorem dX1_unseat_0 : decode cX1_unseat 0 = .ok (.aload_n 0, 1) := by decide +kernel
theorem dX1_unseat_1 : decode cX1_unseat 1 = .ok (.getfield 9, 3) := by decide +kernel
theorem dX1_unseat_4 : decode cX1_unseat 4 = .ok (.iload_n 1, 1) := by decide +kernel
theorem dX1_unseat_5 : decode cX1_unseat 5 = .ok (.dup2, 1) := by decide +kernel
theorem dX1_unseat_6 : decode cX1_unseat 6 = .ok (.iaload, 1) := by decide +kernel
theorem dX1_unseat_7 : decode cX1_unseat 7 = .ok (.iconst 1, 1) := by decide +kernel
theorem dX1_unseat_8 : decode cX1_unseat 8 = .ok (.isub, 1) := by decide +kernel
theorem dX1_unseat_9 : decode cX1_unseat 9 = .ok (.iastore, 1) := by decide +kernel
theorem dX1_unseat_10 : decode cX1_unseat 10 = .ok (.iload_n 2, 1) := by decide +kernel
theorem dX1_unseat_11 : decode cX1_unseat 11 = .ok (.ifCond .eq 8, 3) := by decide +kernel
theorem dX1_unseat_14 : decode cX1_unseat 14 = .ok (.aload_n 0, 1) := by decide +kernel
theorem dX1_unseat_15 : decode cX1_unseat 15 = .ok (.iload_n 1, 1) := by decide +kernel
theorem dX1_unseat_16 : decode cX1_unseat 16 = .ok (.invokevirtual 60, 3) := by decide +kernel
theorem dX1_unseat_19 : decode cX1_unseat 19 = .ok (.return_, 1) := by decide +kernel
theorem dX1_hearCall_0 : decode cX1_hearCall 0 = .ok (.aload_n 0, 1) := by decide +kernel
theorem dX1_hearCall_1 : decode cX1_hearCall 1 = .ok (.getfield 9, 3) := by decide +kernel
theorem dX1_hearCall_4 : decode cX1_hearCall 4 = .ok (.iload_n 1, 1) := by decide +kernel
theorem dX1_hearCall_5 : decode cX1_hearCall 5 = .ok (.iaload, 1) := by decide +kernel
theorem dX1_hearCall_6 : decode cX1_hearCall 6 = .ok (.ifCond .le 23, 3) := by decide +kernel
theorem dX1_hearCall_9 : decode cX1_hearCall 9 = .ok (.aload_n 0, 1) := by decide +kernel
theorem dX1_hearCall_10 : decode cX1_hearCall 10 = .ok (.getfield 15, 3) := by decide +kernel
theorem dX1_hearCall_13 : decode cX1_hearCall 13 = .ok (.iload_n 1, 1) := by decide +kernel
theorem dX1_hearCall_14 : decode cX1_hearCall 14 = .ok (.aload_n 0, 1) := by decide +kernel
theorem dX1_hearCall_15 : decode cX1_hearCall 15 = .ok (.getfield 35, 3) := by decide +kernel
theorem dX1_hearCall_18 : decode cX1_hearCall 18 = .ok (.iastore, 1) := by decide +kernel
theorem dX1_hearCall_19 : decode cX1_hearCall 19 = .ok (.aload_n 0, 1) := by decide +kernel
theorem dX1_hearCall_20 : decode cX1_hearCall 20 = .ok (.getfield 18, 3) := by decide +kernel
theorem dX1_hearCall_23 : decode cX1_hearCall 23 = .ok (.iconst 5, 1) := by decide +kernel
theorem dX1_hearCall_24 : decode cX1_hearCall 24 = .ok (.dup2, 1) := by decide +kernel
theorem dX1_hearCall_25 : decode cX1_hearCall 25 = .ok (.iaload, 1) := by decide +kernel
theorem dX1_hearCall_26 : decode cX1_hearCall 26 = .ok (.iconst 1, 1) := by decide +kernel
theorem dX1_hearCall_27 : decode cX1_hearCall 27 = .ok (.iadd, 1) := by decide +kernel
theorem dX1_hearCall_28 : decode cX1_hearCall 28 = .ok (.iastore, 1) := by decide +kernel
theorem dX1_hearCall_29 : decode cX1_hearCall 29 = .ok (.return_, 1) := by decide +kernel
set_option maxRecDepth 20000 in
theorem ggX1_hearFarewell_X1_isWantedAt : GoodIn wsX1_hearFarewell wsX1_isWantedAt := goodIn_r _ [9, 10, 16, 17, 18, 19, 20, 21, 22, 23, 24, 25, 26, 27] (by decide +kernel) (by decide +kernel)
set_option maxRecDepth 20000 in
theorem gX1_hearFarewell_X1_isWantedAt : GoodIn wsX1_hearFarewell (wsV RX1 63 RX1 yX1_isWantedAt wsX1_isWantedAt) := goodIn_app (goodIn_of _ (by decide +kernel)) ggX1_hearFarewell_X1_isWantedAt
set_option maxRecDepth 20000 in
theorem ggX1_hearFarewell_X1_hearCall : GoodIn wsX1_hearFarewell wsX1_hearCall := goodIn_r _ [14, 10, 2, 15, 4, 16, 17, 18, 19, 20, 21, 22, 23, 24, 25, 26, 27] (by decide +kernel) (by decide +kernel)
set_option maxRecDepth 20000 in
theorem gX1_hearFarewell_X1_hearCall : GoodIn wsX1_hearFarewell (wsV RX1 56 RX1 yX1_hearCall wsX1_hearCall) := goodIn_app (goodIn_of _ (by decide +kernel)) ggX1_hearFarewell_X1_hearCall
theorem dX1_hearFarewell_0 : decode cX1_hearFarewell 0 = .ok (.aload_n 0, 1) := by decide +kernel
theorem dX1_hearFarewell_1 : decode cX1_hearFarewell 1 = .ok (.getfield 25, 3) := by decide +kernel
theorem dX1_hearFarewell_4 : decode cX1_hearFarewell 4 = .ok (.ifCond .eq 21, 3) := by decide +kernel
theorem dX1_hearFarewell_7 : decode cX1_hearFarewell 7 = .ok (.aload_n 0, 1) := by decide +kernel
theorem dX1_hearFarewell_8 : decode cX1_hearFarewell 8 = .ok (.iload_n 1, 1) := by decide +kernel
theorem dX1_hearFarewell_9 : decode cX1_hearFarewell 9 = .ok (.invokevirtual 63, 3) := by decide +kernel
theorem dX1_hearFarewell_12 : decode cX1_hearFarewell 12 = .ok (.ifCond .ne 13, 3) := by decide +kernel
theorem dX1_hearFarewell_15 : decode cX1_hearFarewell 15 = .ok (.aload_n 0, 1) := by decide +kernel
theorem dX1_hearFarewell_16 : decode cX1_hearFarewell 16 = .ok (.getfield 15, 3) := by decide +kernel
theorem dX1_hearFarewell_19 : decode cX1_hearFarewell 19 = .ok (.iload_n 1, 1) := by decide +kernel
theorem dX1_hearFarewell_20 : decode cX1_hearFarewell 20 = .ok (.iconst 0, 1) := by decide +kernel
theorem dX1_hearFarewell_21 : decode cX1_hearFarewell 21 = .ok (.iastore, 1) := by decide +kernel
theorem dX1_hearFarewell_22 : decode cX1_hearFarewell 22 = .ok (.goto 41, 3) := by decide +kernel
theorem dX1_hearFarewell_25 : decode cX1_hearFarewell 25 = .ok (.aload_n 0, 1) := by decide +kernel
theorem dX1_hearFarewell_26 : decode cX1_hearFarewell 26 = .ok (.getfield 15, 3) := by decide +kernel
theorem dX1_hearFarewell_29 : decode cX1_hearFarewell 29 = .ok (.iload_n 1, 1) := by decide +kernel
theorem dX1_hearFarewell_30 : decode cX1_hearFarewell 30 = .ok (.iaload, 1) := by decide +kernel
theorem dX1_hearFarewell_31 : decode cX1_hearFarewell 31 = .ok (.aload_n 0, 1) := by decide +kernel
theorem dX1_hearFarewell_32 : decode cX1_hearFarewell 32 = .ok (.getfield 38, 3) := by decide +kernel
theorem dX1_hearFarewell_35 : decode cX1_hearFarewell 35 = .ok (.if_icmp .le 28, 3) := by decide +kernel
theorem dX1_hearFarewell_38 : decode cX1_hearFarewell 38 = .ok (.aload_n 0, 1) := by decide +kernel
theorem dX1_hearFarewell_39 : decode cX1_hearFarewell 39 = .ok (.getfield 15, 3) := by decide +kernel
theorem dX1_hearFarewell_42 : decode cX1_hearFarewell 42 = .ok (.iload_n 1, 1) := by decide +kernel
theorem dX1_hearFarewell_43 : decode cX1_hearFarewell 43 = .ok (.aload_n 0, 1) := by decide +kernel
theorem dX1_hearFarewell_44 : decode cX1_hearFarewell 44 = .ok (.getfield 38, 3) := by decide +kernel
theorem dX1_hearFarewell_47 : decode cX1_hearFarewell 47 = .ok (.iastore, 1) := by decide +kernel
theorem dX1_hearFarewell_48 : decode cX1_hearFarewell 48 = .ok (.aload_n 0, 1) := by decide +kernel
theorem dX1_hearFarewell_49 : decode cX1_hearFarewell 49 = .ok (.getfield 18, 3) := by decide +kernel
theorem dX1_hearFarewell_52 : decode cX1_hearFarewell 52 = .ok (.iconst 4, 1) := by decide +kernel
theorem dX1_hearFarewell_53 : decode cX1_hearFarewell 53 = .ok (.dup2, 1) := by decide +kernel
theorem dX1_hearFarewell_54 : decode cX1_hearFarewell 54 = .ok (.iaload, 1) := by decide +kernel
theorem dX1_hearFarewell_55 : decode cX1_hearFarewell 55 = .ok (.iconst 1, 1) := by decide +kernel
theorem dX1_hearFarewell_56 : decode cX1_hearFarewell 56 = .ok (.iadd, 1) := by decide +kernel
theorem dX1_hearFarewell_57 : decode cX1_hearFarewell 57 = .ok (.iastore, 1) := by decide +kernel
theorem dX1_hearFarewell_58 : decode cX1_hearFarewell 58 = .ok (.aload_n 0, 1) := by decide +kernel
theorem dX1_hearFarewell_59 : decode cX1_hearFarewell 59 = .ok (.iload_n 1, 1) := by decide +kernel
theorem dX1_hearFarewell_60 : decode cX1_hearFarewell 60 = .ok (.invokevirtual 56, 3) := by decide +kernel
theorem dX1_hearFarewell_63 : decode cX1_hearFarewell 63 = .ok (.return_, 1) := by decide +kernel
set_option maxRecDepth 20000 in
theorem ggX1_askAllRows_X1_hearCall : GoodIn wsX1_askAllRows wsX1_hearCall := goodIn_r _ [6, 7, 8, 9, 1, 10, 11, 12, 13, 14, 15, 16, 17, 18, 19, 20, 21] (by decide +kernel) (by decide +kernel)
set_option maxRecDepth 20000 in
theorem gX1_askAllRows_X1_hearCall : GoodIn wsX1_askAllRows (wsV RX1 56 RX1 yX1_hearCall wsX1_hearCall) := goodIn_app (goodIn_of _ (by decide +kernel)) ggX1_askAllRows_X1_hearCall
theorem dX1_askAllRows_0 : decode cX1_askAllRows 0 = .ok (.aload_n 0, 1) := by decide +kernel
theorem dX1_askAllRows_1 : decode cX1_askAllRows 1 = .ok (.getfield 18, 3) := by decide +kernel
theorem dX1_askAllRows_4 : decode cX1_askAllRows 4 = .ok (.iconst 3, 1) := by decide +kernel
theorem dX1_askAllRows_5 : decode cX1_askAllRows 5 = .ok (.dup2, 1) := by decide +kernel
theorem dX1_askAllRows_6 : decode cX1_askAllRows 6 = .ok (.iaload, 1) := by decide +kernel
theorem dX1_askAllRows_7 : decode cX1_askAllRows 7 = .ok (.iconst 1, 1) := by decide +kernel
theorem dX1_askAllRows_8 : decode cX1_askAllRows 8 = .ok (.iadd, 1) := by decide +kernel
theorem dX1_askAllRows_9 : decode cX1_askAllRows 9 = .ok (.iastore, 1) := by decide +kernel
theorem dX1_askAllRows_10 : decode cX1_askAllRows 10 = .ok (.iconst 0, 1) := by decide +kernel
theorem dX1_askAllRows_11 : decode cX1_askAllRows 11 = .ok (.istore_n 1, 1) := by decide +kernel
theorem dX1_askAllRows_12 : decode cX1_askAllRows 12 = .ok (.iload_n 1, 1) := by decide +kernel
theorem dX1_askAllRows_13 : decode cX1_askAllRows 13 = .ok (.bipush 48, 2) := by decide +kernel
theorem dX1_askAllRows_15 : decode cX1_askAllRows 15 = .ok (.if_icmp .ge 14, 3) := by decide +kernel
theorem dX1_askAllRows_18 : decode cX1_askAllRows 18 = .ok (.aload_n 0, 1) := by decide +kernel
theorem dX1_askAllRows_19 : decode cX1_askAllRows 19 = .ok (.iload_n 1, 1) := by decide +kernel
theorem dX1_askAllRows_20 : decode cX1_askAllRows 20 = .ok (.invokevirtual 56, 3) := by decide +kernel
theorem dX1_askAllRows_23 : decode cX1_askAllRows 23 = .ok (.iinc 1 1, 3) := by decide +kernel
theorem dX1_askAllRows_26 : decode cX1_askAllRows 26 = .ok (.goto (-14), 3) := by decide +kernel
theorem dX1_askAllRows_29 : decode cX1_askAllRows 29 = .ok (.return_, 1) := by decide +kernel
theorem dX1_isRowOpen_0 : decode cX1_isRowOpen 0 = .ok (.aload_n 0, 1) := by decide +kernel
theorem dX1_isRowOpen_1 : decode cX1_isRowOpen 1 = .ok (.getfield 21, 3) := by decide +kernel
theorem dX1_isRowOpen_4 : decode cX1_isRowOpen 4 = .ok (.iload_n 1, 1) := by decide +kernel
theorem dX1_isRowOpen_5 : decode cX1_isRowOpen 5 = .ok (.ishr, 1) := by decide +kernel
theorem dX1_isRowOpen_6 : decode cX1_isRowOpen 6 = .ok (.iconst 1, 1) := by decide +kernel
theorem dX1_isRowOpen_7 : decode cX1_isRowOpen 7 = .ok (.iand, 1) := by decide +kernel
theorem dX1_isRowOpen_8 : decode cX1_isRowOpen 8 = .ok (.iconst 1, 1) := by decide +kernel
theorem dX1_isRowOpen_9 : decode cX1_isRowOpen 9 = .ok (.if_icmp .ne 7, 3) := by decide +kernel
theorem dX1_isRowOpen_12 : decode cX1_isRowOpen 12 = .ok (.iconst 1, 1) := by decide +kernel
theorem dX1_isRowOpen_13 : decode cX1_isRowOpen 13 = .ok (.goto 4, 3) := by decide +kernel
theorem dX1_isRowOpen_16 : decode cX1_isRowOpen 16 = .ok (.iconst 0, 1) := by decide +kernel
theorem dX1_isRowOpen_17 : decode cX1_isRowOpen 17 = .ok (.ireturn, 1) := by decide +kernel
theorem dX1_turnRow_0 : decode cX1_turnRow 0 = .ok (.aload_n 0, 1) := by decide +kernel
theorem dX1_turnRow_1 : decode cX1_turnRow 1 = .ok (.dup, 1) := by decide +kernel
theorem dX1_turnRow_2 : decode cX1_turnRow 2 = .ok (.getfield 21, 3) := by decide +kernel
theorem dX1_turnRow_5 : decode cX1_turnRow 5 = .ok (.iconst 1, 1) := by decide +kernel
theorem dX1_turnRow_6 : decode cX1_turnRow 6 = .ok (.iload_n 1, 1) := by decide +kernel
theorem dX1_turnRow_7 : decode cX1_turnRow 7 = .ok (.ishl, 1) := by decide +kernel
theorem dX1_turnRow_8 : decode cX1_turnRow 8 = .ok (.ixor, 1) := by decide +kernel
theorem dX1_turnRow_9 : decode cX1_turnRow 9 = .ok (.putfield 21, 3) := by decide +kernel
theorem dX1_turnRow_12 : decode cX1_turnRow 12 = .ok (.return_, 1) := by decide +kernel
theorem dX1_chiefAsker_0 : decode cX1_chiefAsker 0 = .ok (.aload_n 0, 1) := by decide +kernel
theorem dX1_chiefAsker_1 : decode cX1_chiefAsker 1 = .ok (.getfield 32, 3) := by decide +kernel
theorem dX1_chiefAsker_4 : decode cX1_chiefAsker 4 = .ok (.ifCond .eq 5, 3) := by decide +kernel
theorem dX1_chiefAsker_7 : decode cX1_chiefAsker 7 = .ok (.iconst 2, 1) := by decide +kernel
theorem dX1_chiefAsker_8 : decode cX1_chiefAsker 8 = .ok (.ireturn, 1) := by decide +kernel
theorem dX1_chiefAsker_9 : decode cX1_chiefAsker 9 = .ok (.aload_n 0, 1) := by decide +kernel
theorem dX1_chiefAsker_10 : decode cX1_chiefAsker 10 = .ok (.getfield 29, 3) := by decide +kernel
theorem dX1_chiefAsker_13 : decode cX1_chiefAsker 13 = .ok (.ifCond .eq 7, 3) := by decide +kernel
theorem dX1_chiefAsker_16 : decode cX1_chiefAsker 16 = .ok (.iconst 1, 1) := by decide +kernel
theorem dX1_chiefAsker_17 : decode cX1_chiefAsker 17 = .ok (.goto 4, 3) := by decide +kernel
theorem dX1_chiefAsker_20 : decode cX1_chiefAsker 20 = .ok (.iconst 0, 1) := by decide +kernel
theorem dX1_chiefAsker_21 : decode cX1_chiefAsker 21 = .ok (.ireturn, 1) := by decide +kernel
theorem dX1_entriesInAll_0 : decode cX1_entriesInAll 0 = .ok (.iconst 0, 1) := by decide +kernel
theorem dX1_entriesInAll_1 : decode cX1_entriesInAll 1 = .ok (.istore_n 1, 1) := by decide +kernel
theorem dX1_entriesInAll_2 : decode cX1_entriesInAll 2 = .ok (.iconst 0, 1) := by decide +kernel
theorem dX1_entriesInAll_3 : decode cX1_entriesInAll 3 = .ok (.istore_n 2, 1) := by decide +kernel
theorem dX1_entriesInAll_4 : decode cX1_entriesInAll 4 = .ok (.iload_n 2, 1) := by decide +kernel
theorem dX1_entriesInAll_5 : decode cX1_entriesInAll 5 = .ok (.bipush 48, 2) := by decide +kernel
theorem dX1_entriesInAll_7 : decode cX1_entriesInAll 7 = .ok (.if_icmp .ge 21, 3) := by decide +kernel
theorem dX1_entriesInAll_10 : decode cX1_entriesInAll 10 = .ok (.aload_n 0, 1) := by decide +kernel
theorem dX1_entriesInAll_11 : decode cX1_entriesInAll 11 = .ok (.getfield 15, 3) := by decide +kernel
theorem dX1_entriesInAll_14 : decode cX1_entriesInAll 14 = .ok (.iload_n 2, 1) := by decide +kernel
theorem dX1_entriesInAll_15 : decode cX1_entriesInAll 15 = .ok (.iaload, 1) := by decide +kernel
theorem dX1_entriesInAll_16 : decode cX1_entriesInAll 16 = .ok (.ifCond .le 6, 3) := by decide +kernel
theorem dX1_entriesInAll_19 : decode cX1_entriesInAll 19 = .ok (.iinc 1 1, 3) := by decide +kernel
theorem dX1_entriesInAll_22 : decode cX1_entriesInAll 22 = .ok (.iinc 2 1, 3) := by decide +kernel
theorem dX1_entriesInAll_25 : decode cX1_entriesInAll 25 = .ok (.goto (-21), 3) := by decide +kernel
theorem dX1_entriesInAll_28 : decode cX1_entriesInAll 28 = .ok (.iload_n 1, 1) := by decide +kernel
theorem dX1_entriesInAll_29 : decode cX1_entriesInAll 29 = .ok (.ireturn, 1) := by decide +kernel
set_option maxRecDepth 20000 in
theorem ggX1_rowsThatGet_X3_placeOf : GoodIn wsX1_rowsThatGet wsX3_placeOf := goodIn_r _ [5] (by decide +kernel) (by decide +kernel)
set_option maxRecDepth 20000 in
theorem gX1_rowsThatGet_X3_placeOf_n67 : GoodIn wsX1_rowsThatGet (wsX3_placeOf) := ggX1_rowsThatGet_X3_placeOf
theorem dX1_rowsThatGet_0 : decode cX1_rowsThatGet 0 = .ok (.aload_n 0, 1) := by decide +kernel
theorem dX1_rowsThatGet_1 : decode cX1_rowsThatGet 1 = .ok (.getfield 21, 3) := by decide +kernel
theorem dX1_rowsThatGet_4 : decode cX1_rowsThatGet 4 = .ok (.istore_n 2, 1) := by decide +kernel
theorem dX1_rowsThatGet_5 : decode cX1_rowsThatGet 5 = .ok (.iconst 0, 1) := by decide +kernel
theorem dX1_rowsThatGet_6 : decode cX1_rowsThatGet 6 = .ok (.istore_n 3, 1) := by decide +kernel
theorem dX1_rowsThatGet_7 : decode cX1_rowsThatGet 7 = .ok (.iload_n 3, 1) := by decide +kernel
theorem dX1_rowsThatGet_8 : decode cX1_rowsThatGet 8 = .ok (.bipush 8, 2) := by decide +kernel
theorem dX1_rowsThatGet_10 : decode cX1_rowsThatGet 10 = .ok (.if_icmp .ge 28, 3) := by decide +kernel
theorem dX1_rowsThatGet_13 : decode cX1_rowsThatGet 13 = .ok (.aload_n 0, 1) := by decide +kernel
theorem dX1_rowsThatGet_14 : decode cX1_rowsThatGet 14 = .ok (.getfield 15, 3) := by decide +kernel
theorem dX1_rowsThatGet_17 : decode cX1_rowsThatGet 17 = .ok (.iload_n 3, 1) := by decide +kernel
theorem dX1_rowsThatGet_18 : decode cX1_rowsThatGet 18 = .ok (.iload_n 1, 1) := by decide +kernel
theorem dX1_rowsThatGet_19 : decode cX1_rowsThatGet 19 = .ok (.invokestatic 67, 3) := by decide +kernel
theorem dX1_rowsThatGet_22 : decode cX1_rowsThatGet 22 = .ok (.iaload, 1) := by decide +kernel
theorem dX1_rowsThatGet_23 : decode cX1_rowsThatGet 23 = .ok (.ifCond .le 9, 3) := by decide +kernel
theorem dX1_rowsThatGet_26 : decode cX1_rowsThatGet 26 = .ok (.iload_n 2, 1) := by decide +kernel
theorem dX1_rowsThatGet_27 : decode cX1_rowsThatGet 27 = .ok (.iconst 1, 1) := by decide +kernel
theorem dX1_rowsThatGet_28 : decode cX1_rowsThatGet 28 = .ok (.iload_n 3, 1) := by decide +kernel
theorem dX1_rowsThatGet_29 : decode cX1_rowsThatGet 29 = .ok (.ishl, 1) := by decide +kernel
theorem dX1_rowsThatGet_30 : decode cX1_rowsThatGet 30 = .ok (.ior, 1) := by decide +kernel
theorem dX1_rowsThatGet_31 : decode cX1_rowsThatGet 31 = .ok (.istore_n 2, 1) := by decide +kernel
theorem dX1_rowsThatGet_32 : decode cX1_rowsThatGet 32 = .ok (.iinc 3 1, 3) := by decide +kernel
theorem dX1_rowsThatGet_35 : decode cX1_rowsThatGet 35 = .ok (.goto (-28), 3) := by decide +kernel
theorem dX1_rowsThatGet_38 : decode cX1_rowsThatGet 38 = .ok (.iload_n 2, 1) := by decide +kernel
theorem dX1_rowsThatGet_39 : decode cX1_rowsThatGet 39 = .ok (.ireturn, 1) := by decide +kernel
set_option maxRecDepth 20000 in
theorem ggX1_rowsThatWant_X3_placeOf : GoodIn wsX1_rowsThatWant wsX3_placeOf := goodIn_r _ [3] (by decide +kernel) (by decide +kernel)
set_option maxRecDepth 20000 in
theorem gX1_rowsThatWant_X3_placeOf_n67 : GoodIn wsX1_rowsThatWant (wsX3_placeOf) := ggX1_rowsThatWant_X3_placeOf
set_option maxRecDepth 20000 in
theorem ggX1_rowsThatWant_X1_isWantedAt : GoodIn wsX1_rowsThatWant wsX1_isWantedAt := goodIn_r _ [8, 9, 10, 11, 12, 13, 14, 15, 16, 17, 18, 19, 20, 21] (by decide +kernel) (by decide +kernel)
set_option maxRecDepth 20000 in
theorem gX1_rowsThatWant_X1_isWantedAt : GoodIn wsX1_rowsThatWant (wsV RX1 63 RX1 yX1_isWantedAt wsX1_isWantedAt) := goodIn_app (goodIn_of _ (by decide +kernel)) ggX1_rowsThatWant_X1_isWantedAt
theorem dX1_rowsThatWant_0 : decode cX1_rowsThatWant 0 = .ok (.iconst 0, 1) := by decide +kernel
theorem dX1_rowsThatWant_1 : decode cX1_rowsThatWant 1 = .ok (.istore_n 2, 1) := by decide +kernel
theorem dX1_rowsThatWant_2 : decode cX1_rowsThatWant 2 = .ok (.iconst 0, 1) := by decide +kernel
theorem dX1_rowsThatWant_3 : decode cX1_rowsThatWant 3 = .ok (.istore_n 3, 1) := by decide +kernel
theorem dX1_rowsThatWant_4 : decode cX1_rowsThatWant 4 = .ok (.iload_n 3, 1) := by decide +kernel
theorem dX1_rowsThatWant_5 : decode cX1_rowsThatWant 5 = .ok (.bipush 8, 2) := by decide +kernel
theorem dX1_rowsThatWant_7 : decode cX1_rowsThatWant 7 = .ok (.if_icmp .ge 27, 3) := by decide +kernel
theorem dX1_rowsThatWant_10 : decode cX1_rowsThatWant 10 = .ok (.aload_n 0, 1) := by decide +kernel
theorem dX1_rowsThatWant_11 : decode cX1_rowsThatWant 11 = .ok (.iload_n 3, 1) := by decide +kernel
theorem dX1_rowsThatWant_12 : decode cX1_rowsThatWant 12 = .ok (.iload_n 1, 1) := by decide +kernel
theorem dX1_rowsThatWant_13 : decode cX1_rowsThatWant 13 = .ok (.invokestatic 67, 3) := by decide +kernel
theorem dX1_rowsThatWant_16 : decode cX1_rowsThatWant 16 = .ok (.invokevirtual 63, 3) := by decide +kernel
theorem dX1_rowsThatWant_19 : decode cX1_rowsThatWant 19 = .ok (.ifCond .eq 9, 3) := by decide +kernel
theorem dX1_rowsThatWant_22 : decode cX1_rowsThatWant 22 = .ok (.iload_n 2, 1) := by decide +kernel
theorem dX1_rowsThatWant_23 : decode cX1_rowsThatWant 23 = .ok (.iconst 1, 1) := by decide +kernel
theorem dX1_rowsThatWant_24 : decode cX1_rowsThatWant 24 = .ok (.iload_n 3, 1) := by decide +kernel
theorem dX1_rowsThatWant_25 : decode cX1_rowsThatWant 25 = .ok (.ishl, 1) := by decide +kernel
theorem dX1_rowsThatWant_26 : decode cX1_rowsThatWant 26 = .ok (.ior, 1) := by decide +kernel
theorem dX1_rowsThatWant_27 : decode cX1_rowsThatWant 27 = .ok (.istore_n 2, 1) := by decide +kernel
theorem dX1_rowsThatWant_28 : decode cX1_rowsThatWant 28 = .ok (.iinc 3 1, 3) := by decide +kernel
theorem dX1_rowsThatWant_31 : decode cX1_rowsThatWant 31 = .ok (.goto (-27), 3) := by decide +kernel
theorem dX1_rowsThatWant_34 : decode cX1_rowsThatWant 34 = .ok (.iload_n 2, 1) := by decide +kernel
theorem dX1_rowsThatWant_35 : decode cX1_rowsThatWant 35 = .ok (.ireturn, 1) := by decide +kernel
set_option maxRecDepth 20000 in
theorem ggX1_letPass_X1_fadeEntries : GoodIn wsX1_letPass wsX1_fadeEntries := goodIn_r _ [7, 8, 31, 32, 33, 34, 35, 36, 37, 38, 39, 40, 41, 42] (by decide +kernel) (by decide +kernel)
set_option maxRecDepth 20000 in
theorem gX1_letPass_X1_fadeEntries : GoodIn wsX1_letPass (wsV RX1 71 RX1 yX1_fadeEntries wsX1_fadeEntries) := goodIn_app (goodIn_of _ (by decide +kernel)) ggX1_letPass_X1_fadeEntries
set_option maxRecDepth 20000 in
theorem ggX1_letPass_X1_timeBetweenQuestions : GoodIn wsX1_letPass wsX1_timeBetweenQuestions := goodIn_r _ [12, 13, 14, 15, 16, 6, 17, 18, 19, 31, 32, 33, 34, 35, 36, 37, 38, 39, 40, 41, 42] (by decide +kernel) (by decide +kernel)
set_option maxRecDepth 20000 in
theorem gX1_letPass_X1_timeBetweenQuestions : GoodIn wsX1_letPass (wsV RX1 74 RX1 yX1_timeBetweenQuestions wsX1_timeBetweenQuestions) := goodIn_app (goodIn_of _ (by decide +kernel)) ggX1_letPass_X1_timeBetweenQuestions
set_option maxRecDepth 20000 in
theorem ggX1_letPass_X1_askAllRows : GoodIn wsX1_letPass wsX1_askAllRows := goodIn_r _ [23, 24, 25, 26, 27, 6, 28, 29, 8, 30, 31, 32, 33, 34, 35, 36, 37, 38, 39, 40, 41, 42] (by decide +kernel) (by decide +kernel)
set_option maxRecDepth 20000 in
theorem gX1_letPass_X1_askAllRows : GoodIn wsX1_letPass (wsV RX1 78 RX1 yX1_askAllRows wsX1_askAllRows) := goodIn_app (goodIn_of _ (by decide +kernel)) ggX1_letPass_X1_askAllRows
theorem dX1_letPass_0 : decode cX1_letPass 0 = .ok (.iconst 0, 1) := by decide +kernel
theorem dX1_letPass_1 : decode cX1_letPass 1 = .ok (.istore_n 2, 1) := by decide +kernel
theorem dX1_letPass_2 : decode cX1_letPass 2 = .ok (.iconst 0, 1) := by decide +kernel
theorem dX1_letPass_3 : decode cX1_letPass 3 = .ok (.istore_n 3, 1) := by decide +kernel
theorem dX1_letPass_4 : decode cX1_letPass 4 = .ok (.iload_n 3, 1) := by decide +kernel
theorem dX1_letPass_5 : decode cX1_letPass 5 = .ok (.iload_n 1, 1) := by decide +kernel
theorem dX1_letPass_6 : decode cX1_letPass 6 = .ok (.if_icmp .ge 56, 3) := by decide +kernel
theorem dX1_letPass_9 : decode cX1_letPass 9 = .ok (.aload_n 0, 1) := by decide +kernel
theorem dX1_letPass_10 : decode cX1_letPass 10 = .ok (.dup, 1) := by decide +kernel
theorem dX1_letPass_11 : decode cX1_letPass 11 = .ok (.getfield 44, 3) := by decide +kernel
theorem dX1_letPass_14 : decode cX1_letPass 14 = .ok (.iconst 1, 1) := by decide +kernel
theorem dX1_letPass_15 : decode cX1_letPass 15 = .ok (.iadd, 1) := by decide +kernel
theorem dX1_letPass_16 : decode cX1_letPass 16 = .ok (.putfield 44, 3) := by decide +kernel
theorem dX1_letPass_19 : decode cX1_letPass 19 = .ok (.aload_n 0, 1) := by decide +kernel
theorem dX1_letPass_20 : decode cX1_letPass 20 = .ok (.invokevirtual 71, 3) := by decide +kernel
theorem dX1_letPass_23 : decode cX1_letPass 23 = .ok (.aload_n 0, 1) := by decide +kernel
theorem dX1_letPass_24 : decode cX1_letPass 24 = .ok (.dup, 1) := by decide +kernel
theorem dX1_letPass_25 : decode cX1_letPass 25 = .ok (.getfield 47, 3) := by decide +kernel
theorem dX1_letPass_28 : decode cX1_letPass 28 = .ok (.iconst 1, 1) := by decide +kernel
theorem dX1_letPass_29 : decode cX1_letPass 29 = .ok (.iadd, 1) := by decide +kernel
theorem dX1_letPass_30 : decode cX1_letPass 30 = .ok (.putfield 47, 3) := by decide +kernel
theorem dX1_letPass_33 : decode cX1_letPass 33 = .ok (.aload_n 0, 1) := by decide +kernel
theorem dX1_letPass_34 : decode cX1_letPass 34 = .ok (.getfield 47, 3) := by decide +kernel
theorem dX1_letPass_37 : decode cX1_letPass 37 = .ok (.aload_n 0, 1) := by decide +kernel
theorem dX1_letPass_38 : decode cX1_letPass 38 = .ok (.invokevirtual 74, 3) := by decide +kernel
theorem dX1_letPass_41 : decode cX1_letPass 41 = .ok (.if_icmp .lt 15, 3) := by decide +kernel
theorem dX1_letPass_44 : decode cX1_letPass 44 = .ok (.aload_n 0, 1) := by decide +kernel
theorem dX1_letPass_45 : decode cX1_letPass 45 = .ok (.iconst 0, 1) := by decide +kernel
theorem dX1_letPass_46 : decode cX1_letPass 46 = .ok (.putfield 47, 3) := by decide +kernel
theorem dX1_letPass_49 : decode cX1_letPass 49 = .ok (.aload_n 0, 1) := by decide +kernel
theorem dX1_letPass_50 : decode cX1_letPass 50 = .ok (.invokevirtual 78, 3) := by decide +kernel
theorem dX1_letPass_53 : decode cX1_letPass 53 = .ok (.iinc 2 1, 3) := by decide +kernel
theorem dX1_letPass_56 : decode cX1_letPass 56 = .ok (.iinc 3 1, 3) := by decide +kernel
theorem dX1_letPass_59 : decode cX1_letPass 59 = .ok (.goto (-55), 3) := by decide +kernel
theorem dX1_letPass_62 : decode cX1_letPass 62 = .ok (.iload_n 2, 1) := by decide +kernel
theorem dX1_letPass_63 : decode cX1_letPass 63 = .ok (.ireturn, 1) := by decide +kernel
theorem dX1_fadeEntries_0 : decode cX1_fadeEntries 0 = .ok (.iconst 0, 1) := by decide +kernel
theorem dX1_fadeEntries_1 : decode cX1_fadeEntries 1 = .ok (.istore_n 1, 1) := by decide +kernel
theorem dX1_fadeEntries_2 : decode cX1_fadeEntries 2 = .ok (.iload_n 1, 1) := by decide +kernel
theorem dX1_fadeEntries_3 : decode cX1_fadeEntries 3 = .ok (.bipush 48, 2) := by decide +kernel
theorem dX1_fadeEntries_5 : decode cX1_fadeEntries 5 = .ok (.if_icmp .ge 28, 3) := by decide +kernel
theorem dX1_fadeEntries_8 : decode cX1_fadeEntries 8 = .ok (.aload_n 0, 1) := by decide +kernel
theorem dX1_fadeEntries_9 : decode cX1_fadeEntries 9 = .ok (.getfield 15, 3) := by decide +kernel
theorem dX1_fadeEntries_12 : decode cX1_fadeEntries 12 = .ok (.iload_n 1, 1) := by decide +kernel
theorem dX1_fadeEntries_13 : decode cX1_fadeEntries 13 = .ok (.iaload, 1) := by decide +kernel
theorem dX1_fadeEntries_14 : decode cX1_fadeEntries 14 = .ok (.ifCond .le 13, 3) := by decide +kernel
theorem dX1_fadeEntries_17 : decode cX1_fadeEntries 17 = .ok (.aload_n 0, 1) := by decide +kernel
theorem dX1_fadeEntries_18 : decode cX1_fadeEntries 18 = .ok (.getfield 15, 3) := by decide +kernel
theorem dX1_fadeEntries_21 : decode cX1_fadeEntries 21 = .ok (.iload_n 1, 1) := by decide +kernel
theorem dX1_fadeEntries_22 : decode cX1_fadeEntries 22 = .ok (.dup2, 1) := by decide +kernel
theorem dX1_fadeEntries_23 : decode cX1_fadeEntries 23 = .ok (.iaload, 1) := by decide +kernel
theorem dX1_fadeEntries_24 : decode cX1_fadeEntries 24 = .ok (.iconst 1, 1) := by decide +kernel
theorem dX1_fadeEntries_25 : decode cX1_fadeEntries 25 = .ok (.isub, 1) := by decide +kernel
theorem dX1_fadeEntries_26 : decode cX1_fadeEntries 26 = .ok (.iastore, 1) := by decide +kernel
theorem dX1_fadeEntries_27 : decode cX1_fadeEntries 27 = .ok (.iinc 1 1, 3) := by decide +kernel
theorem dX1_fadeEntries_30 : decode cX1_fadeEntries 30 = .ok (.goto (-28), 3) := by decide +kernel
theorem dX1_fadeEntries_33 : decode cX1_fadeEntries 33 = .ok (.return_, 1) := by decide +kernel
set_option maxRecDepth 20000 in
theorem ggX1_timeBetweenQuestions_X1_chiefAsker : GoodIn wsX1_timeBetweenQuestions wsX1_chiefAsker := goodIn_r _ [6, 7, 8, 9, 10, 11, 12, 13, 14, 15, 16, 17, 18, 19, 20] (by decide +kernel) (by decide +kernel)
set_option maxRecDepth 20000 in
theorem gX1_timeBetweenQuestions_X1_chiefAsker : GoodIn wsX1_timeBetweenQuestions (wsV RX1 81 RX1 yX1_chiefAsker wsX1_chiefAsker) := goodIn_app (goodIn_of _ (by decide +kernel)) ggX1_timeBetweenQuestions_X1_chiefAsker
theorem dX1_timeBetweenQuestions_0 : decode cX1_timeBetweenQuestions 0 = .ok (.aload_n 0, 1) := by decide +kernel
theorem dX1_timeBetweenQuestions_1 : decode cX1_timeBetweenQuestions 1 = .ok (.invokevirtual 81, 3) := by decide +kernel
theorem dX1_timeBetweenQuestions_4 : decode cX1_timeBetweenQuestions 4 = .ok (.ifCond .ne 10, 3) := by decide +kernel
theorem dX1_timeBetweenQuestions_7 : decode cX1_timeBetweenQuestions 7 = .ok (.aload_n 0, 1) := by decide +kernel
theorem dX1_timeBetweenQuestions_8 : decode cX1_timeBetweenQuestions 8 = .ok (.getfield 41, 3) := by decide +kernel
theorem dX1_timeBetweenQuestions_11 : decode cX1_timeBetweenQuestions 11 = .ok (.goto 9, 3) := by decide +kernel
theorem dX1_timeBetweenQuestions_14 : decode cX1_timeBetweenQuestions 14 = .ok (.iconst 2, 1) := by decide +kernel
theorem dX1_timeBetweenQuestions_15 : decode cX1_timeBetweenQuestions 15 = .ok (.aload_n 0, 1) := by decide +kernel
theorem dX1_timeBetweenQuestions_16 : decode cX1_timeBetweenQuestions 16 = .ok (.getfield 41, 3) := by decide +kernel
theorem dX1_timeBetweenQuestions_19 : decode cX1_timeBetweenQuestions 19 = .ok (.imul, 1) := by decide +kernel
theorem dX1_timeBetweenQuestions_20 : decode cX1_timeBetweenQuestions 20 = .ok (.ireturn, 1) := by decide +kernel
set_option maxRecDepth 20000 in
theorem ggX1_perform_X1_rowsThatGet : GoodIn wsX1_perform wsX1_rowsThatGet := goodIn_r _ [6, 7, 8, 9, 10, 11, 28, 29, 30, 31, 32, 33, 34, 35, 36, 37, 38, 39] (by decide +kernel) (by decide +kernel)
set_option maxRecDepth 20000 in
theorem gX1_perform_X1_rowsThatGet : GoodIn wsX1_perform (wsV RX1 84 RX1 yX1_rowsThatGet wsX1_rowsThatGet) := goodIn_app (goodIn_of _ (by decide +kernel)) ggX1_perform_X1_rowsThatGet
set_option maxRecDepth 20000 in
theorem ggX1_perform_X1_rowsThatWant : GoodIn wsX1_perform wsX1_rowsThatWant := goodIn_r _ [15, 9, 10, 11, 16, 17, 18, 5, 19, 20, 28, 29, 30, 31, 32, 33, 34, 35, 36, 37, 38, 39] (by decide +kernel) (by decide +kernel)
set_option maxRecDepth 20000 in
theorem gX1_perform_X1_rowsThatWant : GoodIn wsX1_perform (wsV RX1 88 RX1 yX1_rowsThatWant wsX1_rowsThatWant) := goodIn_app (goodIn_of _ (by decide +kernel)) ggX1_perform_X1_rowsThatWant
set_option maxRecDepth 20000 in
theorem ggX1_perform_J6_bitCount_0f7a4 : GoodIn wsX1_perform wsJ6_bitCount_0f7a4 := goodIn_r _ [24, 25, 26, 27] (by decide +kernel) (by decide +kernel)
set_option maxRecDepth 20000 in
theorem gX1_perform_J6_bitCount_0f7a4 : GoodIn wsX1_perform (va_wsS RX1 91 yJ6_bitCount_0f7a4 wsJ6_bitCount_0f7a4) := goodIn_app (goodIn_of _ (by decide +kernel)) ggX1_perform_J6_bitCount_0f7a4
theorem dX1_perform_0 : decode cX1_perform 0 = .ok (.aload_n 0, 1) := by decide +kernel
theorem dX1_perform_1 : decode cX1_perform 1 = .ok (.iload_n 1, 1) := by decide +kernel
theorem dX1_perform_2 : decode cX1_perform 2 = .ok (.invokevirtual 84, 3) := by decide +kernel
theorem dX1_perform_5 : decode cX1_perform 5 = .ok (.istore_n 2, 1) := by decide +kernel
theorem dX1_perform_6 : decode cX1_perform 6 = .ok (.aload_n 0, 1) := by decide +kernel
theorem dX1_perform_7 : decode cX1_perform 7 = .ok (.iload_n 1, 1) := by decide +kernel
theorem dX1_perform_8 : decode cX1_perform 8 = .ok (.invokevirtual 88, 3) := by decide +kernel
theorem dX1_perform_11 : decode cX1_perform 11 = .ok (.istore_n 3, 1) := by decide +kernel
theorem dX1_perform_12 : decode cX1_perform 12 = .ok (.aload_n 0, 1) := by decide +kernel
theorem dX1_perform_13 : decode cX1_perform 13 = .ok (.getfield 18, 3) := by decide +kernel
theorem dX1_perform_16 : decode cX1_perform 16 = .ok (.iconst 0, 1) := by decide +kernel
theorem dX1_perform_17 : decode cX1_perform 17 = .ok (.dup2, 1) := by decide +kernel
theorem dX1_perform_18 : decode cX1_perform 18 = .ok (.iaload, 1) := by decide +kernel
theorem dX1_perform_19 : decode cX1_perform 19 = .ok (.iload_n 2, 1) := by decide +kernel
theorem dX1_perform_20 : decode cX1_perform 20 = .ok (.iload_n 3, 1) := by decide +kernel
theorem dX1_perform_21 : decode cX1_perform 21 = .ok (.iand, 1) := by decide +kernel
theorem dX1_perform_22 : decode cX1_perform 22 = .ok (.invokestatic 91, 3) := by decide +kernel
theorem dX1_perform_25 : decode cX1_perform 25 = .ok (.iadd, 1) := by decide +kernel
theorem dX1_perform_26 : decode cX1_perform 26 = .ok (.iastore, 1) := by decide +kernel
theorem dX1_perform_27 : decode cX1_perform 27 = .ok (.aload_n 0, 1) := by decide +kernel
theorem dX1_perform_28 : decode cX1_perform 28 = .ok (.getfield 18, 3) := by decide +kernel
theorem dX1_perform_31 : decode cX1_perform 31 = .ok (.iconst 1, 1) := by decide +kernel
theorem dX1_perform_32 : decode cX1_perform 32 = .ok (.dup2, 1) := by decide +kernel
theorem dX1_perform_33 : decode cX1_perform 33 = .ok (.iaload, 1) := by decide +kernel
theorem dX1_perform_34 : decode cX1_perform 34 = .ok (.iload_n 2, 1) := by decide +kernel
theorem dX1_perform_35 : decode cX1_perform 35 = .ok (.iload_n 3, 1) := by decide +kernel
theorem dX1_perform_36 : decode cX1_perform 36 = .ok (.iconst (-1), 1) := by decide +kernel
theorem dX1_perform_37 : decode cX1_perform 37 = .ok (.ixor, 1) := by decide +kernel
theorem dX1_perform_38 : decode cX1_perform 38 = .ok (.iand, 1) := by decide +kernel
theorem dX1_perform_39 : decode cX1_perform 39 = .ok (.invokestatic 91, 3) := by decide +kernel
theorem dX1_perform_42 : decode cX1_perform 42 = .ok (.iadd, 1) := by decide +kernel
theorem dX1_perform_43 : decode cX1_perform 43 = .ok (.iastore, 1) := by decide +kernel
theorem dX1_perform_44 : decode cX1_perform 44 = .ok (.aload_n 0, 1) := by decide +kernel
theorem dX1_perform_45 : decode cX1_perform 45 = .ok (.getfield 18, 3) := by decide +kernel
theorem dX1_perform_48 : decode cX1_perform 48 = .ok (.iconst 2, 1) := by decide +kernel
theorem dX1_perform_49 : decode cX1_perform 49 = .ok (.dup2, 1) := by decide +kernel
theorem dX1_perform_50 : decode cX1_perform 50 = .ok (.iaload, 1) := by decide +kernel
theorem dX1_perform_51 : decode cX1_perform 51 = .ok (.iload_n 3, 1) := by decide +kernel
theorem dX1_perform_52 : decode cX1_perform 52 = .ok (.iload_n 2, 1) := by decide +kernel
theorem dX1_perform_53 : decode cX1_perform 53 = .ok (.iconst (-1), 1) := by decide +kernel
theorem dX1_perform_54 : decode cX1_perform 54 = .ok (.ixor, 1) := by decide +kernel
theorem dX1_perform_55 : decode cX1_perform 55 = .ok (.iand, 1) := by decide +kernel
theorem dX1_perform_56 : decode cX1_perform 56 = .ok (.invokestatic 91, 3) := by decide +kernel
theorem dX1_perform_59 : decode cX1_perform 59 = .ok (.iadd, 1) := by decide +kernel
theorem dX1_perform_60 : decode cX1_perform 60 = .ok (.iastore, 1) := by decide +kernel
theorem dX1_perform_61 : decode cX1_perform 61 = .ok (.iload_n 2, 1) := by decide +kernel
theorem dX1_perform_62 : decode cX1_perform 62 = .ok (.invokestatic 91, 3) := by decide +kernel
theorem dX1_perform_65 : decode cX1_perform 65 = .ok (.ireturn, 1) := by decide +kernel
set_option maxRecDepth 20000 in
theorem ggX1_asksIn_X1_timeBetweenQuestions : GoodIn wsX1_asksIn wsX1_timeBetweenQuestions := goodIn_r _ [10, 11, 12, 13, 14, 9, 15, 16, 17, 18, 19, 20, 21, 22, 23, 24, 25, 26, 27, 28, 29] (by decide +kernel) (by decide +kernel)
set_option maxRecDepth 20000 in
theorem gX1_asksIn_X1_timeBetweenQuestions : GoodIn wsX1_asksIn (wsV RX1 74 RX1 yX1_timeBetweenQuestions wsX1_timeBetweenQuestions) := goodIn_app (goodIn_of _ (by decide +kernel)) ggX1_asksIn_X1_timeBetweenQuestions
theorem dX1_asksIn_0 : decode cX1_asksIn 0 = .ok (.iconst 1, 1) := by decide +kernel
theorem dX1_asksIn_1 : decode cX1_asksIn 1 = .ok (.aload_n 0, 1) := by decide +kernel
theorem dX1_asksIn_2 : decode cX1_asksIn 2 = .ok (.invokevirtual 74, 3) := by decide +kernel
theorem dX1_asksIn_5 : decode cX1_asksIn 5 = .ok (.aload_n 0, 1) := by decide +kernel
theorem dX1_asksIn_6 : decode cX1_asksIn 6 = .ok (.getfield 47, 3) := by decide +kernel
theorem dX1_asksIn_9 : decode cX1_asksIn 9 = .ok (.isub, 1) := by decide +kernel
theorem dX1_asksIn_10 : decode cX1_asksIn 10 = .ok (.invokestatic 96, 3) := by decide +kernel
theorem dX1_asksIn_13 : decode cX1_asksIn 13 = .ok (.ireturn, 1) := by decide +kernel
set_option maxRecDepth 20000 in
theorem ggX1_fadesIn_X1_asksIn : GoodIn wsX1_fadesIn wsX1_asksIn := goodIn_r _ [7, 8, 9, 10, 11, 12, 13, 14, 15, 6, 16, 17, 18, 19, 20, 21, 22, 23, 29, 30, 31, 32, 33, 34, 35, 36, 37, 38, 39, 40] (by decide +kernel) (by decide +kernel)
set_option maxRecDepth 20000 in
theorem gX1_fadesIn_X1_asksIn : GoodIn wsX1_fadesIn (wsV RX1 101 RX1 yX1_asksIn wsX1_asksIn) := goodIn_app (goodIn_of _ (by decide +kernel)) ggX1_fadesIn_X1_asksIn
set_option maxRecDepth 20000 in
theorem ggX1_fadesIn_X1_isWantedAt : GoodIn wsX1_fadesIn wsX1_isWantedAt := goodIn_r _ [27, 28, 29, 30, 31, 32, 33, 34, 35, 36, 37, 38, 39, 40] (by decide +kernel) (by decide +kernel)
set_option maxRecDepth 20000 in
theorem gX1_fadesIn_X1_isWantedAt : GoodIn wsX1_fadesIn (wsV RX1 63 RX1 yX1_isWantedAt wsX1_isWantedAt) := goodIn_app (goodIn_of _ (by decide +kernel)) ggX1_fadesIn_X1_isWantedAt
set_option maxRecDepth 20000 in
theorem ggX1_fadesIn_X1_timeBetweenQuestions : GoodIn wsX1_fadesIn wsX1_timeBetweenQuestions := goodIn_r _ [16, 17, 18, 19, 20, 6, 21, 22, 23, 29, 30, 31, 32, 33, 34, 35, 36, 37, 38, 39, 40] (by decide +kernel) (by decide +kernel)
set_option maxRecDepth 20000 in
theorem gX1_fadesIn_X1_timeBetweenQuestions : GoodIn wsX1_fadesIn (wsV RX1 74 RX1 yX1_timeBetweenQuestions wsX1_timeBetweenQuestions) := goodIn_app (goodIn_of _ (by decide +kernel)) ggX1_fadesIn_X1_timeBetweenQuestions
theorem dX1_fadesIn_0 : decode cX1_fadesIn 0 = .ok (.aload_n 0, 1) := by decide +kernel
theorem dX1_fadesIn_1 : decode cX1_fadesIn 1 = .ok (.invokevirtual 101, 3) := by decide +kernel
theorem dX1_fadesIn_4 : decode cX1_fadesIn 4 = .ok (.istore_n 2, 1) := by decide +kernel
theorem dX1_fadesIn_5 : decode cX1_fadesIn 5 = .ok (.aload_n 0, 1) := by decide +kernel
theorem dX1_fadesIn_6 : decode cX1_fadesIn 6 = .ok (.iload_n 1, 1) := by decide +kernel
theorem dX1_fadesIn_7 : decode cX1_fadesIn 7 = .ok (.invokevirtual 63, 3) := by decide +kernel
theorem dX1_fadesIn_10 : decode cX1_fadesIn 10 = .ok (.ifCond .eq 13, 3) := by decide +kernel
theorem dX1_fadesIn_13 : decode cX1_fadesIn 13 = .ok (.aload_n 0, 1) := by decide +kernel
theorem dX1_fadesIn_14 : decode cX1_fadesIn 14 = .ok (.getfield 15, 3) := by decide +kernel
theorem dX1_fadesIn_17 : decode cX1_fadesIn 17 = .ok (.iload_n 1, 1) := by decide +kernel
theorem dX1_fadesIn_18 : decode cX1_fadesIn 18 = .ok (.iaload, 1) := by decide +kernel
theorem dX1_fadesIn_19 : decode cX1_fadesIn 19 = .ok (.iload_n 2, 1) := by decide +kernel
theorem dX1_fadesIn_20 : decode cX1_fadesIn 20 = .ok (.if_icmp .ge 10, 3) := by decide +kernel
theorem dX1_fadesIn_23 : decode cX1_fadesIn 23 = .ok (.aload_n 0, 1) := by decide +kernel
theorem dX1_fadesIn_24 : decode cX1_fadesIn 24 = .ok (.getfield 15, 3) := by decide +kernel
theorem dX1_fadesIn_27 : decode cX1_fadesIn 27 = .ok (.iload_n 1, 1) := by decide +kernel
theorem dX1_fadesIn_28 : decode cX1_fadesIn 28 = .ok (.iaload, 1) := by decide +kernel
theorem dX1_fadesIn_29 : decode cX1_fadesIn 29 = .ok (.ireturn, 1) := by decide +kernel
theorem dX1_fadesIn_30 : decode cX1_fadesIn 30 = .ok (.aload_n 0, 1) := by decide +kernel
theorem dX1_fadesIn_31 : decode cX1_fadesIn 31 = .ok (.getfield 35, 3) := by decide +kernel
theorem dX1_fadesIn_34 : decode cX1_fadesIn 34 = .ok (.aload_n 0, 1) := by decide +kernel
theorem dX1_fadesIn_35 : decode cX1_fadesIn 35 = .ok (.invokevirtual 74, 3) := by decide +kernel
theorem dX1_fadesIn_38 : decode cX1_fadesIn 38 = .ok (.if_icmp .ge 12, 3) := by decide +kernel
theorem dX1_fadesIn_41 : decode cX1_fadesIn 41 = .ok (.iload_n 2, 1) := by decide +kernel
theorem dX1_fadesIn_42 : decode cX1_fadesIn 42 = .ok (.aload_n 0, 1) := by decide +kernel
theorem dX1_fadesIn_43 : decode cX1_fadesIn 43 = .ok (.getfield 35, 3) := by decide +kernel
theorem dX1_fadesIn_46 : decode cX1_fadesIn 46 = .ok (.iadd, 1) := by decide +kernel
theorem dX1_fadesIn_47 : decode cX1_fadesIn 47 = .ok (.goto 4, 3) := by decide +kernel
theorem dX1_fadesIn_50 : decode cX1_fadesIn 50 = .ok (.iconst (-1), 1) := by decide +kernel
theorem dX1_fadesIn_51 : decode cX1_fadesIn 51 = .ok (.ireturn, 1) := by decide +kernel
set_option maxRecDepth 20000 in
theorem ggX2_init_X1_init : GoodIn wsX2_init wsX1_init := goodIn_r _ [11, 12, 2, 3, 13, 14, 15, 16, 17, 18, 19, 20, 21, 22, 23, 24, 25, 29, 30, 31, 32, 33, 34, 35, 36, 37, 38, 39, 40] (by decide +kernel) (by decide +kernel)
set_option maxRecDepth 20000 in
theorem gX2_init_X1_init_n24 : GoodIn wsX2_init (wsX1_init) := ggX2_init_X1_init
theorem dX2_init_0 : decode cX2_init 0 = .ok (.aload_n 0, 1) := by decide +kernel
theorem dX2_init_1 : decode cX2_init 1 = .ok (.invokespecial 3, 3) := by decide +kernel
theorem dX2_init_4 : decode cX2_init 4 = .ok (.aload_n 0, 1) := by decide +kernel
theorem dX2_init_5 : decode cX2_init 5 = .ok (.bipush 6, 2) := by decide +kernel
theorem dX2_init_7 : decode cX2_init 7 = .ok (.anewarray 9, 3) := by decide +kernel
theorem dX2_init_10 : decode cX2_init 10 = .ok (.putfield 11, 3) := by decide +kernel
theorem dX2_init_13 : decode cX2_init 13 = .ok (.aload_n 0, 1) := by decide +kernel
theorem dX2_init_14 : decode cX2_init 14 = .ok (.iconst 0, 1) := by decide +kernel
theorem dX2_init_15 : decode cX2_init 15 = .ok (.putfield 17, 3) := by decide +kernel
theorem dX2_init_18 : decode cX2_init 18 = .ok (.aload_n 0, 1) := by decide +kernel
theorem dX2_init_19 : decode cX2_init 19 = .ok (.iconst 0, 1) := by decide +kernel
theorem dX2_init_20 : decode cX2_init 20 = .ok (.putfield 21, 3) := by decide +kernel
theorem dX2_init_23 : decode cX2_init 23 = .ok (.iconst 0, 1) := by decide +kernel
theorem dX2_init_24 : decode cX2_init 24 = .ok (.istore_n 1, 1) := by decide +kernel
theorem dX2_init_25 : decode cX2_init 25 = .ok (.iload_n 1, 1) := by decide +kernel
theorem dX2_init_26 : decode cX2_init 26 = .ok (.bipush 6, 2) := by decide +kernel
theorem dX2_init_28 : decode cX2_init 28 = .ok (.if_icmp .ge 22, 3) := by decide +kernel
theorem dX2_init_31 : decode cX2_init 31 = .ok (.aload_n 0, 1) := by decide +kernel
theorem dX2_init_32 : decode cX2_init 32 = .ok (.getfield 11, 3) := by decide +kernel
theorem dX2_init_35 : decode cX2_init 35 = .ok (.iload_n 1, 1) := by decide +kernel
theorem dX2_init_36 : decode cX2_init 36 = .ok (.new 9, 3) := by decide +kernel
theorem dX2_init_39 : decode cX2_init 39 = .ok (.dup, 1) := by decide +kernel
theorem dX2_init_40 : decode cX2_init 40 = .ok (.invokespecial 24, 3) := by decide +kernel
theorem dX2_init_43 : decode cX2_init 43 = .ok (.aastore, 1) := by decide +kernel
theorem dX2_init_44 : decode cX2_init 44 = .ok (.iinc 1 1, 3) := by decide +kernel
theorem dX2_init_47 : decode cX2_init 47 = .ok (.goto (-22), 3) := by decide +kernel
theorem dX2_init_50 : decode cX2_init 50 = .ok (.return_, 1) := by decide +kernel
set_option maxRecDepth 20000 in
theorem ggX2_keep_X1_copyFrom : GoodIn wsX2_keep wsX1_copyFrom := goodIn_r _ [8, 9, 10, 11, 12, 13, 14, 15, 16, 17, 18, 19, 20, 21, 22, 23, 24, 28, 29, 30, 31, 32, 33, 34, 35, 36, 37, 38, 39] (by decide +kernel) (by decide +kernel)
set_option maxRecDepth 20000 in
theorem gX2_keep_X1_copyFrom : GoodIn wsX2_keep (wsV RX2 25 RX1 yX1_copyFrom wsX1_copyFrom) := goodIn_app (goodIn_of _ (by decide +kernel)) ggX2_keep_X1_copyFrom
theorem dX2_keep_0 : decode cX2_keep 0 = .ok (.aload_n 0, 1) := by decide +kernel
theorem dX2_keep_1 : decode cX2_keep 1 = .ok (.getfield 21, 3) := by decide +kernel
theorem dX2_keep_4 : decode cX2_keep 4 = .ok (.bipush 6, 2) := by decide +kernel
theorem dX2_keep_6 : decode cX2_keep 6 = .ok (.if_icmp .ne 26, 3) := by decide +kernel
theorem dX2_keep_9 : decode cX2_keep 9 = .ok (.aload_n 0, 1) := by decide +kernel
theorem dX2_keep_10 : decode cX2_keep 10 = .ok (.aload_n 0, 1) := by decide +kernel
theorem dX2_keep_11 : decode cX2_keep 11 = .ok (.getfield 17, 3) := by decide +kernel
theorem dX2_keep_14 : decode cX2_keep 14 = .ok (.iconst 1, 1) := by decide +kernel
theorem dX2_keep_15 : decode cX2_keep 15 = .ok (.iadd, 1) := by decide +kernel
theorem dX2_keep_16 : decode cX2_keep 16 = .ok (.bipush 6, 2) := by decide +kernel
theorem dX2_keep_18 : decode cX2_keep 18 = .ok (.irem, 1) := by decide +kernel
theorem dX2_keep_19 : decode cX2_keep 19 = .ok (.putfield 17, 3) := by decide +kernel
theorem dX2_keep_22 : decode cX2_keep 22 = .ok (.aload_n 0, 1) := by decide +kernel
theorem dX2_keep_23 : decode cX2_keep 23 = .ok (.dup, 1) := by decide +kernel
theorem dX2_keep_24 : decode cX2_keep 24 = .ok (.getfield 21, 3) := by decide +kernel
theorem dX2_keep_27 : decode cX2_keep 27 = .ok (.iconst 1, 1) := by decide +kernel
theorem dX2_keep_28 : decode cX2_keep 28 = .ok (.isub, 1) := by decide +kernel
theorem dX2_keep_29 : decode cX2_keep 29 = .ok (.putfield 21, 3) := by decide +kernel
theorem dX2_keep_32 : decode cX2_keep 32 = .ok (.aload_n 0, 1) := by decide +kernel
theorem dX2_keep_33 : decode cX2_keep 33 = .ok (.getfield 11, 3) := by decide +kernel
theorem dX2_keep_36 : decode cX2_keep 36 = .ok (.aload_n 0, 1) := by decide +kernel
theorem dX2_keep_37 : decode cX2_keep 37 = .ok (.getfield 17, 3) := by decide +kernel
theorem dX2_keep_40 : decode cX2_keep 40 = .ok (.aload_n 0, 1) := by decide +kernel
theorem dX2_keep_41 : decode cX2_keep 41 = .ok (.getfield 21, 3) := by decide +kernel
theorem dX2_keep_44 : decode cX2_keep 44 = .ok (.iadd, 1) := by decide +kernel
theorem dX2_keep_45 : decode cX2_keep 45 = .ok (.bipush 6, 2) := by decide +kernel
theorem dX2_keep_47 : decode cX2_keep 47 = .ok (.irem, 1) := by decide +kernel
theorem dX2_keep_48 : decode cX2_keep 48 = .ok (.aaload, 1) := by decide +kernel
theorem dX2_keep_49 : decode cX2_keep 49 = .ok (.aload_n 1, 1) := by decide +kernel
theorem dX2_keep_50 : decode cX2_keep 50 = .ok (.invokevirtual 25, 3) := by decide +kernel
theorem dX2_keep_53 : decode cX2_keep 53 = .ok (.aload_n 0, 1) := by decide +kernel
theorem dX2_keep_54 : decode cX2_keep 54 = .ok (.dup, 1) := by decide +kernel
theorem dX2_keep_55 : decode cX2_keep 55 = .ok (.getfield 21, 3) := by decide +kernel
theorem dX2_keep_58 : decode cX2_keep 58 = .ok (.iconst 1, 1) := by decide +kernel
theorem dX2_keep_59 : decode cX2_keep 59 = .ok (.iadd, 1) := by decide +kernel
theorem dX2_keep_60 : decode cX2_keep 60 = .ok (.putfield 21, 3) := by decide +kernel
theorem dX2_keep_63 : decode cX2_keep 63 = .ok (.return_, 1) := by decide +kernel
set_option maxRecDepth 20000 in
theorem ggX2_takeBack_X1_copyFrom : GoodIn wsX2_takeBack wsX1_copyFrom := goodIn_r _ [8, 9, 10, 11, 12, 13, 14, 15, 16, 17, 18, 19, 20, 21, 22, 23, 24, 28, 29, 30, 31, 32, 33, 34, 35, 36, 37, 38, 39] (by decide +kernel) (by decide +kernel)
set_option maxRecDepth 20000 in
theorem gX2_takeBack_X1_copyFrom : GoodIn wsX2_takeBack (wsV RX2 25 RX1 yX1_copyFrom wsX1_copyFrom) := goodIn_app (goodIn_of _ (by decide +kernel)) ggX2_takeBack_X1_copyFrom
theorem dX2_takeBack_0 : decode cX2_takeBack 0 = .ok (.aload_n 0, 1) := by decide +kernel
theorem dX2_takeBack_1 : decode cX2_takeBack 1 = .ok (.getfield 21, 3) := by decide +kernel
theorem dX2_takeBack_4 : decode cX2_takeBack 4 = .ok (.ifCond .le 34, 3) := by decide +kernel
theorem dX2_takeBack_7 : decode cX2_takeBack 7 = .ok (.aload_n 0, 1) := by decide +kernel
theorem dX2_takeBack_8 : decode cX2_takeBack 8 = .ok (.dup, 1) := by decide +kernel
theorem dX2_takeBack_9 : decode cX2_takeBack 9 = .ok (.getfield 21, 3) := by decide +kernel
theorem dX2_takeBack_12 : decode cX2_takeBack 12 = .ok (.iconst 1, 1) := by decide +kernel
theorem dX2_takeBack_13 : decode cX2_takeBack 13 = .ok (.isub, 1) := by decide +kernel
theorem dX2_takeBack_14 : decode cX2_takeBack 14 = .ok (.putfield 21, 3) := by decide +kernel
theorem dX2_takeBack_17 : decode cX2_takeBack 17 = .ok (.aload_n 1, 1) := by decide +kernel
theorem dX2_takeBack_18 : decode cX2_takeBack 18 = .ok (.aload_n 0, 1) := by decide +kernel
theorem dX2_takeBack_19 : decode cX2_takeBack 19 = .ok (.getfield 11, 3) := by decide +kernel
theorem dX2_takeBack_22 : decode cX2_takeBack 22 = .ok (.aload_n 0, 1) := by decide +kernel
theorem dX2_takeBack_23 : decode cX2_takeBack 23 = .ok (.getfield 17, 3) := by decide +kernel
theorem dX2_takeBack_26 : decode cX2_takeBack 26 = .ok (.aload_n 0, 1) := by decide +kernel
theorem dX2_takeBack_27 : decode cX2_takeBack 27 = .ok (.getfield 21, 3) := by decide +kernel
theorem dX2_takeBack_30 : decode cX2_takeBack 30 = .ok (.iadd, 1) := by decide +kernel
theorem dX2_takeBack_31 : decode cX2_takeBack 31 = .ok (.bipush 6, 2) := by decide +kernel
theorem dX2_takeBack_33 : decode cX2_takeBack 33 = .ok (.irem, 1) := by decide +kernel
theorem dX2_takeBack_34 : decode cX2_takeBack 34 = .ok (.aaload, 1) := by decide +kernel
theorem dX2_takeBack_35 : decode cX2_takeBack 35 = .ok (.invokevirtual 25, 3) := by decide +kernel
theorem dX2_takeBack_38 : decode cX2_takeBack 38 = .ok (.return_, 1) := by decide +kernel

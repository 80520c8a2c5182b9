theorem dX4_init_0 : decode cX4_init 0 = .ok (.aload_n 0, 1) := by decide +kernel
theorem dX4_init_1 : decode cX4_init 1 = .ok (.invokespecial 1, 3) := by decide +kernel
theorem dX4_init_4 : decode cX4_init 4 = .ok (.aload_n 0, 1) := by decide +kernel
theorem dX4_init_5 : decode cX4_init 5 = .ok (.bipush 120, 2) := by decide +kernel
theorem dX4_init_7 : decode cX4_init 7 = .ok (.newarray .int, 2) := by decide +kernel
theorem dX4_init_9 : decode cX4_init 9 = .ok (.putfield 7, 3) := by decide +kernel
theorem dX4_init_12 : decode cX4_init 12 = .ok (.aload_n 0, 1) := by decide +kernel
theorem dX4_init_13 : decode cX4_init 13 = .ok (.bipush 120, 2) := by decide +kernel
theorem dX4_init_15 : decode cX4_init 15 = .ok (.newarray .int, 2) := by decide +kernel
theorem dX4_init_17 : decode cX4_init 17 = .ok (.putfield 13, 3) := by decide +kernel
theorem dX4_init_20 : decode cX4_init 20 = .ok (.aload_n 0, 1) := by decide +kernel
theorem dX4_init_21 : decode cX4_init 21 = .ok (.sipush 720, 3) := by decide +kernel
theorem dX4_init_24 : decode cX4_init 24 = .ok (.newarray .int, 2) := by decide +kernel
theorem dX4_init_26 : decode cX4_init 26 = .ok (.putfield 16, 3) := by decide +kernel
theorem dX4_init_29 : decode cX4_init 29 = .ok (.aload_n 0, 1) := by decide +kernel
theorem dX4_init_30 : decode cX4_init 30 = .ok (.bipush 60, 2) := by decide +kernel
theorem dX4_init_32 : decode cX4_init 32 = .ok (.newarray .int, 2) := by decide +kernel
theorem dX4_init_34 : decode cX4_init 34 = .ok (.putfield 19, 3) := by decide +kernel
theorem dX4_init_37 : decode cX4_init 37 = .ok (.aload_n 0, 1) := by decide +kernel
theorem dX4_init_38 : decode cX4_init 38 = .ok (.bipush 96, 2) := by decide +kernel
theorem dX4_init_40 : decode cX4_init 40 = .ok (.newarray .int, 2) := by decide +kernel
theorem dX4_init_42 : decode cX4_init 42 = .ok (.putfield 22, 3) := by decide +kernel
theorem dX4_init_45 : decode cX4_init 45 = .ok (.aload_n 0, 1) := by decide +kernel
theorem dX4_init_46 : decode cX4_init 46 = .ok (.iconst 0, 1) := by decide +kernel
theorem dX4_init_47 : decode cX4_init 47 = .ok (.putfield 25, 3) := by decide +kernel
theorem dX4_init_50 : decode cX4_init 50 = .ok (.aload_n 0, 1) := by decide +kernel
theorem dX4_init_51 : decode cX4_init 51 = .ok (.getfield 7, 3) := by decide +kernel
theorem dX4_init_54 : decode cX4_init 54 = .ok (.iconst 0, 1) := by decide +kernel
theorem dX4_init_55 : decode cX4_init 55 = .ok (.bipush 20, 2) := by decide +kernel
theorem dX4_init_57 : decode cX4_init 57 = .ok (.iastore, 1) := by decide +kernel
theorem dX4_init_58 : decode cX4_init 58 = .ok (.aload_n 0, 1) := by decide +kernel
theorem dX4_init_59 : decode cX4_init 59 = .ok (.getfield 7, 3) := by decide +kernel
theorem dX4_init_62 : decode cX4_init 62 = .ok (.iconst 1, 1) := by decide +kernel
theorem dX4_init_63 : decode cX4_init 63 = .ok (.iconst 3, 1) := by decide +kernel
theorem dX4_init_64 : decode cX4_init 64 = .ok (.iastore, 1) := by decide +kernel
theorem dX4_init_65 : decode cX4_init 65 = .ok (.aload_n 0, 1) := by decide +kernel
theorem dX4_init_66 : decode cX4_init 66 = .ok (.getfield 7, 3) := by decide +kernel
theorem dX4_init_69 : decode cX4_init 69 = .ok (.iconst 2, 1) := by decide +kernel
theorem dX4_init_70 : decode cX4_init 70 = .ok (.bipush 10, 2) := by decide +kernel
theorem dX4_init_72 : decode cX4_init 72 = .ok (.iastore, 1) := by decide +kernel
theorem dX4_init_73 : decode cX4_init 73 = .ok (.return_, 1) := by decide +kernel
theorem dX4_thrown_0 : decode cX4_thrown 0 = .ok (.aload_n 0, 1) := by decide +kernel
theorem dX4_thrown_1 : decode cX4_thrown 1 = .ok (.getfield 25, 3) := by decide +kernel
theorem dX4_thrown_4 : decode cX4_thrown 4 = .ok (.ireturn, 1) := by decide +kernel
theorem dX4_in_0 : decode cX4_in 0 = .ok (.iload_n 0, 1) := by decide +kernel
theorem dX4_in_1 : decode cX4_in 1 = .ok (.iload_n 1, 1) := by decide +kernel
theorem dX4_in_2 : decode cX4_in 2 = .ok (.if_icmp .lt 12, 3) := by decide +kernel
theorem dX4_in_5 : decode cX4_in 5 = .ok (.iload_n 0, 1) := by decide +kernel
theorem dX4_in_6 : decode cX4_in 6 = .ok (.iload_n 2, 1) := by decide +kernel
theorem dX4_in_7 : decode cX4_in 7 = .ok (.if_icmp .gt 7, 3) := by decide +kernel
theorem dX4_in_10 : decode cX4_in 10 = .ok (.iconst 1, 1) := by decide +kernel
theorem dX4_in_11 : decode cX4_in 11 = .ok (.goto 4, 3) := by decide +kernel
theorem dX4_in_14 : decode cX4_in 14 = .ok (.iconst 0, 1) := by decide +kernel
theorem dX4_in_15 : decode cX4_in 15 = .ok (.ireturn, 1) := by decide +kernel
theorem dX4_fails_0 : decode cX4_fails 0 = .ok (.aload_n 0, 1) := by decide +kernel
theorem dX4_fails_1 : decode cX4_fails 1 = .ok (.iload_n 1, 1) := by decide +kernel
theorem dX4_fails_2 : decode cX4_fails 2 = .ok (.putfield 25, 3) := by decide +kernel
theorem dX4_fails_5 : decode cX4_fails 5 = .ok (.iconst 0, 1) := by decide +kernel
theorem dX4_fails_6 : decode cX4_fails 6 = .ok (.ireturn, 1) := by decide +kernel
set_option maxRecDepth 20000 in
theorem ggX4_isPair_X4_in : GoodIn wsX4_isPair wsX4_in := goodIn_r _ [4] (by decide +kernel) (by decide +kernel)
set_option maxRecDepth 20000 in
theorem gX4_isPair_X4_in : GoodIn wsX4_isPair (va_wsS RX4 29 yX4_in wsX4_in) := goodIn_app (goodIn_of _ (by decide +kernel)) ggX4_isPair_X4_in
theorem dX4_isPair_0 : decode cX4_isPair 0 = .ok (.iload_n 0, 1) := by decide +kernel
theorem dX4_isPair_1 : decode cX4_isPair 1 = .ok (.iconst 0, 1) := by decide +kernel
theorem dX4_isPair_2 : decode cX4_isPair 2 = .ok (.bipush 7, 2) := by decide +kernel
theorem dX4_isPair_4 : decode cX4_isPair 4 = .ok (.invokestatic 29, 3) := by decide +kernel
theorem dX4_isPair_7 : decode cX4_isPair 7 = .ok (.ifCond .eq 16, 3) := by decide +kernel
theorem dX4_isPair_10 : decode cX4_isPair 10 = .ok (.iload_n 1, 1) := by decide +kernel
theorem dX4_isPair_11 : decode cX4_isPair 11 = .ok (.iconst 0, 1) := by decide +kernel
theorem dX4_isPair_12 : decode cX4_isPair 12 = .ok (.iconst 5, 1) := by decide +kernel
theorem dX4_isPair_13 : decode cX4_isPair 13 = .ok (.invokestatic 29, 3) := by decide +kernel
theorem dX4_isPair_16 : decode cX4_isPair 16 = .ok (.ifCond .eq 7, 3) := by decide +kernel
theorem dX4_isPair_19 : decode cX4_isPair 19 = .ok (.iconst 1, 1) := by decide +kernel
theorem dX4_isPair_20 : decode cX4_isPair 20 = .ok (.goto 4, 3) := by decide +kernel
theorem dX4_isPair_23 : decode cX4_isPair 23 = .ok (.iconst 0, 1) := by decide +kernel
theorem dX4_isPair_24 : decode cX4_isPair 24 = .ok (.ireturn, 1) := by decide +kernel
set_option maxRecDepth 20000 in
theorem ggX4_isConcert_X4_in : GoodIn wsX4_isConcert wsX4_in := goodIn_r _ [4] (by decide +kernel) (by decide +kernel)
set_option maxRecDepth 20000 in
theorem gX4_isConcert_X4_in : GoodIn wsX4_isConcert (va_wsS RX4 29 yX4_in wsX4_in) := goodIn_app (goodIn_of _ (by decide +kernel)) ggX4_isConcert_X4_in
theorem dX4_isConcert_0 : decode cX4_isConcert 0 = .ok (.iload_n 0, 1) := by decide +kernel
theorem dX4_isConcert_1 : decode cX4_isConcert 1 = .ok (.iconst 0, 1) := by decide +kernel
theorem dX4_isConcert_2 : decode cX4_isConcert 2 = .ok (.iconst 5, 1) := by decide +kernel
theorem dX4_isConcert_3 : decode cX4_isConcert 3 = .ok (.invokestatic 29, 3) := by decide +kernel
theorem dX4_isConcert_6 : decode cX4_isConcert 6 = .ok (.ireturn, 1) := by decide +kernel
theorem dX4_cellOf_0 : decode cX4_cellOf 0 = .ok (.bipush 6, 2) := by decide +kernel
theorem dX4_cellOf_2 : decode cX4_cellOf 2 = .ok (.iload_n 0, 1) := by decide +kernel
theorem dX4_cellOf_3 : decode cX4_cellOf 3 = .ok (.imul, 1) := by decide +kernel
theorem dX4_cellOf_4 : decode cX4_cellOf 4 = .ok (.iload_n 1, 1) := by decide +kernel
theorem dX4_cellOf_5 : decode cX4_cellOf 5 = .ok (.iadd, 1) := by decide +kernel
theorem dX4_cellOf_6 : decode cX4_cellOf 6 = .ok (.ireturn, 1) := by decide +kernel
theorem dX4_saves_0 : decode cX4_saves 0 = .ok (.aload_n 0, 1) := by decide +kernel
theorem dX4_saves_1 : decode cX4_saves 1 = .ok (.getfield 33, 3) := by decide +kernel
theorem dX4_saves_4 : decode cX4_saves 4 = .ok (.bipush 6, 2) := by decide +kernel
theorem dX4_saves_6 : decode cX4_saves 6 = .ok (.if_icmp .ne 43, 3) := by decide +kernel
theorem dX4_saves_9 : decode cX4_saves 9 = .ok (.iconst 0, 1) := by decide +kernel
theorem dX4_saves_10 : decode cX4_saves 10 = .ok (.istore_n 1, 1) := by decide +kernel
theorem dX4_saves_11 : decode cX4_saves 11 = .ok (.iload_n 1, 1) := by decide +kernel
theorem dX4_saves_12 : decode cX4_saves 12 = .ok (.sipush 600, 3) := by decide +kernel
theorem dX4_saves_15 : decode cX4_saves 15 = .ok (.if_icmp .ge 24, 3) := by decide +kernel
theorem dX4_saves_18 : decode cX4_saves 18 = .ok (.aload_n 0, 1) := by decide +kernel
theorem dX4_saves_19 : decode cX4_saves 19 = .ok (.getfield 16, 3) := by decide +kernel
theorem dX4_saves_22 : decode cX4_saves 22 = .ok (.iload_n 1, 1) := by decide +kernel
theorem dX4_saves_23 : decode cX4_saves 23 = .ok (.aload_n 0, 1) := by decide +kernel
theorem dX4_saves_24 : decode cX4_saves 24 = .ok (.getfield 16, 3) := by decide +kernel
theorem dX4_saves_27 : decode cX4_saves 27 = .ok (.iload_n 1, 1) := by decide +kernel
theorem dX4_saves_28 : decode cX4_saves 28 = .ok (.bipush 120, 2) := by decide +kernel
theorem dX4_saves_30 : decode cX4_saves 30 = .ok (.iadd, 1) := by decide +kernel
theorem dX4_saves_31 : decode cX4_saves 31 = .ok (.iaload, 1) := by decide +kernel
theorem dX4_saves_32 : decode cX4_saves 32 = .ok (.iastore, 1) := by decide +kernel
theorem dX4_saves_33 : decode cX4_saves 33 = .ok (.iinc 1 1, 3) := by decide +kernel
theorem dX4_saves_36 : decode cX4_saves 36 = .ok (.goto (-25), 3) := by decide +kernel
theorem dX4_saves_39 : decode cX4_saves 39 = .ok (.aload_n 0, 1) := by decide +kernel
theorem dX4_saves_40 : decode cX4_saves 40 = .ok (.dup, 1) := by decide +kernel
theorem dX4_saves_41 : decode cX4_saves 41 = .ok (.getfield 33, 3) := by decide +kernel
theorem dX4_saves_44 : decode cX4_saves 44 = .ok (.iconst 1, 1) := by decide +kernel
theorem dX4_saves_45 : decode cX4_saves 45 = .ok (.isub, 1) := by decide +kernel
theorem dX4_saves_46 : decode cX4_saves 46 = .ok (.putfield 33, 3) := by decide +kernel
theorem dX4_saves_49 : decode cX4_saves 49 = .ok (.iconst 0, 1) := by decide +kernel
theorem dX4_saves_50 : decode cX4_saves 50 = .ok (.istore_n 1, 1) := by decide +kernel
theorem dX4_saves_51 : decode cX4_saves 51 = .ok (.iload_n 1, 1) := by decide +kernel
theorem dX4_saves_52 : decode cX4_saves 52 = .ok (.bipush 120, 2) := by decide +kernel
theorem dX4_saves_54 : decode cX4_saves 54 = .ok (.if_icmp .ge 29, 3) := by decide +kernel
theorem dX4_saves_57 : decode cX4_saves 57 = .ok (.aload_n 0, 1) := by decide +kernel
theorem dX4_saves_58 : decode cX4_saves 58 = .ok (.getfield 16, 3) := by decide +kernel
theorem dX4_saves_61 : decode cX4_saves 61 = .ok (.bipush 120, 2) := by decide +kernel
theorem dX4_saves_63 : decode cX4_saves 63 = .ok (.aload_n 0, 1) := by decide +kernel
theorem dX4_saves_64 : decode cX4_saves 64 = .ok (.getfield 33, 3) := by decide +kernel
theorem dX4_saves_67 : decode cX4_saves 67 = .ok (.imul, 1) := by decide +kernel
theorem dX4_saves_68 : decode cX4_saves 68 = .ok (.iload_n 1, 1) := by decide +kernel
theorem dX4_saves_69 : decode cX4_saves 69 = .ok (.iadd, 1) := by decide +kernel
theorem dX4_saves_70 : decode cX4_saves 70 = .ok (.aload_n 0, 1) := by decide +kernel
theorem dX4_saves_71 : decode cX4_saves 71 = .ok (.getfield 7, 3) := by decide +kernel
theorem dX4_saves_74 : decode cX4_saves 74 = .ok (.iload_n 1, 1) := by decide +kernel
theorem dX4_saves_75 : decode cX4_saves 75 = .ok (.iaload, 1) := by decide +kernel
theorem dX4_saves_76 : decode cX4_saves 76 = .ok (.iastore, 1) := by decide +kernel
theorem dX4_saves_77 : decode cX4_saves 77 = .ok (.iinc 1 1, 3) := by decide +kernel
theorem dX4_saves_80 : decode cX4_saves 80 = .ok (.goto (-29), 3) := by decide +kernel
theorem dX4_saves_83 : decode cX4_saves 83 = .ok (.aload_n 0, 1) := by decide +kernel
theorem dX4_saves_84 : decode cX4_saves 84 = .ok (.dup, 1) := by decide +kernel
theorem dX4_saves_85 : decode cX4_saves 85 = .ok (.getfield 33, 3) := by decide +kernel
theorem dX4_saves_88 : decode cX4_saves 88 = .ok (.iconst 1, 1) := by decide +kernel
theorem dX4_saves_89 : decode cX4_saves 89 = .ok (.iadd, 1) := by decide +kernel
theorem dX4_saves_90 : decode cX4_saves 90 = .ok (.putfield 33, 3) := by decide +kernel
theorem dX4_saves_93 : decode cX4_saves 93 = .ok (.return_, 1) := by decide +kernel
theorem dX4_putAside_0 : decode cX4_putAside 0 = .ok (.iconst 0, 1) := by decide +kernel
theorem dX4_putAside_1 : decode cX4_putAside 1 = .ok (.istore_n 1, 1) := by decide +kernel
theorem dX4_putAside_2 : decode cX4_putAside 2 = .ok (.iload_n 1, 1) := by decide +kernel
theorem dX4_putAside_3 : decode cX4_putAside 3 = .ok (.bipush 120, 2) := by decide +kernel
theorem dX4_putAside_5 : decode cX4_putAside 5 = .ok (.if_icmp .ge 21, 3) := by decide +kernel
theorem dX4_putAside_8 : decode cX4_putAside 8 = .ok (.aload_n 0, 1) := by decide +kernel
theorem dX4_putAside_9 : decode cX4_putAside 9 = .ok (.getfield 13, 3) := by decide +kernel
theorem dX4_putAside_12 : decode cX4_putAside 12 = .ok (.iload_n 1, 1) := by decide +kernel
theorem dX4_putAside_13 : decode cX4_putAside 13 = .ok (.aload_n 0, 1) := by decide +kernel
theorem dX4_putAside_14 : decode cX4_putAside 14 = .ok (.getfield 7, 3) := by decide +kernel
theorem dX4_putAside_17 : decode cX4_putAside 17 = .ok (.iload_n 1, 1) := by decide +kernel
theorem dX4_putAside_18 : decode cX4_putAside 18 = .ok (.iaload, 1) := by decide +kernel
theorem dX4_putAside_19 : decode cX4_putAside 19 = .ok (.iastore, 1) := by decide +kernel
theorem dX4_putAside_20 : decode cX4_putAside 20 = .ok (.iinc 1 1, 3) := by decide +kernel
theorem dX4_putAside_23 : decode cX4_putAside 23 = .ok (.goto (-21), 3) := by decide +kernel
theorem dX4_putAside_26 : decode cX4_putAside 26 = .ok (.return_, 1) := by decide +kernel
theorem dX4_takeBack_0 : decode cX4_takeBack 0 = .ok (.iconst 0, 1) := by decide +kernel
theorem dX4_takeBack_1 : decode cX4_takeBack 1 = .ok (.istore_n 1, 1) := by decide +kernel
theorem dX4_takeBack_2 : decode cX4_takeBack 2 = .ok (.iload_n 1, 1) := by decide +kernel
theorem dX4_takeBack_3 : decode cX4_takeBack 3 = .ok (.bipush 120, 2) := by decide +kernel
theorem dX4_takeBack_5 : decode cX4_takeBack 5 = .ok (.if_icmp .ge 21, 3) := by decide +kernel
theorem dX4_takeBack_8 : decode cX4_takeBack 8 = .ok (.aload_n 0, 1) := by decide +kernel
theorem dX4_takeBack_9 : decode cX4_takeBack 9 = .ok (.getfield 7, 3) := by decide +kernel
theorem dX4_takeBack_12 : decode cX4_takeBack 12 = .ok (.iload_n 1, 1) := by decide +kernel
theorem dX4_takeBack_13 : decode cX4_takeBack 13 = .ok (.aload_n 0, 1) := by decide +kernel
theorem dX4_takeBack_14 : decode cX4_takeBack 14 = .ok (.getfield 13, 3) := by decide +kernel
theorem dX4_takeBack_17 : decode cX4_takeBack 17 = .ok (.iload_n 1, 1) := by decide +kernel
theorem dX4_takeBack_18 : decode cX4_takeBack 18 = .ok (.iaload, 1) := by decide +kernel
theorem dX4_takeBack_19 : decode cX4_takeBack 19 = .ok (.iastore, 1) := by decide +kernel
theorem dX4_takeBack_20 : decode cX4_takeBack 20 = .ok (.iinc 1 1, 3) := by decide +kernel
theorem dX4_takeBack_23 : decode cX4_takeBack 23 = .ok (.goto (-21), 3) := by decide +kernel
theorem dX4_takeBack_26 : decode cX4_takeBack 26 = .ok (.return_, 1) := by decide +kernel
theorem dX4_calls_0 : decode cX4_calls 0 = .ok (.aload_n 0, 1) := by decide +kernel
theorem dX4_calls_1 : decode cX4_calls 1 = .ok (.getfield 7, 3) := by decide +kernel
theorem dX4_calls_4 : decode cX4_calls 4 = .ok (.bipush 69, 2) := by decide +kernel
theorem dX4_calls_6 : decode cX4_calls 6 = .ok (.iload_n 1, 1) := by decide +kernel
theorem dX4_calls_7 : decode cX4_calls 7 = .ok (.iadd, 1) := by decide +kernel
theorem dX4_calls_8 : decode cX4_calls 8 = .ok (.aload_n 0, 1) := by decide +kernel
theorem dX4_calls_9 : decode cX4_calls 9 = .ok (.getfield 7, 3) := by decide +kernel
theorem dX4_calls_12 : decode cX4_calls 12 = .ok (.iconst 0, 1) := by decide +kernel
theorem dX4_calls_13 : decode cX4_calls 13 = .ok (.iaload, 1) := by decide +kernel
theorem dX4_calls_14 : decode cX4_calls 14 = .ok (.iastore, 1) := by decide +kernel
theorem dX4_calls_15 : decode cX4_calls 15 = .ok (.aload_n 0, 1) := by decide +kernel
theorem dX4_calls_16 : decode cX4_calls 16 = .ok (.getfield 7, 3) := by decide +kernel
theorem dX4_calls_19 : decode cX4_calls 19 = .ok (.bipush 12, 2) := by decide +kernel
theorem dX4_calls_21 : decode cX4_calls 21 = .ok (.dup2, 1) := by decide +kernel
theorem dX4_calls_22 : decode cX4_calls 22 = .ok (.iaload, 1) := by decide +kernel
theorem dX4_calls_23 : decode cX4_calls 23 = .ok (.iconst 1, 1) := by decide +kernel
theorem dX4_calls_24 : decode cX4_calls 24 = .ok (.iadd, 1) := by decide +kernel
theorem dX4_calls_25 : decode cX4_calls 25 = .ok (.iastore, 1) := by decide +kernel
theorem dX4_calls_26 : decode cX4_calls 26 = .ok (.return_, 1) := by decide +kernel
set_option maxRecDepth 20000 in
theorem ggX4_comes_X4_calls : GoodIn wsX4_comes wsX4_calls := goodIn_r _ [6, 1, 7, 8, 9, 10, 11, 12, 13, 14, 15, 16, 17, 18] (by decide +kernel) (by decide +kernel)
set_option maxRecDepth 20000 in
theorem gX4_comes_X4_calls : GoodIn wsX4_comes (wsV RX4 36 RX4 yX4_calls wsX4_calls) := goodIn_app (goodIn_of _ (by decide +kernel)) ggX4_comes_X4_calls
theorem dX4_comes_0 : decode cX4_comes 0 = .ok (.aload_n 0, 1) := by decide +kernel
theorem dX4_comes_1 : decode cX4_comes 1 = .ok (.getfield 7, 3) := by decide +kernel
theorem dX4_comes_4 : decode cX4_comes 4 = .ok (.bipush 21, 2) := by decide +kernel
theorem dX4_comes_6 : decode cX4_comes 6 = .ok (.iload_n 1, 1) := by decide +kernel
theorem dX4_comes_7 : decode cX4_comes 7 = .ok (.iadd, 1) := by decide +kernel
theorem dX4_comes_8 : decode cX4_comes 8 = .ok (.dup2, 1) := by decide +kernel
theorem dX4_comes_9 : decode cX4_comes 9 = .ok (.iaload, 1) := by decide +kernel
theorem dX4_comes_10 : decode cX4_comes 10 = .ok (.iconst 1, 1) := by decide +kernel
theorem dX4_comes_11 : decode cX4_comes 11 = .ok (.iadd, 1) := by decide +kernel
theorem dX4_comes_12 : decode cX4_comes 12 = .ok (.iastore, 1) := by decide +kernel
theorem dX4_comes_13 : decode cX4_comes 13 = .ok (.aload_n 0, 1) := by decide +kernel
theorem dX4_comes_14 : decode cX4_comes 14 = .ok (.iload_n 1, 1) := by decide +kernel
theorem dX4_comes_15 : decode cX4_comes 15 = .ok (.invokevirtual 36, 3) := by decide +kernel
theorem dX4_comes_18 : decode cX4_comes 18 = .ok (.aload_n 0, 1) := by decide +kernel
theorem dX4_comes_19 : decode cX4_comes 19 = .ok (.getfield 7, 3) := by decide +kernel
theorem dX4_comes_22 : decode cX4_comes 22 = .ok (.bipush 21, 2) := by decide +kernel
theorem dX4_comes_24 : decode cX4_comes 24 = .ok (.iload_n 1, 1) := by decide +kernel
theorem dX4_comes_25 : decode cX4_comes 25 = .ok (.iadd, 1) := by decide +kernel
theorem dX4_comes_26 : decode cX4_comes 26 = .ok (.iaload, 1) := by decide +kernel
theorem dX4_comes_27 : decode cX4_comes 27 = .ok (.ireturn, 1) := by decide +kernel
set_option maxRecDepth 20000 in
theorem ggX4_come_X4_isPair : GoodIn wsX4_come wsX4_isPair := goodIn_r _ [6, 7, 8, 5, 9] (by decide +kernel) (by decide +kernel)
set_option maxRecDepth 20000 in
theorem gX4_come_X4_isPair : GoodIn wsX4_come (va_wsS RX4 40 yX4_isPair wsX4_isPair) := goodIn_app (goodIn_of _ (by decide +kernel)) ggX4_come_X4_isPair
set_option maxRecDepth 20000 in
theorem ggX4_come_X4_fails : GoodIn wsX4_come wsX4_fails := goodIn_r _ [13, 1, 31, 32, 33, 34, 35, 36, 37, 38, 39, 40, 41, 42] (by decide +kernel) (by decide +kernel)
set_option maxRecDepth 20000 in
theorem gX4_come_X4_fails : GoodIn wsX4_come (wsV RX4 44 RX4 yX4_fails wsX4_fails) := goodIn_app (goodIn_of _ (by decide +kernel)) ggX4_come_X4_fails
set_option maxRecDepth 20000 in
theorem ggX4_come_X4_cellOf : GoodIn wsX4_come wsX4_cellOf := goodIn_r _ [16] (by decide +kernel) (by decide +kernel)
set_option maxRecDepth 20000 in
theorem gX4_come_X4_cellOf : GoodIn wsX4_come (va_wsS RX4 48 yX4_cellOf wsX4_cellOf) := goodIn_app (goodIn_of _ (by decide +kernel)) ggX4_come_X4_cellOf
set_option maxRecDepth 20000 in
theorem ggX4_come_X4_saves : GoodIn wsX4_come wsX4_saves := goodIn_r _ [20, 21, 22, 2, 31, 32, 33, 34, 35, 36, 37, 38, 39, 40, 41, 42] (by decide +kernel) (by decide +kernel)
set_option maxRecDepth 20000 in
theorem gX4_come_X4_saves : GoodIn wsX4_come (wsV RX4 52 RX4 yX4_saves wsX4_saves) := goodIn_app (goodIn_of _ (by decide +kernel)) ggX4_come_X4_saves
set_option maxRecDepth 20000 in
theorem ggX4_come_X4_comes : GoodIn wsX4_come wsX4_comes := goodIn_r _ [26, 2, 27, 28, 29, 5, 30, 31, 32, 33, 34, 35, 36, 37, 38, 39, 40, 41, 42] (by decide +kernel) (by decide +kernel)
set_option maxRecDepth 20000 in
theorem gX4_come_X4_comes : GoodIn wsX4_come (wsV RX4 55 RX4 yX4_comes wsX4_comes) := goodIn_app (goodIn_of _ (by decide +kernel)) ggX4_come_X4_comes
theorem dX4_come_0 : decode cX4_come 0 = .ok (.aload_n 0, 1) := by decide +kernel
theorem dX4_come_1 : decode cX4_come 1 = .ok (.iconst 0, 1) := by decide +kernel
theorem dX4_come_2 : decode cX4_come 2 = .ok (.putfield 25, 3) := by decide +kernel
theorem dX4_come_5 : decode cX4_come 5 = .ok (.iload_n 1, 1) := by decide +kernel
theorem dX4_come_6 : decode cX4_come 6 = .ok (.iload_n 2, 1) := by decide +kernel
theorem dX4_come_7 : decode cX4_come 7 = .ok (.invokestatic 40, 3) := by decide +kernel
theorem dX4_come_10 : decode cX4_come 10 = .ok (.ifCond .ne 9, 3) := by decide +kernel
theorem dX4_come_13 : decode cX4_come 13 = .ok (.aload_n 0, 1) := by decide +kernel
theorem dX4_come_14 : decode cX4_come 14 = .ok (.iconst 1, 1) := by decide +kernel
theorem dX4_come_15 : decode cX4_come 15 = .ok (.invokevirtual 44, 3) := by decide +kernel
theorem dX4_come_18 : decode cX4_come 18 = .ok (.ireturn, 1) := by decide +kernel
theorem dX4_come_19 : decode cX4_come 19 = .ok (.aload_n 0, 1) := by decide +kernel
theorem dX4_come_20 : decode cX4_come 20 = .ok (.getfield 7, 3) := by decide +kernel
theorem dX4_come_23 : decode cX4_come 23 = .ok (.bipush 21, 2) := by decide +kernel
theorem dX4_come_25 : decode cX4_come 25 = .ok (.iload_n 1, 1) := by decide +kernel
theorem dX4_come_26 : decode cX4_come 26 = .ok (.iload_n 2, 1) := by decide +kernel
theorem dX4_come_27 : decode cX4_come 27 = .ok (.invokestatic 48, 3) := by decide +kernel
theorem dX4_come_30 : decode cX4_come 30 = .ok (.iadd, 1) := by decide +kernel
theorem dX4_come_31 : decode cX4_come 31 = .ok (.iaload, 1) := by decide +kernel
theorem dX4_come_32 : decode cX4_come 32 = .ok (.bipush 9, 2) := by decide +kernel
theorem dX4_come_34 : decode cX4_come 34 = .ok (.if_icmp .ne 9, 3) := by decide +kernel
theorem dX4_come_37 : decode cX4_come 37 = .ok (.aload_n 0, 1) := by decide +kernel
theorem dX4_come_38 : decode cX4_come 38 = .ok (.iconst 2, 1) := by decide +kernel
theorem dX4_come_39 : decode cX4_come 39 = .ok (.invokevirtual 44, 3) := by decide +kernel
theorem dX4_come_42 : decode cX4_come 42 = .ok (.ireturn, 1) := by decide +kernel
theorem dX4_come_43 : decode cX4_come 43 = .ok (.aload_n 0, 1) := by decide +kernel
theorem dX4_come_44 : decode cX4_come 44 = .ok (.invokevirtual 52, 3) := by decide +kernel
theorem dX4_come_47 : decode cX4_come 47 = .ok (.aload_n 0, 1) := by decide +kernel
theorem dX4_come_48 : decode cX4_come 48 = .ok (.iload_n 1, 1) := by decide +kernel
theorem dX4_come_49 : decode cX4_come 49 = .ok (.iload_n 2, 1) := by decide +kernel
theorem dX4_come_50 : decode cX4_come 50 = .ok (.invokestatic 48, 3) := by decide +kernel
theorem dX4_come_53 : decode cX4_come 53 = .ok (.invokevirtual 55, 3) := by decide +kernel
theorem dX4_come_56 : decode cX4_come 56 = .ok (.ireturn, 1) := by decide +kernel
set_option maxRecDepth 20000 in
theorem ggX4_farewell_X4_calls : GoodIn wsX4_farewell wsX4_calls := goodIn_r _ [6, 1, 7, 8, 9, 10, 11, 12, 13, 14, 15, 16, 17, 18] (by decide +kernel) (by decide +kernel)
set_option maxRecDepth 20000 in
theorem gX4_farewell_X4_calls : GoodIn wsX4_farewell (wsV RX4 36 RX4 yX4_calls wsX4_calls) := goodIn_app (goodIn_of _ (by decide +kernel)) ggX4_farewell_X4_calls
theorem dX4_farewell_0 : decode cX4_farewell 0 = .ok (.aload_n 0, 1) := by decide +kernel
theorem dX4_farewell_1 : decode cX4_farewell 1 = .ok (.getfield 7, 3) := by decide +kernel
theorem dX4_farewell_4 : decode cX4_farewell 4 = .ok (.iconst 3, 1) := by decide +kernel
theorem dX4_farewell_5 : decode cX4_farewell 5 = .ok (.iaload, 1) := by decide +kernel
theorem dX4_farewell_6 : decode cX4_farewell 6 = .ok (.iconst 1, 1) := by decide +kernel
theorem dX4_farewell_7 : decode cX4_farewell 7 = .ok (.if_icmp .ne 28, 3) := by decide +kernel
theorem dX4_farewell_10 : decode cX4_farewell 10 = .ok (.aload_n 0, 1) := by decide +kernel
theorem dX4_farewell_11 : decode cX4_farewell 11 = .ok (.getfield 7, 3) := by decide +kernel
theorem dX4_farewell_14 : decode cX4_farewell 14 = .ok (.bipush 21, 2) := by decide +kernel
theorem dX4_farewell_16 : decode cX4_farewell 16 = .ok (.iload_n 1, 1) := by decide +kernel
theorem dX4_farewell_17 : decode cX4_farewell 17 = .ok (.iadd, 1) := by decide +kernel
theorem dX4_farewell_18 : decode cX4_farewell 18 = .ok (.iaload, 1) := by decide +kernel
theorem dX4_farewell_19 : decode cX4_farewell 19 = .ok (.ifCond .ne 16, 3) := by decide +kernel
theorem dX4_farewell_22 : decode cX4_farewell 22 = .ok (.aload_n 0, 1) := by decide +kernel
theorem dX4_farewell_23 : decode cX4_farewell 23 = .ok (.getfield 7, 3) := by decide +kernel
theorem dX4_farewell_26 : decode cX4_farewell 26 = .ok (.bipush 69, 2) := by decide +kernel
theorem dX4_farewell_28 : decode cX4_farewell 28 = .ok (.iload_n 1, 1) := by decide +kernel
theorem dX4_farewell_29 : decode cX4_farewell 29 = .ok (.iadd, 1) := by decide +kernel
theorem dX4_farewell_30 : decode cX4_farewell 30 = .ok (.iconst 0, 1) := by decide +kernel
theorem dX4_farewell_31 : decode cX4_farewell 31 = .ok (.iastore, 1) := by decide +kernel
theorem dX4_farewell_32 : decode cX4_farewell 32 = .ok (.goto 64, 3) := by decide +kernel
theorem dX4_farewell_35 : decode cX4_farewell 35 = .ok (.aload_n 0, 1) := by decide +kernel
theorem dX4_farewell_36 : decode cX4_farewell 36 = .ok (.getfield 7, 3) := by decide +kernel
theorem dX4_farewell_39 : decode cX4_farewell 39 = .ok (.bipush 69, 2) := by decide +kernel
theorem dX4_farewell_41 : decode cX4_farewell 41 = .ok (.iload_n 1, 1) := by decide +kernel
theorem dX4_farewell_42 : decode cX4_farewell 42 = .ok (.iadd, 1) := by decide +kernel
theorem dX4_farewell_43 : decode cX4_farewell 43 = .ok (.iaload, 1) := by decide +kernel
theorem dX4_farewell_44 : decode cX4_farewell 44 = .ok (.aload_n 0, 1) := by decide +kernel
theorem dX4_farewell_45 : decode cX4_farewell 45 = .ok (.getfield 7, 3) := by decide +kernel
theorem dX4_farewell_48 : decode cX4_farewell 48 = .ok (.iconst 1, 1) := by decide +kernel
theorem dX4_farewell_49 : decode cX4_farewell 49 = .ok (.iaload, 1) := by decide +kernel
theorem dX4_farewell_50 : decode cX4_farewell 50 = .ok (.if_icmp .le 46, 3) := by decide +kernel
theorem dX4_farewell_53 : decode cX4_farewell 53 = .ok (.aload_n 0, 1) := by decide +kernel
theorem dX4_farewell_54 : decode cX4_farewell 54 = .ok (.getfield 7, 3) := by decide +kernel
theorem dX4_farewell_57 : decode cX4_farewell 57 = .ok (.bipush 69, 2) := by decide +kernel
theorem dX4_farewell_59 : decode cX4_farewell 59 = .ok (.iload_n 1, 1) := by decide +kernel
theorem dX4_farewell_60 : decode cX4_farewell 60 = .ok (.iadd, 1) := by decide +kernel
theorem dX4_farewell_61 : decode cX4_farewell 61 = .ok (.aload_n 0, 1) := by decide +kernel
theorem dX4_farewell_62 : decode cX4_farewell 62 = .ok (.getfield 7, 3) := by decide +kernel
theorem dX4_farewell_65 : decode cX4_farewell 65 = .ok (.iconst 1, 1) := by decide +kernel
theorem dX4_farewell_66 : decode cX4_farewell 66 = .ok (.iaload, 1) := by decide +kernel
theorem dX4_farewell_67 : decode cX4_farewell 67 = .ok (.iastore, 1) := by decide +kernel
theorem dX4_farewell_68 : decode cX4_farewell 68 = .ok (.aload_n 0, 1) := by decide +kernel
theorem dX4_farewell_69 : decode cX4_farewell 69 = .ok (.getfield 7, 3) := by decide +kernel
theorem dX4_farewell_72 : decode cX4_farewell 72 = .ok (.bipush 11, 2) := by decide +kernel
theorem dX4_farewell_74 : decode cX4_farewell 74 = .ok (.dup2, 1) := by decide +kernel
theorem dX4_farewell_75 : decode cX4_farewell 75 = .ok (.iaload, 1) := by decide +kernel
theorem dX4_farewell_76 : decode cX4_farewell 76 = .ok (.iconst 1, 1) := by decide +kernel
theorem dX4_farewell_77 : decode cX4_farewell 77 = .ok (.iadd, 1) := by decide +kernel
theorem dX4_farewell_78 : decode cX4_farewell 78 = .ok (.iastore, 1) := by decide +kernel
theorem dX4_farewell_79 : decode cX4_farewell 79 = .ok (.aload_n 0, 1) := by decide +kernel
theorem dX4_farewell_80 : decode cX4_farewell 80 = .ok (.getfield 7, 3) := by decide +kernel
theorem dX4_farewell_83 : decode cX4_farewell 83 = .ok (.bipush 21, 2) := by decide +kernel
theorem dX4_farewell_85 : decode cX4_farewell 85 = .ok (.iload_n 1, 1) := by decide +kernel
theorem dX4_farewell_86 : decode cX4_farewell 86 = .ok (.iadd, 1) := by decide +kernel
theorem dX4_farewell_87 : decode cX4_farewell 87 = .ok (.iaload, 1) := by decide +kernel
theorem dX4_farewell_88 : decode cX4_farewell 88 = .ok (.ifCond .le 8, 3) := by decide +kernel
theorem dX4_farewell_91 : decode cX4_farewell 91 = .ok (.aload_n 0, 1) := by decide +kernel
theorem dX4_farewell_92 : decode cX4_farewell 92 = .ok (.iload_n 1, 1) := by decide +kernel
theorem dX4_farewell_93 : decode cX4_farewell 93 = .ok (.invokevirtual 36, 3) := by decide +kernel
theorem dX4_farewell_96 : decode cX4_farewell 96 = .ok (.return_, 1) := by decide +kernel
set_option maxRecDepth 20000 in
theorem ggX4_leaves_X4_farewell : GoodIn wsX4_leaves wsX4_farewell := goodIn_r _ [6, 1, 7, 8, 9, 5, 10, 11, 12, 13, 14, 15, 16, 17, 18, 19, 20, 21, 22] (by decide +kernel) (by decide +kernel)
set_option maxRecDepth 20000 in
theorem gX4_leaves_X4_farewell : GoodIn wsX4_leaves (wsV RX4 58 RX4 yX4_farewell wsX4_farewell) := goodIn_app (goodIn_of _ (by decide +kernel)) ggX4_leaves_X4_farewell
theorem dX4_leaves_0 : decode cX4_leaves 0 = .ok (.aload_n 0, 1) := by decide +kernel
theorem dX4_leaves_1 : decode cX4_leaves 1 = .ok (.getfield 7, 3) := by decide +kernel
theorem dX4_leaves_4 : decode cX4_leaves 4 = .ok (.bipush 21, 2) := by decide +kernel
theorem dX4_leaves_6 : decode cX4_leaves 6 = .ok (.iload_n 1, 1) := by decide +kernel
theorem dX4_leaves_7 : decode cX4_leaves 7 = .ok (.iadd, 1) := by decide +kernel
theorem dX4_leaves_8 : decode cX4_leaves 8 = .ok (.dup2, 1) := by decide +kernel
theorem dX4_leaves_9 : decode cX4_leaves 9 = .ok (.iaload, 1) := by decide +kernel
theorem dX4_leaves_10 : decode cX4_leaves 10 = .ok (.iconst 1, 1) := by decide +kernel
theorem dX4_leaves_11 : decode cX4_leaves 11 = .ok (.isub, 1) := by decide +kernel
theorem dX4_leaves_12 : decode cX4_leaves 12 = .ok (.iastore, 1) := by decide +kernel
theorem dX4_leaves_13 : decode cX4_leaves 13 = .ok (.iload_n 2, 1) := by decide +kernel
theorem dX4_leaves_14 : decode cX4_leaves 14 = .ok (.ifCond .eq 8, 3) := by decide +kernel
theorem dX4_leaves_17 : decode cX4_leaves 17 = .ok (.aload_n 0, 1) := by decide +kernel
theorem dX4_leaves_18 : decode cX4_leaves 18 = .ok (.iload_n 1, 1) := by decide +kernel
theorem dX4_leaves_19 : decode cX4_leaves 19 = .ok (.invokevirtual 58, 3) := by decide +kernel
theorem dX4_leaves_22 : decode cX4_leaves 22 = .ok (.aload_n 0, 1) := by decide +kernel
theorem dX4_leaves_23 : decode cX4_leaves 23 = .ok (.getfield 7, 3) := by decide +kernel
theorem dX4_leaves_26 : decode cX4_leaves 26 = .ok (.bipush 21, 2) := by decide +kernel
theorem dX4_leaves_28 : decode cX4_leaves 28 = .ok (.iload_n 1, 1) := by decide +kernel
theorem dX4_leaves_29 : decode cX4_leaves 29 = .ok (.iadd, 1) := by decide +kernel
theorem dX4_leaves_30 : decode cX4_leaves 30 = .ok (.iaload, 1) := by decide +kernel
theorem dX4_leaves_31 : decode cX4_leaves 31 = .ok (.ireturn, 1) := by decide +kernel
set_option maxRecDepth 20000 in
theorem ggX4_leave_X4_isPair : GoodIn wsX4_leave wsX4_isPair := goodIn_r _ [6, 7, 8, 5, 9] (by decide +kernel) (by decide +kernel)
set_option maxRecDepth 20000 in
theorem gX4_leave_X4_isPair : GoodIn wsX4_leave (va_wsS RX4 40 yX4_isPair wsX4_isPair) := goodIn_app (goodIn_of _ (by decide +kernel)) ggX4_leave_X4_isPair
set_option maxRecDepth 20000 in
theorem ggX4_leave_X4_fails : GoodIn wsX4_leave wsX4_fails := goodIn_r _ [13, 1, 35, 36, 37, 38, 39, 40, 41, 42, 43, 44, 45, 46] (by decide +kernel) (by decide +kernel)
set_option maxRecDepth 20000 in
theorem gX4_leave_X4_fails : GoodIn wsX4_leave (wsV RX4 44 RX4 yX4_fails wsX4_fails) := goodIn_app (goodIn_of _ (by decide +kernel)) ggX4_leave_X4_fails
set_option maxRecDepth 20000 in
theorem ggX4_leave_X4_cellOf : GoodIn wsX4_leave wsX4_cellOf := goodIn_r _ [16] (by decide +kernel) (by decide +kernel)
set_option maxRecDepth 20000 in
theorem gX4_leave_X4_cellOf : GoodIn wsX4_leave (va_wsS RX4 48 yX4_cellOf wsX4_cellOf) := goodIn_app (goodIn_of _ (by decide +kernel)) ggX4_leave_X4_cellOf
set_option maxRecDepth 20000 in
theorem ggX4_leave_X4_saves : GoodIn wsX4_leave wsX4_saves := goodIn_r _ [20, 21, 22, 2, 35, 36, 37, 38, 39, 40, 41, 42, 43, 44, 45, 46] (by decide +kernel) (by decide +kernel)
set_option maxRecDepth 20000 in
theorem gX4_leave_X4_saves : GoodIn wsX4_leave (wsV RX4 52 RX4 yX4_saves wsX4_saves) := goodIn_app (goodIn_of _ (by decide +kernel)) ggX4_leave_X4_saves
set_option maxRecDepth 20000 in
theorem ggX4_leave_X4_leaves : GoodIn wsX4_leave wsX4_leaves := goodIn_r _ [26, 2, 27, 28, 29, 5, 30, 31, 32, 33, 34, 35, 36, 37, 38, 39, 40, 41, 42, 43, 44, 45, 46] (by decide +kernel) (by decide +kernel)
set_option maxRecDepth 20000 in
theorem gX4_leave_X4_leaves : GoodIn wsX4_leave (wsV RX4 61 RX4 yX4_leaves wsX4_leaves) := goodIn_app (goodIn_of _ (by decide +kernel)) ggX4_leave_X4_leaves
theorem dX4_leave_0 : decode cX4_leave 0 = .ok (.aload_n 0, 1) := by decide +kernel
theorem dX4_leave_1 : decode cX4_leave 1 = .ok (.iconst 0, 1) := by decide +kernel
theorem dX4_leave_2 : decode cX4_leave 2 = .ok (.putfield 25, 3) := by decide +kernel
theorem dX4_leave_5 : decode cX4_leave 5 = .ok (.iload_n 1, 1) := by decide +kernel
theorem dX4_leave_6 : decode cX4_leave 6 = .ok (.iload_n 2, 1) := by decide +kernel
theorem dX4_leave_7 : decode cX4_leave 7 = .ok (.invokestatic 40, 3) := by decide +kernel
theorem dX4_leave_10 : decode cX4_leave 10 = .ok (.ifCond .ne 9, 3) := by decide +kernel
theorem dX4_leave_13 : decode cX4_leave 13 = .ok (.aload_n 0, 1) := by decide +kernel
theorem dX4_leave_14 : decode cX4_leave 14 = .ok (.iconst 1, 1) := by decide +kernel
theorem dX4_leave_15 : decode cX4_leave 15 = .ok (.invokevirtual 44, 3) := by decide +kernel
theorem dX4_leave_18 : decode cX4_leave 18 = .ok (.ireturn, 1) := by decide +kernel
theorem dX4_leave_19 : decode cX4_leave 19 = .ok (.aload_n 0, 1) := by decide +kernel
theorem dX4_leave_20 : decode cX4_leave 20 = .ok (.getfield 7, 3) := by decide +kernel
theorem dX4_leave_23 : decode cX4_leave 23 = .ok (.bipush 21, 2) := by decide +kernel
theorem dX4_leave_25 : decode cX4_leave 25 = .ok (.iload_n 1, 1) := by decide +kernel
theorem dX4_leave_26 : decode cX4_leave 26 = .ok (.iload_n 2, 1) := by decide +kernel
theorem dX4_leave_27 : decode cX4_leave 27 = .ok (.invokestatic 48, 3) := by decide +kernel
theorem dX4_leave_30 : decode cX4_leave 30 = .ok (.iadd, 1) := by decide +kernel
theorem dX4_leave_31 : decode cX4_leave 31 = .ok (.iaload, 1) := by decide +kernel
theorem dX4_leave_32 : decode cX4_leave 32 = .ok (.ifCond .ne 9, 3) := by decide +kernel
theorem dX4_leave_35 : decode cX4_leave 35 = .ok (.aload_n 0, 1) := by decide +kernel
theorem dX4_leave_36 : decode cX4_leave 36 = .ok (.iconst 2, 1) := by decide +kernel
theorem dX4_leave_37 : decode cX4_leave 37 = .ok (.invokevirtual 44, 3) := by decide +kernel
theorem dX4_leave_40 : decode cX4_leave 40 = .ok (.ireturn, 1) := by decide +kernel
theorem dX4_leave_41 : decode cX4_leave 41 = .ok (.aload_n 0, 1) := by decide +kernel
theorem dX4_leave_42 : decode cX4_leave 42 = .ok (.invokevirtual 52, 3) := by decide +kernel
theorem dX4_leave_45 : decode cX4_leave 45 = .ok (.aload_n 0, 1) := by decide +kernel
theorem dX4_leave_46 : decode cX4_leave 46 = .ok (.iload_n 1, 1) := by decide +kernel
theorem dX4_leave_47 : decode cX4_leave 47 = .ok (.iload_n 2, 1) := by decide +kernel
theorem dX4_leave_48 : decode cX4_leave 48 = .ok (.invokestatic 48, 3) := by decide +kernel
theorem dX4_leave_51 : decode cX4_leave 51 = .ok (.iload_n 3, 1) := by decide +kernel
theorem dX4_leave_52 : decode cX4_leave 52 = .ok (.invokevirtual 61, 3) := by decide +kernel
theorem dX4_leave_55 : decode cX4_leave 55 = .ok (.ireturn, 1) := by decide +kernel
set_option maxRecDepth 20000 in
theorem ggX4_listeners_X4_isPair : GoodIn wsX4_listeners wsX4_isPair := goodIn_r _ [6, 7, 8, 5, 9] (by decide +kernel) (by decide +kernel)
set_option maxRecDepth 20000 in
theorem gX4_listeners_X4_isPair : GoodIn wsX4_listeners (va_wsS RX4 40 yX4_isPair wsX4_isPair) := goodIn_app (goodIn_of _ (by decide +kernel)) ggX4_listeners_X4_isPair
set_option maxRecDepth 20000 in
theorem ggX4_listeners_X4_cellOf : GoodIn wsX4_listeners wsX4_cellOf := goodIn_r _ [12] (by decide +kernel) (by decide +kernel)
set_option maxRecDepth 20000 in
theorem gX4_listeners_X4_cellOf : GoodIn wsX4_listeners (va_wsS RX4 48 yX4_cellOf wsX4_cellOf) := goodIn_app (goodIn_of _ (by decide +kernel)) ggX4_listeners_X4_cellOf
set_option maxRecDepth 20000 in
theorem ggX4_listeners_X4_fails : GoodIn wsX4_listeners wsX4_fails := goodIn_r _ [16, 1, 17, 18, 19, 20, 21, 22, 23, 24, 25, 26, 27, 28] (by decide +kernel) (by decide +kernel)
set_option maxRecDepth 20000 in
theorem gX4_listeners_X4_fails : GoodIn wsX4_listeners (wsV RX4 44 RX4 yX4_fails wsX4_fails) := goodIn_app (goodIn_of _ (by decide +kernel)) ggX4_listeners_X4_fails
theorem dX4_listeners_0 : decode cX4_listeners 0 = .ok (.aload_n 0, 1) := by decide +kernel
theorem dX4_listeners_1 : decode cX4_listeners 1 = .ok (.iconst 0, 1) := by decide +kernel
theorem dX4_listeners_2 : decode cX4_listeners 2 = .ok (.putfield 25, 3) := by decide +kernel
theorem dX4_listeners_5 : decode cX4_listeners 5 = .ok (.iload_n 1, 1) := by decide +kernel
theorem dX4_listeners_6 : decode cX4_listeners 6 = .ok (.iload_n 2, 1) := by decide +kernel
theorem dX4_listeners_7 : decode cX4_listeners 7 = .ok (.invokestatic 40, 3) := by decide +kernel
theorem dX4_listeners_10 : decode cX4_listeners 10 = .ok (.ifCond .eq 19, 3) := by decide +kernel
theorem dX4_listeners_13 : decode cX4_listeners 13 = .ok (.aload_n 0, 1) := by decide +kernel
theorem dX4_listeners_14 : decode cX4_listeners 14 = .ok (.getfield 7, 3) := by decide +kernel
theorem dX4_listeners_17 : decode cX4_listeners 17 = .ok (.bipush 21, 2) := by decide +kernel
theorem dX4_listeners_19 : decode cX4_listeners 19 = .ok (.iload_n 1, 1) := by decide +kernel
theorem dX4_listeners_20 : decode cX4_listeners 20 = .ok (.iload_n 2, 1) := by decide +kernel
theorem dX4_listeners_21 : decode cX4_listeners 21 = .ok (.invokestatic 48, 3) := by decide +kernel
theorem dX4_listeners_24 : decode cX4_listeners 24 = .ok (.iadd, 1) := by decide +kernel
theorem dX4_listeners_25 : decode cX4_listeners 25 = .ok (.iaload, 1) := by decide +kernel
theorem dX4_listeners_26 : decode cX4_listeners 26 = .ok (.goto 8, 3) := by decide +kernel
theorem dX4_listeners_29 : decode cX4_listeners 29 = .ok (.aload_n 0, 1) := by decide +kernel
theorem dX4_listeners_30 : decode cX4_listeners 30 = .ok (.iconst 1, 1) := by decide +kernel
theorem dX4_listeners_31 : decode cX4_listeners 31 = .ok (.invokevirtual 44, 3) := by decide +kernel
theorem dX4_listeners_34 : decode cX4_listeners 34 = .ok (.ireturn, 1) := by decide +kernel
set_option maxRecDepth 20000 in
theorem ggX4_setOpen_X4_in : GoodIn wsX4_setOpen wsX4_in := goodIn_r _ [6] (by decide +kernel) (by decide +kernel)
set_option maxRecDepth 20000 in
theorem gX4_setOpen_X4_in : GoodIn wsX4_setOpen (va_wsS RX4 29 yX4_in wsX4_in) := goodIn_app (goodIn_of _ (by decide +kernel)) ggX4_setOpen_X4_in
set_option maxRecDepth 20000 in
theorem ggX4_setOpen_X4_fails : GoodIn wsX4_setOpen wsX4_fails := goodIn_r _ [10, 1, 17, 18, 19, 20, 21, 22, 23, 24, 25, 26, 27, 28] (by decide +kernel) (by decide +kernel)
set_option maxRecDepth 20000 in
theorem gX4_setOpen_X4_fails : GoodIn wsX4_setOpen (wsV RX4 44 RX4 yX4_fails wsX4_fails) := goodIn_app (goodIn_of _ (by decide +kernel)) ggX4_setOpen_X4_fails
set_option maxRecDepth 20000 in
theorem ggX4_setOpen_X4_saves : GoodIn wsX4_setOpen wsX4_saves := goodIn_r _ [14, 15, 16, 2, 17, 18, 19, 20, 21, 22, 23, 24, 25, 26, 27, 28] (by decide +kernel) (by decide +kernel)
set_option maxRecDepth 20000 in
theorem gX4_setOpen_X4_saves : GoodIn wsX4_setOpen (wsV RX4 52 RX4 yX4_saves wsX4_saves) := goodIn_app (goodIn_of _ (by decide +kernel)) ggX4_setOpen_X4_saves
theorem dX4_setOpen_0 : decode cX4_setOpen 0 = .ok (.aload_n 0, 1) := by decide +kernel
theorem dX4_setOpen_1 : decode cX4_setOpen 1 = .ok (.iconst 0, 1) := by decide +kernel
theorem dX4_setOpen_2 : decode cX4_setOpen 2 = .ok (.putfield 25, 3) := by decide +kernel
theorem dX4_setOpen_5 : decode cX4_setOpen 5 = .ok (.iload_n 1, 1) := by decide +kernel
theorem dX4_setOpen_6 : decode cX4_setOpen 6 = .ok (.iconst 0, 1) := by decide +kernel
theorem dX4_setOpen_7 : decode cX4_setOpen 7 = .ok (.bipush 7, 2) := by decide +kernel
theorem dX4_setOpen_9 : decode cX4_setOpen 9 = .ok (.invokestatic 29, 3) := by decide +kernel
theorem dX4_setOpen_12 : decode cX4_setOpen 12 = .ok (.ifCond .ne 17, 3) := by decide +kernel
theorem dX4_setOpen_15 : decode cX4_setOpen 15 = .ok (.aload_n 0, 1) := by decide +kernel
theorem dX4_setOpen_16 : decode cX4_setOpen 16 = .ok (.iconst 1, 1) := by decide +kernel
theorem dX4_setOpen_17 : decode cX4_setOpen 17 = .ok (.invokevirtual 44, 3) := by decide +kernel
theorem dX4_setOpen_20 : decode cX4_setOpen 20 = .ok (.ifCond .le 7, 3) := by decide +kernel
theorem dX4_setOpen_23 : decode cX4_setOpen 23 = .ok (.iconst 1, 1) := by decide +kernel
theorem dX4_setOpen_24 : decode cX4_setOpen 24 = .ok (.goto 4, 3) := by decide +kernel
theorem dX4_setOpen_27 : decode cX4_setOpen 27 = .ok (.iconst 0, 1) := by decide +kernel
theorem dX4_setOpen_28 : decode cX4_setOpen 28 = .ok (.ireturn, 1) := by decide +kernel
theorem dX4_setOpen_29 : decode cX4_setOpen 29 = .ok (.aload_n 0, 1) := by decide +kernel
theorem dX4_setOpen_30 : decode cX4_setOpen 30 = .ok (.invokevirtual 52, 3) := by decide +kernel
theorem dX4_setOpen_33 : decode cX4_setOpen 33 = .ok (.aload_n 0, 1) := by decide +kernel
theorem dX4_setOpen_34 : decode cX4_setOpen 34 = .ok (.getfield 7, 3) := by decide +kernel
theorem dX4_setOpen_37 : decode cX4_setOpen 37 = .ok (.bipush 13, 2) := by decide +kernel
theorem dX4_setOpen_39 : decode cX4_setOpen 39 = .ok (.iload_n 1, 1) := by decide +kernel
theorem dX4_setOpen_40 : decode cX4_setOpen 40 = .ok (.iadd, 1) := by decide +kernel
theorem dX4_setOpen_41 : decode cX4_setOpen 41 = .ok (.iaload, 1) := by decide +kernel
theorem dX4_setOpen_42 : decode cX4_setOpen 42 = .ok (.iconst 1, 1) := by decide +kernel
theorem dX4_setOpen_43 : decode cX4_setOpen 43 = .ok (.if_icmp .ne 7, 3) := by decide +kernel
theorem dX4_setOpen_46 : decode cX4_setOpen 46 = .ok (.iconst 1, 1) := by decide +kernel
theorem dX4_setOpen_47 : decode cX4_setOpen 47 = .ok (.goto 4, 3) := by decide +kernel
theorem dX4_setOpen_50 : decode cX4_setOpen 50 = .ok (.iconst 0, 1) := by decide +kernel
theorem dX4_setOpen_51 : decode cX4_setOpen 51 = .ok (.istore_n 3, 1) := by decide +kernel
theorem dX4_setOpen_52 : decode cX4_setOpen 52 = .ok (.aload_n 0, 1) := by decide +kernel
theorem dX4_setOpen_53 : decode cX4_setOpen 53 = .ok (.getfield 7, 3) := by decide +kernel
theorem dX4_setOpen_56 : decode cX4_setOpen 56 = .ok (.bipush 13, 2) := by decide +kernel
theorem dX4_setOpen_58 : decode cX4_setOpen 58 = .ok (.iload_n 1, 1) := by decide +kernel
theorem dX4_setOpen_59 : decode cX4_setOpen 59 = .ok (.iadd, 1) := by decide +kernel
theorem dX4_setOpen_60 : decode cX4_setOpen 60 = .ok (.iload_n 2, 1) := by decide +kernel
theorem dX4_setOpen_61 : decode cX4_setOpen 61 = .ok (.ifCond .eq 7, 3) := by decide +kernel
theorem dX4_setOpen_64 : decode cX4_setOpen 64 = .ok (.iconst 1, 1) := by decide +kernel
theorem dX4_setOpen_65 : decode cX4_setOpen 65 = .ok (.goto 4, 3) := by decide +kernel
theorem dX4_setOpen_68 : decode cX4_setOpen 68 = .ok (.iconst 0, 1) := by decide +kernel
theorem dX4_setOpen_69 : decode cX4_setOpen 69 = .ok (.iastore, 1) := by decide +kernel
theorem dX4_setOpen_70 : decode cX4_setOpen 70 = .ok (.iload_n 3, 1) := by decide +kernel
theorem dX4_setOpen_71 : decode cX4_setOpen 71 = .ok (.ireturn, 1) := by decide +kernel
set_option maxRecDepth 20000 in
theorem ggX4_setQuick_X4_saves : GoodIn wsX4_setQuick wsX4_saves := goodIn_r _ [7, 8, 9, 2, 10, 11, 12, 13, 14, 15, 16, 17, 18, 19, 20, 21] (by decide +kernel) (by decide +kernel)
set_option maxRecDepth 20000 in
theorem gX4_setQuick_X4_saves : GoodIn wsX4_setQuick (wsV RX4 52 RX4 yX4_saves wsX4_saves) := goodIn_app (goodIn_of _ (by decide +kernel)) ggX4_setQuick_X4_saves
theorem dX4_setQuick_0 : decode cX4_setQuick 0 = .ok (.aload_n 0, 1) := by decide +kernel
theorem dX4_setQuick_1 : decode cX4_setQuick 1 = .ok (.iconst 0, 1) := by decide +kernel
theorem dX4_setQuick_2 : decode cX4_setQuick 2 = .ok (.putfield 25, 3) := by decide +kernel
theorem dX4_setQuick_5 : decode cX4_setQuick 5 = .ok (.aload_n 0, 1) := by decide +kernel
theorem dX4_setQuick_6 : decode cX4_setQuick 6 = .ok (.invokevirtual 52, 3) := by decide +kernel
theorem dX4_setQuick_9 : decode cX4_setQuick 9 = .ok (.aload_n 0, 1) := by decide +kernel
theorem dX4_setQuick_10 : decode cX4_setQuick 10 = .ok (.getfield 7, 3) := by decide +kernel
theorem dX4_setQuick_13 : decode cX4_setQuick 13 = .ok (.iconst 3, 1) := by decide +kernel
theorem dX4_setQuick_14 : decode cX4_setQuick 14 = .ok (.iaload, 1) := by decide +kernel
theorem dX4_setQuick_15 : decode cX4_setQuick 15 = .ok (.iconst 1, 1) := by decide +kernel
theorem dX4_setQuick_16 : decode cX4_setQuick 16 = .ok (.if_icmp .ne 7, 3) := by decide +kernel
theorem dX4_setQuick_19 : decode cX4_setQuick 19 = .ok (.iconst 1, 1) := by decide +kernel
theorem dX4_setQuick_20 : decode cX4_setQuick 20 = .ok (.goto 4, 3) := by decide +kernel
theorem dX4_setQuick_23 : decode cX4_setQuick 23 = .ok (.iconst 0, 1) := by decide +kernel
theorem dX4_setQuick_24 : decode cX4_setQuick 24 = .ok (.istore_n 2, 1) := by decide +kernel
theorem dX4_setQuick_25 : decode cX4_setQuick 25 = .ok (.aload_n 0, 1) := by decide +kernel
theorem dX4_setQuick_26 : decode cX4_setQuick 26 = .ok (.getfield 7, 3) := by decide +kernel
theorem dX4_setQuick_29 : decode cX4_setQuick 29 = .ok (.iconst 3, 1) := by decide +kernel
theorem dX4_setQuick_30 : decode cX4_setQuick 30 = .ok (.iload_n 1, 1) := by decide +kernel
theorem dX4_setQuick_31 : decode cX4_setQuick 31 = .ok (.ifCond .eq 7, 3) := by decide +kernel
theorem dX4_setQuick_34 : decode cX4_setQuick 34 = .ok (.iconst 1, 1) := by decide +kernel
theorem dX4_setQuick_35 : decode cX4_setQuick 35 = .ok (.goto 4, 3) := by decide +kernel
theorem dX4_setQuick_38 : decode cX4_setQuick 38 = .ok (.iconst 0, 1) := by decide +kernel
theorem dX4_setQuick_39 : decode cX4_setQuick 39 = .ok (.iastore, 1) := by decide +kernel
theorem dX4_setQuick_40 : decode cX4_setQuick 40 = .ok (.iload_n 2, 1) := by decide +kernel
theorem dX4_setQuick_41 : decode cX4_setQuick 41 = .ok (.ireturn, 1) := by decide +kernel
set_option maxRecDepth 20000 in
theorem ggX4_setTimes_X4_in : GoodIn wsX4_setTimes wsX4_in := goodIn_r _ [6] (by decide +kernel) (by decide +kernel)
set_option maxRecDepth 20000 in
theorem gX4_setTimes_X4_in : GoodIn wsX4_setTimes (va_wsS RX4 29 yX4_in wsX4_in) := goodIn_app (goodIn_of _ (by decide +kernel)) ggX4_setTimes_X4_in
set_option maxRecDepth 20000 in
theorem ggX4_setTimes_X4_fails : GoodIn wsX4_setTimes wsX4_fails := goodIn_r _ [10, 1, 17, 18, 19, 20, 21, 22, 23, 24, 25, 26, 27, 28] (by decide +kernel) (by decide +kernel)
set_option maxRecDepth 20000 in
theorem gX4_setTimes_X4_fails : GoodIn wsX4_setTimes (wsV RX4 44 RX4 yX4_fails wsX4_fails) := goodIn_app (goodIn_of _ (by decide +kernel)) ggX4_setTimes_X4_fails
set_option maxRecDepth 20000 in
theorem ggX4_setTimes_X4_saves : GoodIn wsX4_setTimes wsX4_saves := goodIn_r _ [14, 15, 16, 2, 17, 18, 19, 20, 21, 22, 23, 24, 25, 26, 27, 28] (by decide +kernel) (by decide +kernel)
set_option maxRecDepth 20000 in
theorem gX4_setTimes_X4_saves : GoodIn wsX4_setTimes (wsV RX4 52 RX4 yX4_saves wsX4_saves) := goodIn_app (goodIn_of _ (by decide +kernel)) ggX4_setTimes_X4_saves
theorem dX4_setTimes_0 : decode cX4_setTimes 0 = .ok (.aload_n 0, 1) := by decide +kernel
theorem dX4_setTimes_1 : decode cX4_setTimes 1 = .ok (.iconst 0, 1) := by decide +kernel
theorem dX4_setTimes_2 : decode cX4_setTimes 2 = .ok (.putfield 25, 3) := by decide +kernel
theorem dX4_setTimes_5 : decode cX4_setTimes 5 = .ok (.iload_n 1, 1) := by decide +kernel
theorem dX4_setTimes_6 : decode cX4_setTimes 6 = .ok (.iconst 2, 1) := by decide +kernel
theorem dX4_setTimes_7 : decode cX4_setTimes 7 = .ok (.bipush 60, 2) := by decide +kernel
theorem dX4_setTimes_9 : decode cX4_setTimes 9 = .ok (.invokestatic 29, 3) := by decide +kernel
theorem dX4_setTimes_12 : decode cX4_setTimes 12 = .ok (.ifCond .eq 23, 3) := by decide +kernel
theorem dX4_setTimes_15 : decode cX4_setTimes 15 = .ok (.iload_n 2, 1) := by decide +kernel
theorem dX4_setTimes_16 : decode cX4_setTimes 16 = .ok (.iconst 1, 1) := by decide +kernel
theorem dX4_setTimes_17 : decode cX4_setTimes 17 = .ok (.bipush 10, 2) := by decide +kernel
theorem dX4_setTimes_19 : decode cX4_setTimes 19 = .ok (.invokestatic 29, 3) := by decide +kernel
theorem dX4_setTimes_22 : decode cX4_setTimes 22 = .ok (.ifCond .eq 13, 3) := by decide +kernel
theorem dX4_setTimes_25 : decode cX4_setTimes 25 = .ok (.iload_n 3, 1) := by decide +kernel
theorem dX4_setTimes_26 : decode cX4_setTimes 26 = .ok (.iconst 1, 1) := by decide +kernel
theorem dX4_setTimes_27 : decode cX4_setTimes 27 = .ok (.bipush 30, 2) := by decide +kernel
theorem dX4_setTimes_29 : decode cX4_setTimes 29 = .ok (.invokestatic 29, 3) := by decide +kernel
theorem dX4_setTimes_32 : decode cX4_setTimes 32 = .ok (.ifCond .ne 9, 3) := by decide +kernel
theorem dX4_setTimes_35 : decode cX4_setTimes 35 = .ok (.aload_n 0, 1) := by decide +kernel
theorem dX4_setTimes_36 : decode cX4_setTimes 36 = .ok (.iconst 1, 1) := by decide +kernel
theorem dX4_setTimes_37 : decode cX4_setTimes 37 = .ok (.invokevirtual 44, 3) := by decide +kernel
theorem dX4_setTimes_40 : decode cX4_setTimes 40 = .ok (.ireturn, 1) := by decide +kernel
theorem dX4_setTimes_41 : decode cX4_setTimes 41 = .ok (.aload_n 0, 1) := by decide +kernel
theorem dX4_setTimes_42 : decode cX4_setTimes 42 = .ok (.invokevirtual 52, 3) := by decide +kernel
theorem dX4_setTimes_45 : decode cX4_setTimes 45 = .ok (.aload_n 0, 1) := by decide +kernel
theorem dX4_setTimes_46 : decode cX4_setTimes 46 = .ok (.getfield 7, 3) := by decide +kernel
theorem dX4_setTimes_49 : decode cX4_setTimes 49 = .ok (.iconst 0, 1) := by decide +kernel
theorem dX4_setTimes_50 : decode cX4_setTimes 50 = .ok (.iaload, 1) := by decide +kernel
theorem dX4_setTimes_51 : decode cX4_setTimes 51 = .ok (.istore 4, 2) := by decide +kernel
theorem dX4_setTimes_53 : decode cX4_setTimes 53 = .ok (.aload_n 0, 1) := by decide +kernel
theorem dX4_setTimes_54 : decode cX4_setTimes 54 = .ok (.getfield 7, 3) := by decide +kernel
theorem dX4_setTimes_57 : decode cX4_setTimes 57 = .ok (.iconst 0, 1) := by decide +kernel
theorem dX4_setTimes_58 : decode cX4_setTimes 58 = .ok (.iload_n 1, 1) := by decide +kernel
theorem dX4_setTimes_59 : decode cX4_setTimes 59 = .ok (.iastore, 1) := by decide +kernel
theorem dX4_setTimes_60 : decode cX4_setTimes 60 = .ok (.aload_n 0, 1) := by decide +kernel
theorem dX4_setTimes_61 : decode cX4_setTimes 61 = .ok (.getfield 7, 3) := by decide +kernel
theorem dX4_setTimes_64 : decode cX4_setTimes 64 = .ok (.iconst 1, 1) := by decide +kernel
theorem dX4_setTimes_65 : decode cX4_setTimes 65 = .ok (.iload_n 2, 1) := by decide +kernel
theorem dX4_setTimes_66 : decode cX4_setTimes 66 = .ok (.iastore, 1) := by decide +kernel
theorem dX4_setTimes_67 : decode cX4_setTimes 67 = .ok (.aload_n 0, 1) := by decide +kernel
theorem dX4_setTimes_68 : decode cX4_setTimes 68 = .ok (.getfield 7, 3) := by decide +kernel
theorem dX4_setTimes_71 : decode cX4_setTimes 71 = .ok (.iconst 2, 1) := by decide +kernel
theorem dX4_setTimes_72 : decode cX4_setTimes 72 = .ok (.iload_n 3, 1) := by decide +kernel
theorem dX4_setTimes_73 : decode cX4_setTimes 73 = .ok (.iastore, 1) := by decide +kernel
theorem dX4_setTimes_74 : decode cX4_setTimes 74 = .ok (.iload 4, 2) := by decide +kernel
theorem dX4_setTimes_76 : decode cX4_setTimes 76 = .ok (.ireturn, 1) := by decide +kernel
theorem dX4_chiefNow_0 : decode cX4_chiefNow 0 = .ok (.aload_n 0, 1) := by decide +kernel
theorem dX4_chiefNow_1 : decode cX4_chiefNow 1 = .ok (.getfield 7, 3) := by decide +kernel
theorem dX4_chiefNow_4 : decode cX4_chiefNow 4 = .ok (.iconst 4, 1) := by decide +kernel
theorem dX4_chiefNow_5 : decode cX4_chiefNow 5 = .ok (.iaload, 1) := by decide +kernel
theorem dX4_chiefNow_6 : decode cX4_chiefNow 6 = .ok (.iconst 3, 1) := by decide +kernel
theorem dX4_chiefNow_7 : decode cX4_chiefNow 7 = .ok (.if_icmp .le 7, 3) := by decide +kernel
theorem dX4_chiefNow_10 : decode cX4_chiefNow 10 = .ok (.iconst 2, 1) := by decide +kernel
theorem dX4_chiefNow_11 : decode cX4_chiefNow 11 = .ok (.goto 18, 3) := by decide +kernel
theorem dX4_chiefNow_14 : decode cX4_chiefNow 14 = .ok (.aload_n 0, 1) := by decide +kernel
theorem dX4_chiefNow_15 : decode cX4_chiefNow 15 = .ok (.getfield 7, 3) := by decide +kernel
theorem dX4_chiefNow_18 : decode cX4_chiefNow 18 = .ok (.iconst 4, 1) := by decide +kernel
theorem dX4_chiefNow_19 : decode cX4_chiefNow 19 = .ok (.iaload, 1) := by decide +kernel
theorem dX4_chiefNow_20 : decode cX4_chiefNow 20 = .ok (.iconst 1, 1) := by decide +kernel
theorem dX4_chiefNow_21 : decode cX4_chiefNow 21 = .ok (.if_icmp .le 7, 3) := by decide +kernel
theorem dX4_chiefNow_24 : decode cX4_chiefNow 24 = .ok (.iconst 1, 1) := by decide +kernel
theorem dX4_chiefNow_25 : decode cX4_chiefNow 25 = .ok (.goto 4, 3) := by decide +kernel
theorem dX4_chiefNow_28 : decode cX4_chiefNow 28 = .ok (.iconst 0, 1) := by decide +kernel
theorem dX4_chiefNow_29 : decode cX4_chiefNow 29 = .ok (.ireturn, 1) := by decide +kernel
set_option maxRecDepth 20000 in
theorem ggX4_setPresent_X4_in : GoodIn wsX4_setPresent wsX4_in := goodIn_r _ [6] (by decide +kernel) (by decide +kernel)
set_option maxRecDepth 20000 in
theorem gX4_setPresent_X4_in : GoodIn wsX4_setPresent (va_wsS RX4 29 yX4_in wsX4_in) := goodIn_app (goodIn_of _ (by decide +kernel)) ggX4_setPresent_X4_in
set_option maxRecDepth 20000 in
theorem ggX4_setPresent_X4_fails : GoodIn wsX4_setPresent wsX4_fails := goodIn_r _ [10, 1, 21, 22, 23, 24, 25, 26, 27, 28, 29, 30, 31, 32] (by decide +kernel) (by decide +kernel)
set_option maxRecDepth 20000 in
theorem gX4_setPresent_X4_fails : GoodIn wsX4_setPresent (wsV RX4 44 RX4 yX4_fails wsX4_fails) := goodIn_app (goodIn_of _ (by decide +kernel)) ggX4_setPresent_X4_fails
set_option maxRecDepth 20000 in
theorem ggX4_setPresent_X4_saves : GoodIn wsX4_setPresent wsX4_saves := goodIn_r _ [14, 15, 16, 2, 21, 22, 23, 24, 25, 26, 27, 28, 29, 30, 31, 32] (by decide +kernel) (by decide +kernel)
set_option maxRecDepth 20000 in
theorem gX4_setPresent_X4_saves : GoodIn wsX4_setPresent (wsV RX4 52 RX4 yX4_saves wsX4_saves) := goodIn_app (goodIn_of _ (by decide +kernel)) ggX4_setPresent_X4_saves
set_option maxRecDepth 20000 in
theorem ggX4_setPresent_X4_chiefNow : GoodIn wsX4_setPresent wsX4_chiefNow := goodIn_r _ [20, 2, 21, 22, 23, 24, 25, 26, 27, 28, 29, 30, 31, 32] (by decide +kernel) (by decide +kernel)
set_option maxRecDepth 20000 in
theorem gX4_setPresent_X4_chiefNow : GoodIn wsX4_setPresent (wsV RX4 65 RX4 yX4_chiefNow wsX4_chiefNow) := goodIn_app (goodIn_of _ (by decide +kernel)) ggX4_setPresent_X4_chiefNow
theorem dX4_setPresent_0 : decode cX4_setPresent 0 = .ok (.aload_n 0, 1) := by decide +kernel
theorem dX4_setPresent_1 : decode cX4_setPresent 1 = .ok (.iconst 0, 1) := by decide +kernel
theorem dX4_setPresent_2 : decode cX4_setPresent 2 = .ok (.putfield 25, 3) := by decide +kernel
theorem dX4_setPresent_5 : decode cX4_setPresent 5 = .ok (.iload_n 1, 1) := by decide +kernel
theorem dX4_setPresent_6 : decode cX4_setPresent 6 = .ok (.iconst 1, 1) := by decide +kernel
theorem dX4_setPresent_7 : decode cX4_setPresent 7 = .ok (.iconst 2, 1) := by decide +kernel
theorem dX4_setPresent_8 : decode cX4_setPresent 8 = .ok (.invokestatic 29, 3) := by decide +kernel
theorem dX4_setPresent_11 : decode cX4_setPresent 11 = .ok (.ifCond .ne 9, 3) := by decide +kernel
theorem dX4_setPresent_14 : decode cX4_setPresent 14 = .ok (.aload_n 0, 1) := by decide +kernel
theorem dX4_setPresent_15 : decode cX4_setPresent 15 = .ok (.iconst 1, 1) := by decide +kernel
theorem dX4_setPresent_16 : decode cX4_setPresent 16 = .ok (.invokevirtual 44, 3) := by decide +kernel
theorem dX4_setPresent_19 : decode cX4_setPresent 19 = .ok (.ireturn, 1) := by decide +kernel
theorem dX4_setPresent_20 : decode cX4_setPresent 20 = .ok (.aload_n 0, 1) := by decide +kernel
theorem dX4_setPresent_21 : decode cX4_setPresent 21 = .ok (.invokevirtual 52, 3) := by decide +kernel
theorem dX4_setPresent_24 : decode cX4_setPresent 24 = .ok (.aload_n 0, 1) := by decide +kernel
theorem dX4_setPresent_25 : decode cX4_setPresent 25 = .ok (.getfield 7, 3) := by decide +kernel
theorem dX4_setPresent_28 : decode cX4_setPresent 28 = .ok (.iconst 4, 1) := by decide +kernel
theorem dX4_setPresent_29 : decode cX4_setPresent 29 = .ok (.aload_n 0, 1) := by decide +kernel
theorem dX4_setPresent_30 : decode cX4_setPresent 30 = .ok (.getfield 7, 3) := by decide +kernel
theorem dX4_setPresent_33 : decode cX4_setPresent 33 = .ok (.iconst 4, 1) := by decide +kernel
theorem dX4_setPresent_34 : decode cX4_setPresent 34 = .ok (.iaload, 1) := by decide +kernel
theorem dX4_setPresent_35 : decode cX4_setPresent 35 = .ok (.iconst 1, 1) := by decide +kernel
theorem dX4_setPresent_36 : decode cX4_setPresent 36 = .ok (.iload_n 1, 1) := by decide +kernel
theorem dX4_setPresent_37 : decode cX4_setPresent 37 = .ok (.ishl, 1) := by decide +kernel
theorem dX4_setPresent_38 : decode cX4_setPresent 38 = .ok (.iconst (-1), 1) := by decide +kernel
theorem dX4_setPresent_39 : decode cX4_setPresent 39 = .ok (.ixor, 1) := by decide +kernel
theorem dX4_setPresent_40 : decode cX4_setPresent 40 = .ok (.iand, 1) := by decide +kernel
theorem dX4_setPresent_41 : decode cX4_setPresent 41 = .ok (.iload_n 2, 1) := by decide +kernel
theorem dX4_setPresent_42 : decode cX4_setPresent 42 = .ok (.ifCond .eq 9, 3) := by decide +kernel
theorem dX4_setPresent_45 : decode cX4_setPresent 45 = .ok (.iconst 1, 1) := by decide +kernel
theorem dX4_setPresent_46 : decode cX4_setPresent 46 = .ok (.iload_n 1, 1) := by decide +kernel
theorem dX4_setPresent_47 : decode cX4_setPresent 47 = .ok (.ishl, 1) := by decide +kernel
theorem dX4_setPresent_48 : decode cX4_setPresent 48 = .ok (.goto 4, 3) := by decide +kernel
theorem dX4_setPresent_51 : decode cX4_setPresent 51 = .ok (.iconst 0, 1) := by decide +kernel
theorem dX4_setPresent_52 : decode cX4_setPresent 52 = .ok (.ior, 1) := by decide +kernel
theorem dX4_setPresent_53 : decode cX4_setPresent 53 = .ok (.iastore, 1) := by decide +kernel
theorem dX4_setPresent_54 : decode cX4_setPresent 54 = .ok (.aload_n 0, 1) := by decide +kernel
theorem dX4_setPresent_55 : decode cX4_setPresent 55 = .ok (.invokevirtual 65, 3) := by decide +kernel
theorem dX4_setPresent_58 : decode cX4_setPresent 58 = .ok (.ireturn, 1) := by decide +kernel
set_option maxRecDepth 20000 in
theorem ggX4_chief_X4_chiefNow : GoodIn wsX4_chief wsX4_chiefNow := goodIn_r _ [6, 7, 8, 9, 10, 11, 12, 13, 14, 15, 16, 17, 18, 19] (by decide +kernel) (by decide +kernel)
set_option maxRecDepth 20000 in
theorem gX4_chief_X4_chiefNow : GoodIn wsX4_chief (wsV RX4 65 RX4 yX4_chiefNow wsX4_chiefNow) := goodIn_app (goodIn_of _ (by decide +kernel)) ggX4_chief_X4_chiefNow
theorem dX4_chief_0 : decode cX4_chief 0 = .ok (.aload_n 0, 1) := by decide +kernel
theorem dX4_chief_1 : decode cX4_chief 1 = .ok (.iconst 0, 1) := by decide +kernel
theorem dX4_chief_2 : decode cX4_chief 2 = .ok (.putfield 25, 3) := by decide +kernel
theorem dX4_chief_5 : decode cX4_chief 5 = .ok (.aload_n 0, 1) := by decide +kernel
theorem dX4_chief_6 : decode cX4_chief 6 = .ok (.invokevirtual 65, 3) := by decide +kernel
theorem dX4_chief_9 : decode cX4_chief 9 = .ok (.ireturn, 1) := by decide +kernel
set_option maxRecDepth 20000 in
theorem ggX4_rest_X4_isPair : GoodIn wsX4_rest wsX4_isPair := goodIn_r _ [6, 7, 8, 5, 9] (by decide +kernel) (by decide +kernel)
set_option maxRecDepth 20000 in
theorem gX4_rest_X4_isPair : GoodIn wsX4_rest (va_wsS RX4 40 yX4_isPair wsX4_isPair) := goodIn_app (goodIn_of _ (by decide +kernel)) ggX4_rest_X4_isPair
set_option maxRecDepth 20000 in
theorem ggX4_rest_X4_cellOf : GoodIn wsX4_rest wsX4_cellOf := goodIn_r _ [12] (by decide +kernel) (by decide +kernel)
set_option maxRecDepth 20000 in
theorem gX4_rest_X4_cellOf : GoodIn wsX4_rest (va_wsS RX4 48 yX4_cellOf wsX4_cellOf) := goodIn_app (goodIn_of _ (by decide +kernel)) ggX4_rest_X4_cellOf
set_option maxRecDepth 20000 in
theorem ggX4_rest_X4_fails : GoodIn wsX4_rest wsX4_fails := goodIn_r _ [16, 1, 17, 18, 19, 20, 21, 22, 23, 24, 25, 26, 27, 28] (by decide +kernel) (by decide +kernel)
set_option maxRecDepth 20000 in
theorem gX4_rest_X4_fails : GoodIn wsX4_rest (wsV RX4 44 RX4 yX4_fails wsX4_fails) := goodIn_app (goodIn_of _ (by decide +kernel)) ggX4_rest_X4_fails
theorem dX4_rest_0 : decode cX4_rest 0 = .ok (.aload_n 0, 1) := by decide +kernel
theorem dX4_rest_1 : decode cX4_rest 1 = .ok (.iconst 0, 1) := by decide +kernel
theorem dX4_rest_2 : decode cX4_rest 2 = .ok (.putfield 25, 3) := by decide +kernel
theorem dX4_rest_5 : decode cX4_rest 5 = .ok (.iload_n 1, 1) := by decide +kernel
theorem dX4_rest_6 : decode cX4_rest 6 = .ok (.iload_n 2, 1) := by decide +kernel
theorem dX4_rest_7 : decode cX4_rest 7 = .ok (.invokestatic 40, 3) := by decide +kernel
theorem dX4_rest_10 : decode cX4_rest 10 = .ok (.ifCond .eq 19, 3) := by decide +kernel
theorem dX4_rest_13 : decode cX4_rest 13 = .ok (.aload_n 0, 1) := by decide +kernel
theorem dX4_rest_14 : decode cX4_rest 14 = .ok (.getfield 7, 3) := by decide +kernel
theorem dX4_rest_17 : decode cX4_rest 17 = .ok (.bipush 69, 2) := by decide +kernel
theorem dX4_rest_19 : decode cX4_rest 19 = .ok (.iload_n 1, 1) := by decide +kernel
theorem dX4_rest_20 : decode cX4_rest 20 = .ok (.iload_n 2, 1) := by decide +kernel
theorem dX4_rest_21 : decode cX4_rest 21 = .ok (.invokestatic 48, 3) := by decide +kernel
theorem dX4_rest_24 : decode cX4_rest 24 = .ok (.iadd, 1) := by decide +kernel
theorem dX4_rest_25 : decode cX4_rest 25 = .ok (.iaload, 1) := by decide +kernel
theorem dX4_rest_26 : decode cX4_rest 26 = .ok (.goto 8, 3) := by decide +kernel
theorem dX4_rest_29 : decode cX4_rest 29 = .ok (.aload_n 0, 1) := by decide +kernel
theorem dX4_rest_30 : decode cX4_rest 30 = .ok (.iconst 1, 1) := by decide +kernel
theorem dX4_rest_31 : decode cX4_rest 31 = .ok (.invokevirtual 44, 3) := by decide +kernel
theorem dX4_rest_34 : decode cX4_rest 34 = .ok (.ireturn, 1) := by decide +kernel
theorem dX4_entriesNow_0 : decode cX4_entriesNow 0 = .ok (.iconst 0, 1) := by decide +kernel
theorem dX4_entriesNow_1 : decode cX4_entriesNow 1 = .ok (.istore_n 1, 1) := by decide +kernel
theorem dX4_entriesNow_2 : decode cX4_entriesNow 2 = .ok (.iconst 0, 1) := by decide +kernel
theorem dX4_entriesNow_3 : decode cX4_entriesNow 3 = .ok (.istore_n 2, 1) := by decide +kernel
theorem dX4_entriesNow_4 : decode cX4_entriesNow 4 = .ok (.iload_n 2, 1) := by decide +kernel
theorem dX4_entriesNow_5 : decode cX4_entriesNow 5 = .ok (.bipush 48, 2) := by decide +kernel
theorem dX4_entriesNow_7 : decode cX4_entriesNow 7 = .ok (.if_icmp .ge 29, 3) := by decide +kernel
theorem dX4_entriesNow_10 : decode cX4_entriesNow 10 = .ok (.iload_n 1, 1) := by decide +kernel
theorem dX4_entriesNow_11 : decode cX4_entriesNow 11 = .ok (.aload_n 0, 1) := by decide +kernel
theorem dX4_entriesNow_12 : decode cX4_entriesNow 12 = .ok (.getfield 7, 3) := by decide +kernel
theorem dX4_entriesNow_15 : decode cX4_entriesNow 15 = .ok (.bipush 69, 2) := by decide +kernel
theorem dX4_entriesNow_17 : decode cX4_entriesNow 17 = .ok (.iload_n 2, 1) := by decide +kernel
theorem dX4_entriesNow_18 : decode cX4_entriesNow 18 = .ok (.iadd, 1) := by decide +kernel
theorem dX4_entriesNow_19 : decode cX4_entriesNow 19 = .ok (.iaload, 1) := by decide +kernel
theorem dX4_entriesNow_20 : decode cX4_entriesNow 20 = .ok (.ifCond .le 7, 3) := by decide +kernel
theorem dX4_entriesNow_23 : decode cX4_entriesNow 23 = .ok (.iconst 1, 1) := by decide +kernel
theorem dX4_entriesNow_24 : decode cX4_entriesNow 24 = .ok (.goto 4, 3) := by decide +kernel
theorem dX4_entriesNow_27 : decode cX4_entriesNow 27 = .ok (.iconst 0, 1) := by decide +kernel
theorem dX4_entriesNow_28 : decode cX4_entriesNow 28 = .ok (.iadd, 1) := by decide +kernel
theorem dX4_entriesNow_29 : decode cX4_entriesNow 29 = .ok (.istore_n 1, 1) := by decide +kernel
theorem dX4_entriesNow_30 : decode cX4_entriesNow 30 = .ok (.iinc 2 1, 3) := by decide +kernel
theorem dX4_entriesNow_33 : decode cX4_entriesNow 33 = .ok (.goto (-29), 3) := by decide +kernel
theorem dX4_entriesNow_36 : decode cX4_entriesNow 36 = .ok (.iload_n 1, 1) := by decide +kernel
theorem dX4_entriesNow_37 : decode cX4_entriesNow 37 = .ok (.ireturn, 1) := by decide +kernel
set_option maxRecDepth 20000 in
theorem ggX4_entries_X4_entriesNow : GoodIn wsX4_entries wsX4_entriesNow := goodIn_r _ [6, 7, 8, 9, 10, 11, 12, 13, 14, 15, 16, 17, 18, 19] (by decide +kernel) (by decide +kernel)
set_option maxRecDepth 20000 in
theorem gX4_entries_X4_entriesNow : GoodIn wsX4_entries (wsV RX4 69 RX4 yX4_entriesNow wsX4_entriesNow) := goodIn_app (goodIn_of _ (by decide +kernel)) ggX4_entries_X4_entriesNow
theorem dX4_entries_0 : decode cX4_entries 0 = .ok (.aload_n 0, 1) := by decide +kernel
theorem dX4_entries_1 : decode cX4_entries 1 = .ok (.iconst 0, 1) := by decide +kernel
theorem dX4_entries_2 : decode cX4_entries 2 = .ok (.putfield 25, 3) := by decide +kernel
theorem dX4_entries_5 : decode cX4_entries 5 = .ok (.aload_n 0, 1) := by decide +kernel
theorem dX4_entries_6 : decode cX4_entries 6 = .ok (.invokevirtual 69, 3) := by decide +kernel
theorem dX4_entries_9 : decode cX4_entries 9 = .ok (.ireturn, 1) := by decide +kernel
set_option maxRecDepth 20000 in
theorem ggX4_isOpen_X4_in : GoodIn wsX4_isOpen wsX4_in := goodIn_r _ [6] (by decide +kernel) (by decide +kernel)
set_option maxRecDepth 20000 in
theorem gX4_isOpen_X4_in : GoodIn wsX4_isOpen (va_wsS RX4 29 yX4_in wsX4_in) := goodIn_app (goodIn_of _ (by decide +kernel)) ggX4_isOpen_X4_in
set_option maxRecDepth 20000 in
theorem ggX4_isOpen_X4_fails : GoodIn wsX4_isOpen wsX4_fails := goodIn_r _ [10, 1, 11, 12, 13, 14, 15, 16, 17, 18, 19, 20, 21, 22] (by decide +kernel) (by decide +kernel)
set_option maxRecDepth 20000 in
theorem gX4_isOpen_X4_fails : GoodIn wsX4_isOpen (wsV RX4 44 RX4 yX4_fails wsX4_fails) := goodIn_app (goodIn_of _ (by decide +kernel)) ggX4_isOpen_X4_fails
theorem dX4_isOpen_0 : decode cX4_isOpen 0 = .ok (.aload_n 0, 1) := by decide +kernel
theorem dX4_isOpen_1 : decode cX4_isOpen 1 = .ok (.iconst 0, 1) := by decide +kernel
theorem dX4_isOpen_2 : decode cX4_isOpen 2 = .ok (.putfield 25, 3) := by decide +kernel
theorem dX4_isOpen_5 : decode cX4_isOpen 5 = .ok (.iload_n 1, 1) := by decide +kernel
theorem dX4_isOpen_6 : decode cX4_isOpen 6 = .ok (.iconst 0, 1) := by decide +kernel
theorem dX4_isOpen_7 : decode cX4_isOpen 7 = .ok (.bipush 7, 2) := by decide +kernel
theorem dX4_isOpen_9 : decode cX4_isOpen 9 = .ok (.invokestatic 29, 3) := by decide +kernel
theorem dX4_isOpen_12 : decode cX4_isOpen 12 = .ok (.ifCond .eq 24, 3) := by decide +kernel
theorem dX4_isOpen_15 : decode cX4_isOpen 15 = .ok (.aload_n 0, 1) := by decide +kernel
theorem dX4_isOpen_16 : decode cX4_isOpen 16 = .ok (.getfield 7, 3) := by decide +kernel
theorem dX4_isOpen_19 : decode cX4_isOpen 19 = .ok (.bipush 13, 2) := by decide +kernel
theorem dX4_isOpen_21 : decode cX4_isOpen 21 = .ok (.iload_n 1, 1) := by decide +kernel
theorem dX4_isOpen_22 : decode cX4_isOpen 22 = .ok (.iadd, 1) := by decide +kernel
theorem dX4_isOpen_23 : decode cX4_isOpen 23 = .ok (.iaload, 1) := by decide +kernel
theorem dX4_isOpen_24 : decode cX4_isOpen 24 = .ok (.iconst 1, 1) := by decide +kernel
theorem dX4_isOpen_25 : decode cX4_isOpen 25 = .ok (.if_icmp .ne 7, 3) := by decide +kernel
theorem dX4_isOpen_28 : decode cX4_isOpen 28 = .ok (.iconst 1, 1) := by decide +kernel
theorem dX4_isOpen_29 : decode cX4_isOpen 29 = .ok (.goto 20, 3) := by decide +kernel
theorem dX4_isOpen_32 : decode cX4_isOpen 32 = .ok (.iconst 0, 1) := by decide +kernel
theorem dX4_isOpen_33 : decode cX4_isOpen 33 = .ok (.goto 16, 3) := by decide +kernel
theorem dX4_isOpen_36 : decode cX4_isOpen 36 = .ok (.aload_n 0, 1) := by decide +kernel
theorem dX4_isOpen_37 : decode cX4_isOpen 37 = .ok (.iconst 1, 1) := by decide +kernel
theorem dX4_isOpen_38 : decode cX4_isOpen 38 = .ok (.invokevirtual 44, 3) := by decide +kernel
theorem dX4_isOpen_41 : decode cX4_isOpen 41 = .ok (.ifCond .le 7, 3) := by decide +kernel
theorem dX4_isOpen_44 : decode cX4_isOpen 44 = .ok (.iconst 1, 1) := by decide +kernel
theorem dX4_isOpen_45 : decode cX4_isOpen 45 = .ok (.goto 4, 3) := by decide +kernel
theorem dX4_isOpen_48 : decode cX4_isOpen 48 = .ok (.iconst 0, 1) := by decide +kernel
theorem dX4_isOpen_49 : decode cX4_isOpen 49 = .ok (.ireturn, 1) := by decide +kernel
set_option maxRecDepth 20000 in
theorem ggX4_goes_X4_cellOf : GoodIn wsX4_goes wsX4_cellOf := goodIn_r _ [5] (by decide +kernel) (by decide +kernel)
set_option maxRecDepth 20000 in
theorem gX4_goes_X4_cellOf : GoodIn wsX4_goes (va_wsS RX4 48 yX4_cellOf wsX4_cellOf) := goodIn_app (goodIn_of _ (by decide +kernel)) ggX4_goes_X4_cellOf
theorem dX4_goes_0 : decode cX4_goes 0 = .ok (.aload_n 0, 1) := by decide +kernel
theorem dX4_goes_1 : decode cX4_goes 1 = .ok (.getfield 7, 3) := by decide +kernel
theorem dX4_goes_4 : decode cX4_goes 4 = .ok (.bipush 13, 2) := by decide +kernel
theorem dX4_goes_6 : decode cX4_goes 6 = .ok (.iload_n 1, 1) := by decide +kernel
theorem dX4_goes_7 : decode cX4_goes 7 = .ok (.iadd, 1) := by decide +kernel
theorem dX4_goes_8 : decode cX4_goes 8 = .ok (.iaload, 1) := by decide +kernel
theorem dX4_goes_9 : decode cX4_goes 9 = .ok (.iconst 1, 1) := by decide +kernel
theorem dX4_goes_10 : decode cX4_goes 10 = .ok (.if_icmp .eq 19, 3) := by decide +kernel
theorem dX4_goes_13 : decode cX4_goes 13 = .ok (.aload_n 0, 1) := by decide +kernel
theorem dX4_goes_14 : decode cX4_goes 14 = .ok (.getfield 7, 3) := by decide +kernel
theorem dX4_goes_17 : decode cX4_goes 17 = .ok (.bipush 69, 2) := by decide +kernel
theorem dX4_goes_19 : decode cX4_goes 19 = .ok (.iload_n 1, 1) := by decide +kernel
theorem dX4_goes_20 : decode cX4_goes 20 = .ok (.iload_n 2, 1) := by decide +kernel
theorem dX4_goes_21 : decode cX4_goes 21 = .ok (.invokestatic 48, 3) := by decide +kernel
theorem dX4_goes_24 : decode cX4_goes 24 = .ok (.iadd, 1) := by decide +kernel
theorem dX4_goes_25 : decode cX4_goes 25 = .ok (.iaload, 1) := by decide +kernel
theorem dX4_goes_26 : decode cX4_goes 26 = .ok (.ifCond .le 7, 3) := by decide +kernel
theorem dX4_goes_29 : decode cX4_goes 29 = .ok (.iconst 1, 1) := by decide +kernel
theorem dX4_goes_30 : decode cX4_goes 30 = .ok (.goto 4, 3) := by decide +kernel
theorem dX4_goes_33 : decode cX4_goes 33 = .ok (.iconst 0, 1) := by decide +kernel
theorem dX4_goes_34 : decode cX4_goes 34 = .ok (.ireturn, 1) := by decide +kernel
set_option maxRecDepth 20000 in
theorem ggX4_wants_X4_cellOf : GoodIn wsX4_wants wsX4_cellOf := goodIn_r _ [5] (by decide +kernel) (by decide +kernel)
set_option maxRecDepth 20000 in
theorem gX4_wants_X4_cellOf : GoodIn wsX4_wants (va_wsS RX4 48 yX4_cellOf wsX4_cellOf) := goodIn_app (goodIn_of _ (by decide +kernel)) ggX4_wants_X4_cellOf
theorem dX4_wants_0 : decode cX4_wants 0 = .ok (.aload_n 0, 1) := by decide +kernel
theorem dX4_wants_1 : decode cX4_wants 1 = .ok (.getfield 7, 3) := by decide +kernel
theorem dX4_wants_4 : decode cX4_wants 4 = .ok (.bipush 21, 2) := by decide +kernel
theorem dX4_wants_6 : decode cX4_wants 6 = .ok (.iload_n 1, 1) := by decide +kernel
theorem dX4_wants_7 : decode cX4_wants 7 = .ok (.iload_n 2, 1) := by decide +kernel
theorem dX4_wants_8 : decode cX4_wants 8 = .ok (.invokestatic 48, 3) := by decide +kernel
theorem dX4_wants_11 : decode cX4_wants 11 = .ok (.iadd, 1) := by decide +kernel
theorem dX4_wants_12 : decode cX4_wants 12 = .ok (.iaload, 1) := by decide +kernel
theorem dX4_wants_13 : decode cX4_wants 13 = .ok (.ifCond .le 7, 3) := by decide +kernel
theorem dX4_wants_16 : decode cX4_wants 16 = .ok (.iconst 1, 1) := by decide +kernel
theorem dX4_wants_17 : decode cX4_wants 17 = .ok (.goto 4, 3) := by decide +kernel
theorem dX4_wants_20 : decode cX4_wants 20 = .ok (.iconst 0, 1) := by decide +kernel
theorem dX4_wants_21 : decode cX4_wants 21 = .ok (.ireturn, 1) := by decide +kernel
set_option maxRecDepth 20000 in
theorem ggX4_rowsOf_X4_goes : GoodIn wsX4_rowsOf wsX4_goes := goodIn_r _ [5, 6, 7, 8, 4, 9, 10, 11, 12, 13, 14, 15, 16, 17, 18, 19, 20, 21] (by decide +kernel) (by decide +kernel)
set_option maxRecDepth 20000 in
theorem gX4_rowsOf_X4_goes : GoodIn wsX4_rowsOf (wsV RX4 72 RX4 yX4_goes wsX4_goes) := goodIn_app (goodIn_of _ (by decide +kernel)) ggX4_rowsOf_X4_goes
theorem dX4_rowsOf_0 : decode cX4_rowsOf 0 = .ok (.iconst 0, 1) := by decide +kernel
theorem dX4_rowsOf_1 : decode cX4_rowsOf 1 = .ok (.istore_n 2, 1) := by decide +kernel
theorem dX4_rowsOf_2 : decode cX4_rowsOf 2 = .ok (.iconst 0, 1) := by decide +kernel
theorem dX4_rowsOf_3 : decode cX4_rowsOf 3 = .ok (.istore_n 3, 1) := by decide +kernel
theorem dX4_rowsOf_4 : decode cX4_rowsOf 4 = .ok (.iload_n 3, 1) := by decide +kernel
theorem dX4_rowsOf_5 : decode cX4_rowsOf 5 = .ok (.bipush 8, 2) := by decide +kernel
theorem dX4_rowsOf_7 : decode cX4_rowsOf 7 = .ok (.if_icmp .ge 28, 3) := by decide +kernel
theorem dX4_rowsOf_10 : decode cX4_rowsOf 10 = .ok (.iload_n 2, 1) := by decide +kernel
theorem dX4_rowsOf_11 : decode cX4_rowsOf 11 = .ok (.aload_n 0, 1) := by decide +kernel
theorem dX4_rowsOf_12 : decode cX4_rowsOf 12 = .ok (.iload_n 3, 1) := by decide +kernel
theorem dX4_rowsOf_13 : decode cX4_rowsOf 13 = .ok (.iload_n 1, 1) := by decide +kernel
theorem dX4_rowsOf_14 : decode cX4_rowsOf 14 = .ok (.invokevirtual 72, 3) := by decide +kernel
theorem dX4_rowsOf_17 : decode cX4_rowsOf 17 = .ok (.ifCond .eq 9, 3) := by decide +kernel
theorem dX4_rowsOf_20 : decode cX4_rowsOf 20 = .ok (.iconst 1, 1) := by decide +kernel
theorem dX4_rowsOf_21 : decode cX4_rowsOf 21 = .ok (.iload_n 3, 1) := by decide +kernel
theorem dX4_rowsOf_22 : decode cX4_rowsOf 22 = .ok (.ishl, 1) := by decide +kernel
theorem dX4_rowsOf_23 : decode cX4_rowsOf 23 = .ok (.goto 4, 3) := by decide +kernel
theorem dX4_rowsOf_26 : decode cX4_rowsOf 26 = .ok (.iconst 0, 1) := by decide +kernel
theorem dX4_rowsOf_27 : decode cX4_rowsOf 27 = .ok (.ior, 1) := by decide +kernel
theorem dX4_rowsOf_28 : decode cX4_rowsOf 28 = .ok (.istore_n 2, 1) := by decide +kernel
theorem dX4_rowsOf_29 : decode cX4_rowsOf 29 = .ok (.iinc 3 1, 3) := by decide +kernel
theorem dX4_rowsOf_32 : decode cX4_rowsOf 32 = .ok (.goto (-28), 3) := by decide +kernel
theorem dX4_rowsOf_35 : decode cX4_rowsOf 35 = .ok (.iload_n 2, 1) := by decide +kernel
theorem dX4_rowsOf_36 : decode cX4_rowsOf 36 = .ok (.ireturn, 1) := by decide +kernel
set_option maxRecDepth 20000 in
theorem ggX4_wantedOf_X4_wants : GoodIn wsX4_wantedOf wsX4_wants := goodIn_r _ [5, 6, 7, 8, 4, 9, 10, 11, 12, 13, 14, 15, 16, 17, 18, 19, 20, 21] (by decide +kernel) (by decide +kernel)
set_option maxRecDepth 20000 in
theorem gX4_wantedOf_X4_wants : GoodIn wsX4_wantedOf (wsV RX4 75 RX4 yX4_wants wsX4_wants) := goodIn_app (goodIn_of _ (by decide +kernel)) ggX4_wantedOf_X4_wants
theorem dX4_wantedOf_0 : decode cX4_wantedOf 0 = .ok (.iconst 0, 1) := by decide +kernel
theorem dX4_wantedOf_1 : decode cX4_wantedOf 1 = .ok (.istore_n 2, 1) := by decide +kernel
theorem dX4_wantedOf_2 : decode cX4_wantedOf 2 = .ok (.iconst 0, 1) := by decide +kernel
theorem dX4_wantedOf_3 : decode cX4_wantedOf 3 = .ok (.istore_n 3, 1) := by decide +kernel
theorem dX4_wantedOf_4 : decode cX4_wantedOf 4 = .ok (.iload_n 3, 1) := by decide +kernel
theorem dX4_wantedOf_5 : decode cX4_wantedOf 5 = .ok (.bipush 8, 2) := by decide +kernel
theorem dX4_wantedOf_7 : decode cX4_wantedOf 7 = .ok (.if_icmp .ge 28, 3) := by decide +kernel
theorem dX4_wantedOf_10 : decode cX4_wantedOf 10 = .ok (.iload_n 2, 1) := by decide +kernel
theorem dX4_wantedOf_11 : decode cX4_wantedOf 11 = .ok (.aload_n 0, 1) := by decide +kernel
theorem dX4_wantedOf_12 : decode cX4_wantedOf 12 = .ok (.iload_n 3, 1) := by decide +kernel
theorem dX4_wantedOf_13 : decode cX4_wantedOf 13 = .ok (.iload_n 1, 1) := by decide +kernel
theorem dX4_wantedOf_14 : decode cX4_wantedOf 14 = .ok (.invokevirtual 75, 3) := by decide +kernel
theorem dX4_wantedOf_17 : decode cX4_wantedOf 17 = .ok (.ifCond .eq 9, 3) := by decide +kernel
theorem dX4_wantedOf_20 : decode cX4_wantedOf 20 = .ok (.iconst 1, 1) := by decide +kernel
theorem dX4_wantedOf_21 : decode cX4_wantedOf 21 = .ok (.iload_n 3, 1) := by decide +kernel
theorem dX4_wantedOf_22 : decode cX4_wantedOf 22 = .ok (.ishl, 1) := by decide +kernel
theorem dX4_wantedOf_23 : decode cX4_wantedOf 23 = .ok (.goto 4, 3) := by decide +kernel
theorem dX4_wantedOf_26 : decode cX4_wantedOf 26 = .ok (.iconst 0, 1) := by decide +kernel
theorem dX4_wantedOf_27 : decode cX4_wantedOf 27 = .ok (.ior, 1) := by decide +kernel
theorem dX4_wantedOf_28 : decode cX4_wantedOf 28 = .ok (.istore_n 2, 1) := by decide +kernel
theorem dX4_wantedOf_29 : decode cX4_wantedOf 29 = .ok (.iinc 3 1, 3) := by decide +kernel
theorem dX4_wantedOf_32 : decode cX4_wantedOf 32 = .ok (.goto (-28), 3) := by decide +kernel
theorem dX4_wantedOf_35 : decode cX4_wantedOf 35 = .ok (.iload_n 2, 1) := by decide +kernel
theorem dX4_wantedOf_36 : decode cX4_wantedOf 36 = .ok (.ireturn, 1) := by decide +kernel
set_option maxRecDepth 20000 in
theorem ggX4_rows_X4_isConcert : GoodIn wsX4_rows wsX4_isConcert := goodIn_r _ [5, 6, 7, 4, 8] (by decide +kernel) (by decide +kernel)
set_option maxRecDepth 20000 in
theorem gX4_rows_X4_isConcert : GoodIn wsX4_rows (va_wsS RX4 78 yX4_isConcert wsX4_isConcert) := goodIn_app (goodIn_of _ (by decide +kernel)) ggX4_rows_X4_isConcert
set_option maxRecDepth 20000 in
theorem ggX4_rows_X4_rowsOf : GoodIn wsX4_rows wsX4_rowsOf := goodIn_r _ [12, 13, 14, 15, 4, 16, 17, 18, 19, 20, 25, 26, 27, 28, 29, 30, 31, 32, 33, 34, 35, 36] (by decide +kernel) (by decide +kernel)
set_option maxRecDepth 20000 in
theorem gX4_rows_X4_rowsOf : GoodIn wsX4_rows (wsV RX4 82 RX4 yX4_rowsOf wsX4_rowsOf) := goodIn_app (goodIn_of _ (by decide +kernel)) ggX4_rows_X4_rowsOf
set_option maxRecDepth 20000 in
theorem ggX4_rows_X4_fails : GoodIn wsX4_rows wsX4_fails := goodIn_r _ [24, 1, 25, 26, 27, 28, 29, 30, 31, 32, 33, 34, 35, 36] (by decide +kernel) (by decide +kernel)
set_option maxRecDepth 20000 in
theorem gX4_rows_X4_fails : GoodIn wsX4_rows (wsV RX4 44 RX4 yX4_fails wsX4_fails) := goodIn_app (goodIn_of _ (by decide +kernel)) ggX4_rows_X4_fails
theorem dX4_rows_0 : decode cX4_rows 0 = .ok (.aload_n 0, 1) := by decide +kernel
theorem dX4_rows_1 : decode cX4_rows 1 = .ok (.iconst 0, 1) := by decide +kernel
theorem dX4_rows_2 : decode cX4_rows 2 = .ok (.putfield 25, 3) := by decide +kernel
theorem dX4_rows_5 : decode cX4_rows 5 = .ok (.iload_n 1, 1) := by decide +kernel
theorem dX4_rows_6 : decode cX4_rows 6 = .ok (.invokestatic 78, 3) := by decide +kernel
theorem dX4_rows_9 : decode cX4_rows 9 = .ok (.ifCond .eq 11, 3) := by decide +kernel
theorem dX4_rows_12 : decode cX4_rows 12 = .ok (.aload_n 0, 1) := by decide +kernel
theorem dX4_rows_13 : decode cX4_rows 13 = .ok (.iload_n 1, 1) := by decide +kernel
theorem dX4_rows_14 : decode cX4_rows 14 = .ok (.invokevirtual 82, 3) := by decide +kernel
theorem dX4_rows_17 : decode cX4_rows 17 = .ok (.goto 8, 3) := by decide +kernel
theorem dX4_rows_20 : decode cX4_rows 20 = .ok (.aload_n 0, 1) := by decide +kernel
theorem dX4_rows_21 : decode cX4_rows 21 = .ok (.iconst 1, 1) := by decide +kernel
theorem dX4_rows_22 : decode cX4_rows 22 = .ok (.invokevirtual 44, 3) := by decide +kernel
theorem dX4_rows_25 : decode cX4_rows 25 = .ok (.ireturn, 1) := by decide +kernel
set_option maxRecDepth 20000 in
theorem ggX4_wanted_X4_isConcert : GoodIn wsX4_wanted wsX4_isConcert := goodIn_r _ [5, 6, 7, 4, 8] (by decide +kernel) (by decide +kernel)
set_option maxRecDepth 20000 in
theorem gX4_wanted_X4_isConcert : GoodIn wsX4_wanted (va_wsS RX4 78 yX4_isConcert wsX4_isConcert) := goodIn_app (goodIn_of _ (by decide +kernel)) ggX4_wanted_X4_isConcert
set_option maxRecDepth 20000 in
theorem ggX4_wanted_X4_wantedOf : GoodIn wsX4_wanted wsX4_wantedOf := goodIn_r _ [12, 13, 14, 15, 4, 16, 17, 18, 19, 20, 25, 26, 27, 28, 29, 30, 31, 32, 33, 34, 35, 36] (by decide +kernel) (by decide +kernel)
set_option maxRecDepth 20000 in
theorem gX4_wanted_X4_wantedOf : GoodIn wsX4_wanted (wsV RX4 85 RX4 yX4_wantedOf wsX4_wantedOf) := goodIn_app (goodIn_of _ (by decide +kernel)) ggX4_wanted_X4_wantedOf
set_option maxRecDepth 20000 in
theorem ggX4_wanted_X4_fails : GoodIn wsX4_wanted wsX4_fails := goodIn_r _ [24, 1, 25, 26, 27, 28, 29, 30, 31, 32, 33, 34, 35, 36] (by decide +kernel) (by decide +kernel)
set_option maxRecDepth 20000 in
theorem gX4_wanted_X4_fails : GoodIn wsX4_wanted (wsV RX4 44 RX4 yX4_fails wsX4_fails) := goodIn_app (goodIn_of _ (by decide +kernel)) ggX4_wanted_X4_fails
theorem dX4_wanted_0 : decode cX4_wanted 0 = .ok (.aload_n 0, 1) := by decide +kernel
theorem dX4_wanted_1 : decode cX4_wanted 1 = .ok (.iconst 0, 1) := by decide +kernel
theorem dX4_wanted_2 : decode cX4_wanted 2 = .ok (.putfield 25, 3) := by decide +kernel
theorem dX4_wanted_5 : decode cX4_wanted 5 = .ok (.iload_n 1, 1) := by decide +kernel
theorem dX4_wanted_6 : decode cX4_wanted 6 = .ok (.invokestatic 78, 3) := by decide +kernel
theorem dX4_wanted_9 : decode cX4_wanted 9 = .ok (.ifCond .eq 11, 3) := by decide +kernel
theorem dX4_wanted_12 : decode cX4_wanted 12 = .ok (.aload_n 0, 1) := by decide +kernel
theorem dX4_wanted_13 : decode cX4_wanted 13 = .ok (.iload_n 1, 1) := by decide +kernel
theorem dX4_wanted_14 : decode cX4_wanted 14 = .ok (.invokevirtual 85, 3) := by decide +kernel
theorem dX4_wanted_17 : decode cX4_wanted 17 = .ok (.goto 8, 3) := by decide +kernel
theorem dX4_wanted_20 : decode cX4_wanted 20 = .ok (.aload_n 0, 1) := by decide +kernel
theorem dX4_wanted_21 : decode cX4_wanted 21 = .ok (.iconst 1, 1) := by decide +kernel
theorem dX4_wanted_22 : decode cX4_wanted 22 = .ok (.invokevirtual 44, 3) := by decide +kernel
theorem dX4_wanted_25 : decode cX4_wanted 25 = .ok (.ireturn, 1) := by decide +kernel
set_option maxRecDepth 20000 in
theorem ggX4_due_X4_chiefNow : GoodIn wsX4_due wsX4_chiefNow := goodIn_r _ [6, 1, 7, 8, 9, 10, 11, 12, 13, 14, 15, 16, 17, 18] (by decide +kernel) (by decide +kernel)
set_option maxRecDepth 20000 in
theorem gX4_due_X4_chiefNow : GoodIn wsX4_due (wsV RX4 65 RX4 yX4_chiefNow wsX4_chiefNow) := goodIn_app (goodIn_of _ (by decide +kernel)) ggX4_due_X4_chiefNow
theorem dX4_due_0 : decode cX4_due 0 = .ok (.aload_n 0, 1) := by decide +kernel
theorem dX4_due_1 : decode cX4_due 1 = .ok (.invokevirtual 65, 3) := by decide +kernel
theorem dX4_due_4 : decode cX4_due 4 = .ok (.ifCond .ne 12, 3) := by decide +kernel
theorem dX4_due_7 : decode cX4_due 7 = .ok (.aload_n 0, 1) := by decide +kernel
theorem dX4_due_8 : decode cX4_due 8 = .ok (.getfield 7, 3) := by decide +kernel
theorem dX4_due_11 : decode cX4_due 11 = .ok (.iconst 2, 1) := by decide +kernel
theorem dX4_due_12 : decode cX4_due 12 = .ok (.iaload, 1) := by decide +kernel
theorem dX4_due_13 : decode cX4_due 13 = .ok (.goto 11, 3) := by decide +kernel
theorem dX4_due_16 : decode cX4_due 16 = .ok (.iconst 2, 1) := by decide +kernel
theorem dX4_due_17 : decode cX4_due 17 = .ok (.aload_n 0, 1) := by decide +kernel
theorem dX4_due_18 : decode cX4_due 18 = .ok (.getfield 7, 3) := by decide +kernel
theorem dX4_due_21 : decode cX4_due 21 = .ok (.iconst 2, 1) := by decide +kernel
theorem dX4_due_22 : decode cX4_due 22 = .ok (.iaload, 1) := by decide +kernel
theorem dX4_due_23 : decode cX4_due 23 = .ok (.imul, 1) := by decide +kernel
theorem dX4_due_24 : decode cX4_due 24 = .ok (.ireturn, 1) := by decide +kernel
set_option maxRecDepth 20000 in
theorem ggX4_goesBy_X4_due : GoodIn wsX4_goesBy wsX4_due := goodIn_r _ [6, 1, 7, 8, 9, 5, 10, 15, 16, 17, 18, 19, 20, 21, 22, 23, 24, 25, 26] (by decide +kernel) (by decide +kernel)
set_option maxRecDepth 20000 in
theorem gX4_goesBy_X4_due : GoodIn wsX4_goesBy (wsV RX4 88 RX4 yX4_due wsX4_due) := goodIn_app (goodIn_of _ (by decide +kernel)) ggX4_goesBy_X4_due
set_option maxRecDepth 20000 in
theorem ggX4_goesBy_X4_calls : GoodIn wsX4_goesBy wsX4_calls := goodIn_r _ [14, 1, 15, 16, 17, 18, 19, 20, 21, 22, 23, 24, 25, 26] (by decide +kernel) (by decide +kernel)
set_option maxRecDepth 20000 in
theorem gX4_goesBy_X4_calls : GoodIn wsX4_goesBy (wsV RX4 36 RX4 yX4_calls wsX4_calls) := goodIn_app (goodIn_of _ (by decide +kernel)) ggX4_goesBy_X4_calls
theorem dX4_goesBy_0 : decode cX4_goesBy 0 = .ok (.iconst 0, 1) := by decide +kernel
theorem dX4_goesBy_1 : decode cX4_goesBy 1 = .ok (.istore_n 1, 1) := by decide +kernel
theorem dX4_goesBy_2 : decode cX4_goesBy 2 = .ok (.iload_n 1, 1) := by decide +kernel
theorem dX4_goesBy_3 : decode cX4_goesBy 3 = .ok (.bipush 48, 2) := by decide +kernel
theorem dX4_goesBy_5 : decode cX4_goesBy 5 = .ok (.if_icmp .ge 38, 3) := by decide +kernel
theorem dX4_goesBy_8 : decode cX4_goesBy 8 = .ok (.aload_n 0, 1) := by decide +kernel
theorem dX4_goesBy_9 : decode cX4_goesBy 9 = .ok (.getfield 7, 3) := by decide +kernel
theorem dX4_goesBy_12 : decode cX4_goesBy 12 = .ok (.bipush 69, 2) := by decide +kernel
theorem dX4_goesBy_14 : decode cX4_goesBy 14 = .ok (.iload_n 1, 1) := by decide +kernel
theorem dX4_goesBy_15 : decode cX4_goesBy 15 = .ok (.iadd, 1) := by decide +kernel
theorem dX4_goesBy_16 : decode cX4_goesBy 16 = .ok (.dup2, 1) := by decide +kernel
theorem dX4_goesBy_17 : decode cX4_goesBy 17 = .ok (.iaload, 1) := by decide +kernel
theorem dX4_goesBy_18 : decode cX4_goesBy 18 = .ok (.aload_n 0, 1) := by decide +kernel
theorem dX4_goesBy_19 : decode cX4_goesBy 19 = .ok (.getfield 7, 3) := by decide +kernel
theorem dX4_goesBy_22 : decode cX4_goesBy 22 = .ok (.bipush 69, 2) := by decide +kernel
theorem dX4_goesBy_24 : decode cX4_goesBy 24 = .ok (.iload_n 1, 1) := by decide +kernel
theorem dX4_goesBy_25 : decode cX4_goesBy 25 = .ok (.iadd, 1) := by decide +kernel
theorem dX4_goesBy_26 : decode cX4_goesBy 26 = .ok (.iaload, 1) := by decide +kernel
theorem dX4_goesBy_27 : decode cX4_goesBy 27 = .ok (.ifCond .le 7, 3) := by decide +kernel
theorem dX4_goesBy_30 : decode cX4_goesBy 30 = .ok (.iconst 1, 1) := by decide +kernel
theorem dX4_goesBy_31 : decode cX4_goesBy 31 = .ok (.goto 4, 3) := by decide +kernel
theorem dX4_goesBy_34 : decode cX4_goesBy 34 = .ok (.iconst 0, 1) := by decide +kernel
theorem dX4_goesBy_35 : decode cX4_goesBy 35 = .ok (.isub, 1) := by decide +kernel
theorem dX4_goesBy_36 : decode cX4_goesBy 36 = .ok (.iastore, 1) := by decide +kernel
theorem dX4_goesBy_37 : decode cX4_goesBy 37 = .ok (.iinc 1 1, 3) := by decide +kernel
theorem dX4_goesBy_40 : decode cX4_goesBy 40 = .ok (.goto (-38), 3) := by decide +kernel
theorem dX4_goesBy_43 : decode cX4_goesBy 43 = .ok (.aload_n 0, 1) := by decide +kernel
theorem dX4_goesBy_44 : decode cX4_goesBy 44 = .ok (.getfield 7, 3) := by decide +kernel
theorem dX4_goesBy_47 : decode cX4_goesBy 47 = .ok (.iconst 5, 1) := by decide +kernel
theorem dX4_goesBy_48 : decode cX4_goesBy 48 = .ok (.dup2, 1) := by decide +kernel
theorem dX4_goesBy_49 : decode cX4_goesBy 49 = .ok (.iaload, 1) := by decide +kernel
theorem dX4_goesBy_50 : decode cX4_goesBy 50 = .ok (.iconst 1, 1) := by decide +kernel
theorem dX4_goesBy_51 : decode cX4_goesBy 51 = .ok (.iadd, 1) := by decide +kernel
theorem dX4_goesBy_52 : decode cX4_goesBy 52 = .ok (.iastore, 1) := by decide +kernel
theorem dX4_goesBy_53 : decode cX4_goesBy 53 = .ok (.aload_n 0, 1) := by decide +kernel
theorem dX4_goesBy_54 : decode cX4_goesBy 54 = .ok (.getfield 7, 3) := by decide +kernel
theorem dX4_goesBy_57 : decode cX4_goesBy 57 = .ok (.bipush 6, 2) := by decide +kernel
theorem dX4_goesBy_59 : decode cX4_goesBy 59 = .ok (.dup2, 1) := by decide +kernel
theorem dX4_goesBy_60 : decode cX4_goesBy 60 = .ok (.iaload, 1) := by decide +kernel
theorem dX4_goesBy_61 : decode cX4_goesBy 61 = .ok (.iconst 1, 1) := by decide +kernel
theorem dX4_goesBy_62 : decode cX4_goesBy 62 = .ok (.iadd, 1) := by decide +kernel
theorem dX4_goesBy_63 : decode cX4_goesBy 63 = .ok (.iastore, 1) := by decide +kernel
theorem dX4_goesBy_64 : decode cX4_goesBy 64 = .ok (.aload_n 0, 1) := by decide +kernel
theorem dX4_goesBy_65 : decode cX4_goesBy 65 = .ok (.getfield 7, 3) := by decide +kernel
theorem dX4_goesBy_68 : decode cX4_goesBy 68 = .ok (.bipush 6, 2) := by decide +kernel
theorem dX4_goesBy_70 : decode cX4_goesBy 70 = .ok (.iaload, 1) := by decide +kernel
theorem dX4_goesBy_71 : decode cX4_goesBy 71 = .ok (.aload_n 0, 1) := by decide +kernel
theorem dX4_goesBy_72 : decode cX4_goesBy 72 = .ok (.invokevirtual 88, 3) := by decide +kernel
theorem dX4_goesBy_75 : decode cX4_goesBy 75 = .ok (.if_icmp .lt 7, 3) := by decide +kernel
theorem dX4_goesBy_78 : decode cX4_goesBy 78 = .ok (.iconst 1, 1) := by decide +kernel
theorem dX4_goesBy_79 : decode cX4_goesBy 79 = .ok (.goto 4, 3) := by decide +kernel
theorem dX4_goesBy_82 : decode cX4_goesBy 82 = .ok (.iconst 0, 1) := by decide +kernel
theorem dX4_goesBy_83 : decode cX4_goesBy 83 = .ok (.istore_n 1, 1) := by decide +kernel
theorem dX4_goesBy_84 : decode cX4_goesBy 84 = .ok (.iload_n 1, 1) := by decide +kernel
theorem dX4_goesBy_85 : decode cX4_goesBy 85 = .ok (.ifCond .eq 53, 3) := by decide +kernel
theorem dX4_goesBy_88 : decode cX4_goesBy 88 = .ok (.aload_n 0, 1) := by decide +kernel
theorem dX4_goesBy_89 : decode cX4_goesBy 89 = .ok (.getfield 7, 3) := by decide +kernel
theorem dX4_goesBy_92 : decode cX4_goesBy 92 = .ok (.bipush 6, 2) := by decide +kernel
theorem dX4_goesBy_94 : decode cX4_goesBy 94 = .ok (.iconst 0, 1) := by decide +kernel
theorem dX4_goesBy_95 : decode cX4_goesBy 95 = .ok (.iastore, 1) := by decide +kernel
theorem dX4_goesBy_96 : decode cX4_goesBy 96 = .ok (.aload_n 0, 1) := by decide +kernel
theorem dX4_goesBy_97 : decode cX4_goesBy 97 = .ok (.getfield 7, 3) := by decide +kernel
theorem dX4_goesBy_100 : decode cX4_goesBy 100 = .ok (.bipush 10, 2) := by decide +kernel
theorem dX4_goesBy_102 : decode cX4_goesBy 102 = .ok (.dup2, 1) := by decide +kernel
theorem dX4_goesBy_103 : decode cX4_goesBy 103 = .ok (.iaload, 1) := by decide +kernel
theorem dX4_goesBy_104 : decode cX4_goesBy 104 = .ok (.iconst 1, 1) := by decide +kernel
theorem dX4_goesBy_105 : decode cX4_goesBy 105 = .ok (.iadd, 1) := by decide +kernel
theorem dX4_goesBy_106 : decode cX4_goesBy 106 = .ok (.iastore, 1) := by decide +kernel
theorem dX4_goesBy_107 : decode cX4_goesBy 107 = .ok (.iconst 0, 1) := by decide +kernel
theorem dX4_goesBy_108 : decode cX4_goesBy 108 = .ok (.istore_n 2, 1) := by decide +kernel
theorem dX4_goesBy_109 : decode cX4_goesBy 109 = .ok (.iload_n 2, 1) := by decide +kernel
theorem dX4_goesBy_110 : decode cX4_goesBy 110 = .ok (.bipush 48, 2) := by decide +kernel
theorem dX4_goesBy_112 : decode cX4_goesBy 112 = .ok (.if_icmp .ge 26, 3) := by decide +kernel
theorem dX4_goesBy_115 : decode cX4_goesBy 115 = .ok (.aload_n 0, 1) := by decide +kernel
theorem dX4_goesBy_116 : decode cX4_goesBy 116 = .ok (.getfield 7, 3) := by decide +kernel
theorem dX4_goesBy_119 : decode cX4_goesBy 119 = .ok (.bipush 21, 2) := by decide +kernel
theorem dX4_goesBy_121 : decode cX4_goesBy 121 = .ok (.iload_n 2, 1) := by decide +kernel
theorem dX4_goesBy_122 : decode cX4_goesBy 122 = .ok (.iadd, 1) := by decide +kernel
theorem dX4_goesBy_123 : decode cX4_goesBy 123 = .ok (.iaload, 1) := by decide +kernel
theorem dX4_goesBy_124 : decode cX4_goesBy 124 = .ok (.ifCond .le 8, 3) := by decide +kernel
theorem dX4_goesBy_127 : decode cX4_goesBy 127 = .ok (.aload_n 0, 1) := by decide +kernel
theorem dX4_goesBy_128 : decode cX4_goesBy 128 = .ok (.iload_n 2, 1) := by decide +kernel
theorem dX4_goesBy_129 : decode cX4_goesBy 129 = .ok (.invokevirtual 36, 3) := by decide +kernel
theorem dX4_goesBy_132 : decode cX4_goesBy 132 = .ok (.iinc 2 1, 3) := by decide +kernel
theorem dX4_goesBy_135 : decode cX4_goesBy 135 = .ok (.goto (-26), 3) := by decide +kernel
theorem dX4_goesBy_138 : decode cX4_goesBy 138 = .ok (.iload_n 1, 1) := by decide +kernel
theorem dX4_goesBy_139 : decode cX4_goesBy 139 = .ok (.ireturn, 1) := by decide +kernel
set_option maxRecDepth 20000 in
theorem ggX4_passes_X4_goesBy : GoodIn wsX4_passes wsX4_goesBy := goodIn_r _ [5, 6, 7, 8, 9, 4, 10, 11, 12, 13, 14, 15, 16, 17, 18, 19, 20, 21, 22, 23, 24, 25, 26, 27, 28, 29, 30] (by decide +kernel) (by decide +kernel)
set_option maxRecDepth 20000 in
theorem gX4_passes_X4_goesBy : GoodIn wsX4_passes (wsV RX4 91 RX4 yX4_goesBy wsX4_goesBy) := goodIn_app (goodIn_of _ (by decide +kernel)) ggX4_passes_X4_goesBy
theorem dX4_passes_0 : decode cX4_passes 0 = .ok (.iconst 0, 1) := by decide +kernel
theorem dX4_passes_1 : decode cX4_passes 1 = .ok (.istore_n 2, 1) := by decide +kernel
theorem dX4_passes_2 : decode cX4_passes 2 = .ok (.iconst 0, 1) := by decide +kernel
theorem dX4_passes_3 : decode cX4_passes 3 = .ok (.istore_n 3, 1) := by decide +kernel
theorem dX4_passes_4 : decode cX4_passes 4 = .ok (.iload_n 3, 1) := by decide +kernel
theorem dX4_passes_5 : decode cX4_passes 5 = .ok (.iload_n 1, 1) := by decide +kernel
theorem dX4_passes_6 : decode cX4_passes 6 = .ok (.if_icmp .ge 24, 3) := by decide +kernel
theorem dX4_passes_9 : decode cX4_passes 9 = .ok (.iload_n 2, 1) := by decide +kernel
theorem dX4_passes_10 : decode cX4_passes 10 = .ok (.aload_n 0, 1) := by decide +kernel
theorem dX4_passes_11 : decode cX4_passes 11 = .ok (.invokevirtual 91, 3) := by decide +kernel
theorem dX4_passes_14 : decode cX4_passes 14 = .ok (.ifCond .eq 7, 3) := by decide +kernel
theorem dX4_passes_17 : decode cX4_passes 17 = .ok (.iconst 1, 1) := by decide +kernel
theorem dX4_passes_18 : decode cX4_passes 18 = .ok (.goto 4, 3) := by decide +kernel
theorem dX4_passes_21 : decode cX4_passes 21 = .ok (.iconst 0, 1) := by decide +kernel
theorem dX4_passes_22 : decode cX4_passes 22 = .ok (.iadd, 1) := by decide +kernel
theorem dX4_passes_23 : decode cX4_passes 23 = .ok (.istore_n 2, 1) := by decide +kernel
theorem dX4_passes_24 : decode cX4_passes 24 = .ok (.iinc 3 1, 3) := by decide +kernel
theorem dX4_passes_27 : decode cX4_passes 27 = .ok (.goto (-23), 3) := by decide +kernel
theorem dX4_passes_30 : decode cX4_passes 30 = .ok (.iload_n 2, 1) := by decide +kernel
theorem dX4_passes_31 : decode cX4_passes 31 = .ok (.ireturn, 1) := by decide +kernel
set_option maxRecDepth 20000 in
theorem ggX4_pass_X4_in : GoodIn wsX4_pass wsX4_in := goodIn_r _ [5] (by decide +kernel) (by decide +kernel)
set_option maxRecDepth 20000 in
theorem gX4_pass_X4_in : GoodIn wsX4_pass (va_wsS RX4 29 yX4_in wsX4_in) := goodIn_app (goodIn_of _ (by decide +kernel)) ggX4_pass_X4_in
set_option maxRecDepth 20000 in
theorem ggX4_pass_X4_fails : GoodIn wsX4_pass wsX4_fails := goodIn_r _ [9, 1, 37, 38, 39, 40, 41, 42, 43, 44, 45, 46, 47, 48] (by decide +kernel) (by decide +kernel)
set_option maxRecDepth 20000 in
theorem gX4_pass_X4_fails : GoodIn wsX4_pass (wsV RX4 44 RX4 yX4_fails wsX4_fails) := goodIn_app (goodIn_of _ (by decide +kernel)) ggX4_pass_X4_fails
set_option maxRecDepth 20000 in
theorem ggX4_pass_X4_saves : GoodIn wsX4_pass wsX4_saves := goodIn_r _ [13, 14, 15, 16, 37, 38, 39, 40, 41, 42, 43, 44, 45, 46, 47, 48] (by decide +kernel) (by decide +kernel)
set_option maxRecDepth 20000 in
theorem gX4_pass_X4_saves : GoodIn wsX4_pass (wsV RX4 52 RX4 yX4_saves wsX4_saves) := goodIn_app (goodIn_of _ (by decide +kernel)) ggX4_pass_X4_saves
set_option maxRecDepth 20000 in
theorem ggX4_pass_X4_passes : GoodIn wsX4_pass wsX4_passes := goodIn_r _ [20, 21, 22, 23, 4, 24, 16, 25, 26, 27, 28, 29, 30, 31, 32, 33, 34, 35, 36, 37, 38, 39, 40, 41, 42, 43, 44, 45, 46, 47, 48] (by decide +kernel) (by decide +kernel)
set_option maxRecDepth 20000 in
theorem gX4_pass_X4_passes : GoodIn wsX4_pass (wsV RX4 95 RX4 yX4_passes wsX4_passes) := goodIn_app (goodIn_of _ (by decide +kernel)) ggX4_pass_X4_passes
theorem dX4_pass_0 : decode cX4_pass 0 = .ok (.aload_n 0, 1) := by decide +kernel
theorem dX4_pass_1 : decode cX4_pass 1 = .ok (.iconst 0, 1) := by decide +kernel
theorem dX4_pass_2 : decode cX4_pass 2 = .ok (.putfield 25, 3) := by decide +kernel
theorem dX4_pass_5 : decode cX4_pass 5 = .ok (.iload_n 1, 1) := by decide +kernel
theorem dX4_pass_6 : decode cX4_pass 6 = .ok (.iconst 1, 1) := by decide +kernel
theorem dX4_pass_7 : decode cX4_pass 7 = .ok (.bipush 60, 2) := by decide +kernel
theorem dX4_pass_9 : decode cX4_pass 9 = .ok (.invokestatic 29, 3) := by decide +kernel
theorem dX4_pass_12 : decode cX4_pass 12 = .ok (.ifCond .ne 9, 3) := by decide +kernel
theorem dX4_pass_15 : decode cX4_pass 15 = .ok (.aload_n 0, 1) := by decide +kernel
theorem dX4_pass_16 : decode cX4_pass 16 = .ok (.iconst 1, 1) := by decide +kernel
theorem dX4_pass_17 : decode cX4_pass 17 = .ok (.invokevirtual 44, 3) := by decide +kernel
theorem dX4_pass_20 : decode cX4_pass 20 = .ok (.ireturn, 1) := by decide +kernel
theorem dX4_pass_21 : decode cX4_pass 21 = .ok (.aload_n 0, 1) := by decide +kernel
theorem dX4_pass_22 : decode cX4_pass 22 = .ok (.invokevirtual 52, 3) := by decide +kernel
theorem dX4_pass_25 : decode cX4_pass 25 = .ok (.aload_n 0, 1) := by decide +kernel
theorem dX4_pass_26 : decode cX4_pass 26 = .ok (.iload_n 1, 1) := by decide +kernel
theorem dX4_pass_27 : decode cX4_pass 27 = .ok (.invokevirtual 95, 3) := by decide +kernel
theorem dX4_pass_30 : decode cX4_pass 30 = .ok (.ireturn, 1) := by decide +kernel
set_option maxRecDepth 20000 in
theorem ggX4_plays_X4_goes : GoodIn wsX4_plays wsX4_goes := goodIn_r _ [6, 1, 7, 8, 5, 9, 14, 15, 16, 17, 18, 19, 20, 21, 22, 23, 24, 25] (by decide +kernel) (by decide +kernel)
set_option maxRecDepth 20000 in
theorem gX4_plays_X4_goes : GoodIn wsX4_plays (wsV RX4 72 RX4 yX4_goes wsX4_goes) := goodIn_app (goodIn_of _ (by decide +kernel)) ggX4_plays_X4_goes
set_option maxRecDepth 20000 in
theorem ggX4_plays_X4_wants : GoodIn wsX4_plays wsX4_wants := goodIn_r _ [13, 1, 7, 8, 5, 9, 14, 15, 16, 17, 18, 19, 20, 21, 22, 23, 24, 25] (by decide +kernel) (by decide +kernel)
set_option maxRecDepth 20000 in
theorem gX4_plays_X4_wants : GoodIn wsX4_plays (wsV RX4 75 RX4 yX4_wants wsX4_wants) := goodIn_app (goodIn_of _ (by decide +kernel)) ggX4_plays_X4_wants
theorem dX4_plays_0 : decode cX4_plays 0 = .ok (.iconst 0, 1) := by decide +kernel
theorem dX4_plays_1 : decode cX4_plays 1 = .ok (.istore_n 2, 1) := by decide +kernel
theorem dX4_plays_2 : decode cX4_plays 2 = .ok (.iconst 0, 1) := by decide +kernel
theorem dX4_plays_3 : decode cX4_plays 3 = .ok (.istore_n 3, 1) := by decide +kernel
theorem dX4_plays_4 : decode cX4_plays 4 = .ok (.iload_n 3, 1) := by decide +kernel
theorem dX4_plays_5 : decode cX4_plays 5 = .ok (.bipush 8, 2) := by decide +kernel
theorem dX4_plays_7 : decode cX4_plays 7 = .ok (.if_icmp .ge 113, 3) := by decide +kernel
theorem dX4_plays_10 : decode cX4_plays 10 = .ok (.aload_n 0, 1) := by decide +kernel
theorem dX4_plays_11 : decode cX4_plays 11 = .ok (.iload_n 3, 1) := by decide +kernel
theorem dX4_plays_12 : decode cX4_plays 12 = .ok (.iload_n 1, 1) := by decide +kernel
theorem dX4_plays_13 : decode cX4_plays 13 = .ok (.invokevirtual 72, 3) := by decide +kernel
theorem dX4_plays_16 : decode cX4_plays 16 = .ok (.istore 4, 2) := by decide +kernel
theorem dX4_plays_18 : decode cX4_plays 18 = .ok (.aload_n 0, 1) := by decide +kernel
theorem dX4_plays_19 : decode cX4_plays 19 = .ok (.iload_n 3, 1) := by decide +kernel
theorem dX4_plays_20 : decode cX4_plays 20 = .ok (.iload_n 1, 1) := by decide +kernel
theorem dX4_plays_21 : decode cX4_plays 21 = .ok (.invokevirtual 75, 3) := by decide +kernel
theorem dX4_plays_24 : decode cX4_plays 24 = .ok (.istore 5, 2) := by decide +kernel
theorem dX4_plays_26 : decode cX4_plays 26 = .ok (.aload_n 0, 1) := by decide +kernel
theorem dX4_plays_27 : decode cX4_plays 27 = .ok (.getfield 7, 3) := by decide +kernel
theorem dX4_plays_30 : decode cX4_plays 30 = .ok (.bipush 7, 2) := by decide +kernel
theorem dX4_plays_32 : decode cX4_plays 32 = .ok (.dup2, 1) := by decide +kernel
theorem dX4_plays_33 : decode cX4_plays 33 = .ok (.iaload, 1) := by decide +kernel
theorem dX4_plays_34 : decode cX4_plays 34 = .ok (.iload 4, 2) := by decide +kernel
theorem dX4_plays_36 : decode cX4_plays 36 = .ok (.ifCond .eq 12, 3) := by decide +kernel
theorem dX4_plays_39 : decode cX4_plays 39 = .ok (.iload 5, 2) := by decide +kernel
theorem dX4_plays_41 : decode cX4_plays 41 = .ok (.ifCond .eq 7, 3) := by decide +kernel
theorem dX4_plays_44 : decode cX4_plays 44 = .ok (.iconst 1, 1) := by decide +kernel
theorem dX4_plays_45 : decode cX4_plays 45 = .ok (.goto 4, 3) := by decide +kernel
theorem dX4_plays_48 : decode cX4_plays 48 = .ok (.iconst 0, 1) := by decide +kernel
theorem dX4_plays_49 : decode cX4_plays 49 = .ok (.iadd, 1) := by decide +kernel
theorem dX4_plays_50 : decode cX4_plays 50 = .ok (.iastore, 1) := by decide +kernel
theorem dX4_plays_51 : decode cX4_plays 51 = .ok (.aload_n 0, 1) := by decide +kernel
theorem dX4_plays_52 : decode cX4_plays 52 = .ok (.getfield 7, 3) := by decide +kernel
theorem dX4_plays_55 : decode cX4_plays 55 = .ok (.bipush 8, 2) := by decide +kernel
theorem dX4_plays_57 : decode cX4_plays 57 = .ok (.dup2, 1) := by decide +kernel
theorem dX4_plays_58 : decode cX4_plays 58 = .ok (.iaload, 1) := by decide +kernel
theorem dX4_plays_59 : decode cX4_plays 59 = .ok (.iload 4, 2) := by decide +kernel
theorem dX4_plays_61 : decode cX4_plays 61 = .ok (.ifCond .eq 12, 3) := by decide +kernel
theorem dX4_plays_64 : decode cX4_plays 64 = .ok (.iload 5, 2) := by decide +kernel
theorem dX4_plays_66 : decode cX4_plays 66 = .ok (.ifCond .ne 7, 3) := by decide +kernel
theorem dX4_plays_69 : decode cX4_plays 69 = .ok (.iconst 1, 1) := by decide +kernel
theorem dX4_plays_70 : decode cX4_plays 70 = .ok (.goto 4, 3) := by decide +kernel
theorem dX4_plays_73 : decode cX4_plays 73 = .ok (.iconst 0, 1) := by decide +kernel
theorem dX4_plays_74 : decode cX4_plays 74 = .ok (.iadd, 1) := by decide +kernel
theorem dX4_plays_75 : decode cX4_plays 75 = .ok (.iastore, 1) := by decide +kernel
theorem dX4_plays_76 : decode cX4_plays 76 = .ok (.aload_n 0, 1) := by decide +kernel
theorem dX4_plays_77 : decode cX4_plays 77 = .ok (.getfield 7, 3) := by decide +kernel
theorem dX4_plays_80 : decode cX4_plays 80 = .ok (.bipush 9, 2) := by decide +kernel
theorem dX4_plays_82 : decode cX4_plays 82 = .ok (.dup2, 1) := by decide +kernel
theorem dX4_plays_83 : decode cX4_plays 83 = .ok (.iaload, 1) := by decide +kernel
theorem dX4_plays_84 : decode cX4_plays 84 = .ok (.iload 4, 2) := by decide +kernel
theorem dX4_plays_86 : decode cX4_plays 86 = .ok (.ifCond .ne 12, 3) := by decide +kernel
theorem dX4_plays_89 : decode cX4_plays 89 = .ok (.iload 5, 2) := by decide +kernel
theorem dX4_plays_91 : decode cX4_plays 91 = .ok (.ifCond .eq 7, 3) := by decide +kernel
theorem dX4_plays_94 : decode cX4_plays 94 = .ok (.iconst 1, 1) := by decide +kernel
theorem dX4_plays_95 : decode cX4_plays 95 = .ok (.goto 4, 3) := by decide +kernel
theorem dX4_plays_98 : decode cX4_plays 98 = .ok (.iconst 0, 1) := by decide +kernel
theorem dX4_plays_99 : decode cX4_plays 99 = .ok (.iadd, 1) := by decide +kernel
theorem dX4_plays_100 : decode cX4_plays 100 = .ok (.iastore, 1) := by decide +kernel
theorem dX4_plays_101 : decode cX4_plays 101 = .ok (.iload_n 2, 1) := by decide +kernel
theorem dX4_plays_102 : decode cX4_plays 102 = .ok (.iload 4, 2) := by decide +kernel
theorem dX4_plays_104 : decode cX4_plays 104 = .ok (.ifCond .eq 7, 3) := by decide +kernel
theorem dX4_plays_107 : decode cX4_plays 107 = .ok (.iconst 1, 1) := by decide +kernel
theorem dX4_plays_108 : decode cX4_plays 108 = .ok (.goto 4, 3) := by decide +kernel
theorem dX4_plays_111 : decode cX4_plays 111 = .ok (.iconst 0, 1) := by decide +kernel
theorem dX4_plays_112 : decode cX4_plays 112 = .ok (.iadd, 1) := by decide +kernel
theorem dX4_plays_113 : decode cX4_plays 113 = .ok (.istore_n 2, 1) := by decide +kernel
theorem dX4_plays_114 : decode cX4_plays 114 = .ok (.iinc 3 1, 3) := by decide +kernel
theorem dX4_plays_117 : decode cX4_plays 117 = .ok (.goto (-113), 3) := by decide +kernel
theorem dX4_plays_120 : decode cX4_plays 120 = .ok (.iload_n 2, 1) := by decide +kernel
theorem dX4_plays_121 : decode cX4_plays 121 = .ok (.ireturn, 1) := by decide +kernel
set_option maxRecDepth 20000 in
theorem ggX4_play_X4_isConcert : GoodIn wsX4_play wsX4_isConcert := goodIn_r _ [5, 6, 7, 4, 8] (by decide +kernel) (by decide +kernel)
set_option maxRecDepth 20000 in
theorem gX4_play_X4_isConcert : GoodIn wsX4_play (va_wsS RX4 78 yX4_isConcert wsX4_isConcert) := goodIn_app (goodIn_of _ (by decide +kernel)) ggX4_play_X4_isConcert
set_option maxRecDepth 20000 in
theorem ggX4_play_X4_fails : GoodIn wsX4_play wsX4_fails := goodIn_r _ [12, 1, 35, 36, 37, 38, 39, 40, 41, 42, 43, 44, 45, 46] (by decide +kernel) (by decide +kernel)
set_option maxRecDepth 20000 in
theorem gX4_play_X4_fails : GoodIn wsX4_play (wsV RX4 44 RX4 yX4_fails wsX4_fails) := goodIn_app (goodIn_of _ (by decide +kernel)) ggX4_play_X4_fails
set_option maxRecDepth 20000 in
theorem ggX4_play_X4_saves : GoodIn wsX4_play wsX4_saves := goodIn_r _ [16, 17, 18, 19, 35, 36, 37, 38, 39, 40, 41, 42, 43, 44, 45, 46] (by decide +kernel) (by decide +kernel)
set_option maxRecDepth 20000 in
theorem gX4_play_X4_saves : GoodIn wsX4_play (wsV RX4 52 RX4 yX4_saves wsX4_saves) := goodIn_app (goodIn_of _ (by decide +kernel)) ggX4_play_X4_saves
set_option maxRecDepth 20000 in
theorem ggX4_play_X4_plays : GoodIn wsX4_play wsX4_plays := goodIn_r _ [23, 19, 24, 25, 26, 4, 27, 28, 29, 30, 31, 32, 33, 34, 35, 36, 37, 38, 39, 40, 41, 42, 43, 44, 45, 46] (by decide +kernel) (by decide +kernel)
set_option maxRecDepth 20000 in
theorem gX4_play_X4_plays : GoodIn wsX4_play (wsV RX4 98 RX4 yX4_plays wsX4_plays) := goodIn_app (goodIn_of _ (by decide +kernel)) ggX4_play_X4_plays
theorem dX4_play_0 : decode cX4_play 0 = .ok (.aload_n 0, 1) := by decide +kernel
theorem dX4_play_1 : decode cX4_play 1 = .ok (.iconst 0, 1) := by decide +kernel
theorem dX4_play_2 : decode cX4_play 2 = .ok (.putfield 25, 3) := by decide +kernel
theorem dX4_play_5 : decode cX4_play 5 = .ok (.iload_n 1, 1) := by decide +kernel
theorem dX4_play_6 : decode cX4_play 6 = .ok (.invokestatic 78, 3) := by decide +kernel
theorem dX4_play_9 : decode cX4_play 9 = .ok (.ifCond .ne 9, 3) := by decide +kernel
theorem dX4_play_12 : decode cX4_play 12 = .ok (.aload_n 0, 1) := by decide +kernel
theorem dX4_play_13 : decode cX4_play 13 = .ok (.iconst 1, 1) := by decide +kernel
theorem dX4_play_14 : decode cX4_play 14 = .ok (.invokevirtual 44, 3) := by decide +kernel
theorem dX4_play_17 : decode cX4_play 17 = .ok (.ireturn, 1) := by decide +kernel
theorem dX4_play_18 : decode cX4_play 18 = .ok (.aload_n 0, 1) := by decide +kernel
theorem dX4_play_19 : decode cX4_play 19 = .ok (.invokevirtual 52, 3) := by decide +kernel
theorem dX4_play_22 : decode cX4_play 22 = .ok (.aload_n 0, 1) := by decide +kernel
theorem dX4_play_23 : decode cX4_play 23 = .ok (.iload_n 1, 1) := by decide +kernel
theorem dX4_play_24 : decode cX4_play 24 = .ok (.invokevirtual 98, 3) := by decide +kernel
theorem dX4_play_27 : decode cX4_play 27 = .ok (.ireturn, 1) := by decide +kernel
theorem dX4_minutes_0 : decode cX4_minutes 0 = .ok (.aload_n 0, 1) := by decide +kernel
theorem dX4_minutes_1 : decode cX4_minutes 1 = .ok (.iconst 0, 1) := by decide +kernel
theorem dX4_minutes_2 : decode cX4_minutes 2 = .ok (.putfield 25, 3) := by decide +kernel
theorem dX4_minutes_5 : decode cX4_minutes 5 = .ok (.aload_n 0, 1) := by decide +kernel
theorem dX4_minutes_6 : decode cX4_minutes 6 = .ok (.getfield 7, 3) := by decide +kernel
theorem dX4_minutes_9 : decode cX4_minutes 9 = .ok (.iconst 5, 1) := by decide +kernel
theorem dX4_minutes_10 : decode cX4_minutes 10 = .ok (.iaload, 1) := by decide +kernel
theorem dX4_minutes_11 : decode cX4_minutes 11 = .ok (.ireturn, 1) := by decide +kernel
theorem dX4_sinceQuestion_0 : decode cX4_sinceQuestion 0 = .ok (.aload_n 0, 1) := by decide +kernel
theorem dX4_sinceQuestion_1 : decode cX4_sinceQuestion 1 = .ok (.iconst 0, 1) := by decide +kernel
theorem dX4_sinceQuestion_2 : decode cX4_sinceQuestion 2 = .ok (.putfield 25, 3) := by decide +kernel
theorem dX4_sinceQuestion_5 : decode cX4_sinceQuestion 5 = .ok (.aload_n 0, 1) := by decide +kernel
theorem dX4_sinceQuestion_6 : decode cX4_sinceQuestion 6 = .ok (.getfield 7, 3) := by decide +kernel
theorem dX4_sinceQuestion_9 : decode cX4_sinceQuestion 9 = .ok (.bipush 6, 2) := by decide +kernel
theorem dX4_sinceQuestion_11 : decode cX4_sinceQuestion 11 = .ok (.iaload, 1) := by decide +kernel
theorem dX4_sinceQuestion_12 : decode cX4_sinceQuestion 12 = .ok (.ireturn, 1) := by decide +kernel
set_option maxRecDepth 20000 in
theorem ggX4_count_X4_in : GoodIn wsX4_count wsX4_in := goodIn_r _ [6] (by decide +kernel) (by decide +kernel)
set_option maxRecDepth 20000 in
theorem gX4_count_X4_in : GoodIn wsX4_count (va_wsS RX4 29 yX4_in wsX4_in) := goodIn_app (goodIn_of _ (by decide +kernel)) ggX4_count_X4_in
set_option maxRecDepth 20000 in
theorem ggX4_count_X4_fails : GoodIn wsX4_count wsX4_fails := goodIn_r _ [10, 1, 11, 12, 13, 14, 15, 16, 17, 18, 19, 20, 21, 22] (by decide +kernel) (by decide +kernel)
set_option maxRecDepth 20000 in
theorem gX4_count_X4_fails : GoodIn wsX4_count (wsV RX4 44 RX4 yX4_fails wsX4_fails) := goodIn_app (goodIn_of _ (by decide +kernel)) ggX4_count_X4_fails
theorem dX4_count_0 : decode cX4_count 0 = .ok (.aload_n 0, 1) := by decide +kernel
theorem dX4_count_1 : decode cX4_count 1 = .ok (.iconst 0, 1) := by decide +kernel
theorem dX4_count_2 : decode cX4_count 2 = .ok (.putfield 25, 3) := by decide +kernel
theorem dX4_count_5 : decode cX4_count 5 = .ok (.iload_n 1, 1) := by decide +kernel
theorem dX4_count_6 : decode cX4_count 6 = .ok (.iconst 0, 1) := by decide +kernel
theorem dX4_count_7 : decode cX4_count 7 = .ok (.iconst 5, 1) := by decide +kernel
theorem dX4_count_8 : decode cX4_count 8 = .ok (.invokestatic 29, 3) := by decide +kernel
theorem dX4_count_11 : decode cX4_count 11 = .ok (.ifCond .eq 15, 3) := by decide +kernel
theorem dX4_count_14 : decode cX4_count 14 = .ok (.aload_n 0, 1) := by decide +kernel
theorem dX4_count_15 : decode cX4_count 15 = .ok (.getfield 7, 3) := by decide +kernel
theorem dX4_count_18 : decode cX4_count 18 = .ok (.bipush 7, 2) := by decide +kernel
theorem dX4_count_20 : decode cX4_count 20 = .ok (.iload_n 1, 1) := by decide +kernel
theorem dX4_count_21 : decode cX4_count 21 = .ok (.iadd, 1) := by decide +kernel
theorem dX4_count_22 : decode cX4_count 22 = .ok (.iaload, 1) := by decide +kernel
theorem dX4_count_23 : decode cX4_count 23 = .ok (.goto 8, 3) := by decide +kernel
theorem dX4_count_26 : decode cX4_count 26 = .ok (.aload_n 0, 1) := by decide +kernel
theorem dX4_count_27 : decode cX4_count 27 = .ok (.iconst 1, 1) := by decide +kernel
theorem dX4_count_28 : decode cX4_count 28 = .ok (.invokevirtual 44, 3) := by decide +kernel
theorem dX4_count_31 : decode cX4_count 31 = .ok (.ireturn, 1) := by decide +kernel
theorem dX4_usefulShare_0 : decode cX4_usefulShare 0 = .ok (.aload_n 0, 1) := by decide +kernel
theorem dX4_usefulShare_1 : decode cX4_usefulShare 1 = .ok (.iconst 0, 1) := by decide +kernel
theorem dX4_usefulShare_2 : decode cX4_usefulShare 2 = .ok (.putfield 25, 3) := by decide +kernel
theorem dX4_usefulShare_5 : decode cX4_usefulShare 5 = .ok (.aload_n 0, 1) := by decide +kernel
theorem dX4_usefulShare_6 : decode cX4_usefulShare 6 = .ok (.getfield 7, 3) := by decide +kernel
theorem dX4_usefulShare_9 : decode cX4_usefulShare 9 = .ok (.bipush 7, 2) := by decide +kernel
theorem dX4_usefulShare_11 : decode cX4_usefulShare 11 = .ok (.iaload, 1) := by decide +kernel
theorem dX4_usefulShare_12 : decode cX4_usefulShare 12 = .ok (.aload_n 0, 1) := by decide +kernel
theorem dX4_usefulShare_13 : decode cX4_usefulShare 13 = .ok (.getfield 7, 3) := by decide +kernel
theorem dX4_usefulShare_16 : decode cX4_usefulShare 16 = .ok (.bipush 8, 2) := by decide +kernel
theorem dX4_usefulShare_18 : decode cX4_usefulShare 18 = .ok (.iaload, 1) := by decide +kernel
theorem dX4_usefulShare_19 : decode cX4_usefulShare 19 = .ok (.iadd, 1) := by decide +kernel
theorem dX4_usefulShare_20 : decode cX4_usefulShare 20 = .ok (.istore_n 1, 1) := by decide +kernel
theorem dX4_usefulShare_21 : decode cX4_usefulShare 21 = .ok (.iload_n 1, 1) := by decide +kernel
theorem dX4_usefulShare_22 : decode cX4_usefulShare 22 = .ok (.ifCond .ne 7, 3) := by decide +kernel
theorem dX4_usefulShare_25 : decode cX4_usefulShare 25 = .ok (.dconst 1, 1) := by decide +kernel
theorem dX4_usefulShare_26 : decode cX4_usefulShare 26 = .ok (.goto 14, 3) := by decide +kernel
theorem dX4_usefulShare_29 : decode cX4_usefulShare 29 = .ok (.aload_n 0, 1) := by decide +kernel
theorem dX4_usefulShare_30 : decode cX4_usefulShare 30 = .ok (.getfield 7, 3) := by decide +kernel
theorem dX4_usefulShare_33 : decode cX4_usefulShare 33 = .ok (.bipush 7, 2) := by decide +kernel
theorem dX4_usefulShare_35 : decode cX4_usefulShare 35 = .ok (.iaload, 1) := by decide +kernel
theorem dX4_usefulShare_36 : decode cX4_usefulShare 36 = .ok (.i2d, 1) := by decide +kernel
theorem dX4_usefulShare_37 : decode cX4_usefulShare 37 = .ok (.iload_n 1, 1) := by decide +kernel
theorem dX4_usefulShare_38 : decode cX4_usefulShare 38 = .ok (.i2d, 1) := by decide +kernel
theorem dX4_usefulShare_39 : decode cX4_usefulShare 39 = .ok (.ddiv, 1) := by decide +kernel
theorem dX4_usefulShare_40 : decode cX4_usefulShare 40 = .ok (.dreturn, 1) := by decide +kernel
set_option maxRecDepth 20000 in
theorem ggX4_fadesIn_X4_putAside : GoodIn wsX4_fadesIn wsX4_putAside := goodIn_r _ [6, 7, 1, 28, 29, 30, 31, 32, 33, 34, 35, 36, 37, 38, 39] (by decide +kernel) (by decide +kernel)
set_option maxRecDepth 20000 in
theorem gX4_fadesIn_X4_putAside : GoodIn wsX4_fadesIn (wsV RX4 101 RX4 yX4_putAside wsX4_putAside) := goodIn_app (goodIn_of _ (by decide +kernel)) ggX4_fadesIn_X4_putAside
set_option maxRecDepth 20000 in
theorem ggX4_fadesIn_X4_goesBy : GoodIn wsX4_fadesIn wsX4_goesBy := goodIn_r _ [11, 1, 12, 13, 14, 5, 15, 16, 17, 18, 19, 20, 21, 22, 23, 28, 29, 30, 31, 32, 33, 34, 35, 36, 37, 38, 39] (by decide +kernel) (by decide +kernel)
set_option maxRecDepth 20000 in
theorem gX4_fadesIn_X4_goesBy : GoodIn wsX4_fadesIn (wsV RX4 91 RX4 yX4_goesBy wsX4_goesBy) := goodIn_app (goodIn_of _ (by decide +kernel)) ggX4_fadesIn_X4_goesBy
set_option maxRecDepth 20000 in
theorem ggX4_fadesIn_X4_takeBack : GoodIn wsX4_fadesIn wsX4_takeBack := goodIn_r _ [27, 1, 7, 28, 29, 30, 31, 32, 33, 34, 35, 36, 37, 38, 39] (by decide +kernel) (by decide +kernel)
set_option maxRecDepth 20000 in
theorem gX4_fadesIn_X4_takeBack : GoodIn wsX4_fadesIn (wsV RX4 104 RX4 yX4_takeBack wsX4_takeBack) := goodIn_app (goodIn_of _ (by decide +kernel)) ggX4_fadesIn_X4_takeBack
theorem dX4_fadesIn_0 : decode cX4_fadesIn 0 = .ok (.aload_n 0, 1) := by decide +kernel
theorem dX4_fadesIn_1 : decode cX4_fadesIn 1 = .ok (.invokevirtual 101, 3) := by decide +kernel
theorem dX4_fadesIn_4 : decode cX4_fadesIn 4 = .ok (.iconst 0, 1) := by decide +kernel
theorem dX4_fadesIn_5 : decode cX4_fadesIn 5 = .ok (.istore_n 2, 1) := by decide +kernel
theorem dX4_fadesIn_6 : decode cX4_fadesIn 6 = .ok (.iload_n 2, 1) := by decide +kernel
theorem dX4_fadesIn_7 : decode cX4_fadesIn 7 = .ok (.sipush 150, 3) := by decide +kernel
theorem dX4_fadesIn_10 : decode cX4_fadesIn 10 = .ok (.if_icmp .ge 26, 3) := by decide +kernel
theorem dX4_fadesIn_13 : decode cX4_fadesIn 13 = .ok (.aload_n 0, 1) := by decide +kernel
theorem dX4_fadesIn_14 : decode cX4_fadesIn 14 = .ok (.getfield 7, 3) := by decide +kernel
theorem dX4_fadesIn_17 : decode cX4_fadesIn 17 = .ok (.bipush 69, 2) := by decide +kernel
theorem dX4_fadesIn_19 : decode cX4_fadesIn 19 = .ok (.iload_n 1, 1) := by decide +kernel
theorem dX4_fadesIn_20 : decode cX4_fadesIn 20 = .ok (.iadd, 1) := by decide +kernel
theorem dX4_fadesIn_21 : decode cX4_fadesIn 21 = .ok (.iaload, 1) := by decide +kernel
theorem dX4_fadesIn_22 : decode cX4_fadesIn 22 = .ok (.ifCond .le 14, 3) := by decide +kernel
theorem dX4_fadesIn_25 : decode cX4_fadesIn 25 = .ok (.aload_n 0, 1) := by decide +kernel
theorem dX4_fadesIn_26 : decode cX4_fadesIn 26 = .ok (.invokevirtual 91, 3) := by decide +kernel
theorem dX4_fadesIn_29 : decode cX4_fadesIn 29 = .ok (.pop, 1) := by decide +kernel
theorem dX4_fadesIn_30 : decode cX4_fadesIn 30 = .ok (.iinc 2 1, 3) := by decide +kernel
theorem dX4_fadesIn_33 : decode cX4_fadesIn 33 = .ok (.goto (-27), 3) := by decide +kernel
theorem dX4_fadesIn_36 : decode cX4_fadesIn 36 = .ok (.aload_n 0, 1) := by decide +kernel
theorem dX4_fadesIn_37 : decode cX4_fadesIn 37 = .ok (.getfield 7, 3) := by decide +kernel
theorem dX4_fadesIn_40 : decode cX4_fadesIn 40 = .ok (.bipush 69, 2) := by decide +kernel
theorem dX4_fadesIn_42 : decode cX4_fadesIn 42 = .ok (.iload_n 1, 1) := by decide +kernel
theorem dX4_fadesIn_43 : decode cX4_fadesIn 43 = .ok (.iadd, 1) := by decide +kernel
theorem dX4_fadesIn_44 : decode cX4_fadesIn 44 = .ok (.iaload, 1) := by decide +kernel
theorem dX4_fadesIn_45 : decode cX4_fadesIn 45 = .ok (.ifCond .le 7, 3) := by decide +kernel
theorem dX4_fadesIn_48 : decode cX4_fadesIn 48 = .ok (.iconst (-1), 1) := by decide +kernel
theorem dX4_fadesIn_49 : decode cX4_fadesIn 49 = .ok (.goto 4, 3) := by decide +kernel
theorem dX4_fadesIn_52 : decode cX4_fadesIn 52 = .ok (.iload_n 2, 1) := by decide +kernel
theorem dX4_fadesIn_53 : decode cX4_fadesIn 53 = .ok (.istore_n 3, 1) := by decide +kernel
theorem dX4_fadesIn_54 : decode cX4_fadesIn 54 = .ok (.aload_n 0, 1) := by decide +kernel
theorem dX4_fadesIn_55 : decode cX4_fadesIn 55 = .ok (.invokevirtual 104, 3) := by decide +kernel
theorem dX4_fadesIn_58 : decode cX4_fadesIn 58 = .ok (.iload_n 3, 1) := by decide +kernel
theorem dX4_fadesIn_59 : decode cX4_fadesIn 59 = .ok (.ireturn, 1) := by decide +kernel
set_option maxRecDepth 20000 in
theorem ggX4_minutesToFade_X4_isPair : GoodIn wsX4_minutesToFade wsX4_isPair := goodIn_r _ [5, 6, 7, 4, 8] (by decide +kernel) (by decide +kernel)
set_option maxRecDepth 20000 in
theorem gX4_minutesToFade_X4_isPair : GoodIn wsX4_minutesToFade (va_wsS RX4 40 yX4_isPair wsX4_isPair) := goodIn_app (goodIn_of _ (by decide +kernel)) ggX4_minutesToFade_X4_isPair
set_option maxRecDepth 20000 in
theorem ggX4_minutesToFade_X4_cellOf : GoodIn wsX4_minutesToFade wsX4_cellOf := goodIn_r _ [11] (by decide +kernel) (by decide +kernel)
set_option maxRecDepth 20000 in
theorem gX4_minutesToFade_X4_cellOf : GoodIn wsX4_minutesToFade (va_wsS RX4 48 yX4_cellOf wsX4_cellOf) := goodIn_app (goodIn_of _ (by decide +kernel)) ggX4_minutesToFade_X4_cellOf
set_option maxRecDepth 20000 in
theorem ggX4_minutesToFade_X4_fadesIn : GoodIn wsX4_minutesToFade wsX4_fadesIn := goodIn_r _ [15, 16, 17, 18, 19, 4, 20, 21, 22, 23, 24, 25, 26, 27, 28, 29, 30, 31, 32, 33, 34, 35, 36, 37, 38, 39, 40, 41, 46, 47, 48, 49, 50, 51, 52, 53, 54, 55, 56, 57] (by decide +kernel) (by decide +kernel)
set_option maxRecDepth 20000 in
theorem gX4_minutesToFade_X4_fadesIn : GoodIn wsX4_minutesToFade (wsV RX4 107 RX4 yX4_fadesIn wsX4_fadesIn) := goodIn_app (goodIn_of _ (by decide +kernel)) ggX4_minutesToFade_X4_fadesIn
set_option maxRecDepth 20000 in
theorem ggX4_minutesToFade_X4_fails : GoodIn wsX4_minutesToFade wsX4_fails := goodIn_r _ [45, 1, 46, 47, 48, 49, 50, 51, 52, 53, 54, 55, 56, 57] (by decide +kernel) (by decide +kernel)
set_option maxRecDepth 20000 in
theorem gX4_minutesToFade_X4_fails : GoodIn wsX4_minutesToFade (wsV RX4 44 RX4 yX4_fails wsX4_fails) := goodIn_app (goodIn_of _ (by decide +kernel)) ggX4_minutesToFade_X4_fails
theorem dX4_minutesToFade_0 : decode cX4_minutesToFade 0 = .ok (.aload_n 0, 1) := by decide +kernel
theorem dX4_minutesToFade_1 : decode cX4_minutesToFade 1 = .ok (.iconst 0, 1) := by decide +kernel
theorem dX4_minutesToFade_2 : decode cX4_minutesToFade 2 = .ok (.putfield 25, 3) := by decide +kernel
theorem dX4_minutesToFade_5 : decode cX4_minutesToFade 5 = .ok (.iload_n 1, 1) := by decide +kernel
theorem dX4_minutesToFade_6 : decode cX4_minutesToFade 6 = .ok (.iload_n 2, 1) := by decide +kernel
theorem dX4_minutesToFade_7 : decode cX4_minutesToFade 7 = .ok (.invokestatic 40, 3) := by decide +kernel
theorem dX4_minutesToFade_10 : decode cX4_minutesToFade 10 = .ok (.ifCond .eq 15, 3) := by decide +kernel
theorem dX4_minutesToFade_13 : decode cX4_minutesToFade 13 = .ok (.aload_n 0, 1) := by decide +kernel
theorem dX4_minutesToFade_14 : decode cX4_minutesToFade 14 = .ok (.iload_n 1, 1) := by decide +kernel
theorem dX4_minutesToFade_15 : decode cX4_minutesToFade 15 = .ok (.iload_n 2, 1) := by decide +kernel
theorem dX4_minutesToFade_16 : decode cX4_minutesToFade 16 = .ok (.invokestatic 48, 3) := by decide +kernel
theorem dX4_minutesToFade_19 : decode cX4_minutesToFade 19 = .ok (.invokevirtual 107, 3) := by decide +kernel
theorem dX4_minutesToFade_22 : decode cX4_minutesToFade 22 = .ok (.goto 8, 3) := by decide +kernel
theorem dX4_minutesToFade_25 : decode cX4_minutesToFade 25 = .ok (.aload_n 0, 1) := by decide +kernel
theorem dX4_minutesToFade_26 : decode cX4_minutesToFade 26 = .ok (.iconst 1, 1) := by decide +kernel
theorem dX4_minutesToFade_27 : decode cX4_minutesToFade 27 = .ok (.invokevirtual 44, 3) := by decide +kernel
theorem dX4_minutesToFade_30 : decode cX4_minutesToFade 30 = .ok (.ireturn, 1) := by decide +kernel
set_option maxRecDepth 20000 in
theorem ggX4_asksIn_X4_due : GoodIn wsX4_asksIn wsX4_due := goodIn_r _ [6, 1, 7, 8, 9, 5, 10, 11, 12, 13, 14, 15, 16, 17, 18, 19, 20, 21, 22] (by decide +kernel) (by decide +kernel)
set_option maxRecDepth 20000 in
theorem gX4_asksIn_X4_due : GoodIn wsX4_asksIn (wsV RX4 88 RX4 yX4_due wsX4_due) := goodIn_app (goodIn_of _ (by decide +kernel)) ggX4_asksIn_X4_due
theorem dX4_asksIn_0 : decode cX4_asksIn 0 = .ok (.aload_n 0, 1) := by decide +kernel
theorem dX4_asksIn_1 : decode cX4_asksIn 1 = .ok (.invokevirtual 88, 3) := by decide +kernel
theorem dX4_asksIn_4 : decode cX4_asksIn 4 = .ok (.aload_n 0, 1) := by decide +kernel
theorem dX4_asksIn_5 : decode cX4_asksIn 5 = .ok (.getfield 7, 3) := by decide +kernel
theorem dX4_asksIn_8 : decode cX4_asksIn 8 = .ok (.bipush 6, 2) := by decide +kernel
theorem dX4_asksIn_10 : decode cX4_asksIn 10 = .ok (.iaload, 1) := by decide +kernel
theorem dX4_asksIn_11 : decode cX4_asksIn 11 = .ok (.isub, 1) := by decide +kernel
theorem dX4_asksIn_12 : decode cX4_asksIn 12 = .ok (.istore_n 1, 1) := by decide +kernel
theorem dX4_asksIn_13 : decode cX4_asksIn 13 = .ok (.iload_n 1, 1) := by decide +kernel
theorem dX4_asksIn_14 : decode cX4_asksIn 14 = .ok (.iconst 1, 1) := by decide +kernel
theorem dX4_asksIn_15 : decode cX4_asksIn 15 = .ok (.if_icmp .ge 7, 3) := by decide +kernel
theorem dX4_asksIn_18 : decode cX4_asksIn 18 = .ok (.iconst 1, 1) := by decide +kernel
theorem dX4_asksIn_19 : decode cX4_asksIn 19 = .ok (.goto 4, 3) := by decide +kernel
theorem dX4_asksIn_22 : decode cX4_asksIn 22 = .ok (.iload_n 1, 1) := by decide +kernel
theorem dX4_asksIn_23 : decode cX4_asksIn 23 = .ok (.ireturn, 1) := by decide +kernel
set_option maxRecDepth 20000 in
theorem ggX4_minutesToQuestion_X4_asksIn : GoodIn wsX4_minutesToQuestion wsX4_asksIn := goodIn_r _ [6, 7, 8, 9, 10, 5, 11, 12, 13, 14, 15, 16, 17, 18, 19, 20, 21, 22, 23, 24, 25, 26, 27] (by decide +kernel) (by decide +kernel)
set_option maxRecDepth 20000 in
theorem gX4_minutesToQuestion_X4_asksIn : GoodIn wsX4_minutesToQuestion (wsV RX4 110 RX4 yX4_asksIn wsX4_asksIn) := goodIn_app (goodIn_of _ (by decide +kernel)) ggX4_minutesToQuestion_X4_asksIn
theorem dX4_minutesToQuestion_0 : decode cX4_minutesToQuestion 0 = .ok (.aload_n 0, 1) := by decide +kernel
theorem dX4_minutesToQuestion_1 : decode cX4_minutesToQuestion 1 = .ok (.iconst 0, 1) := by decide +kernel
theorem dX4_minutesToQuestion_2 : decode cX4_minutesToQuestion 2 = .ok (.putfield 25, 3) := by decide +kernel
theorem dX4_minutesToQuestion_5 : decode cX4_minutesToQuestion 5 = .ok (.aload_n 0, 1) := by decide +kernel
theorem dX4_minutesToQuestion_6 : decode cX4_minutesToQuestion 6 = .ok (.invokevirtual 110, 3) := by decide +kernel
theorem dX4_minutesToQuestion_9 : decode cX4_minutesToQuestion 9 = .ok (.ireturn, 1) := by decide +kernel
set_option maxRecDepth 20000 in
theorem ggX4_disturbedAfter_X4_isConcert : GoodIn wsX4_disturbedAfter wsX4_isConcert := goodIn_r _ [5, 6, 7, 4, 8] (by decide +kernel) (by decide +kernel)
set_option maxRecDepth 20000 in
theorem gX4_disturbedAfter_X4_isConcert : GoodIn wsX4_disturbedAfter (va_wsS RX4 78 yX4_isConcert wsX4_isConcert) := goodIn_app (goodIn_of _ (by decide +kernel)) ggX4_disturbedAfter_X4_isConcert
set_option maxRecDepth 20000 in
theorem ggX4_disturbedAfter_X4_fails : GoodIn wsX4_disturbedAfter wsX4_fails := goodIn_r _ [12, 1, 54, 55, 56, 57, 58, 59, 60, 61, 62, 63, 64, 65] (by decide +kernel) (by decide +kernel)
set_option maxRecDepth 20000 in
theorem gX4_disturbedAfter_X4_fails : GoodIn wsX4_disturbedAfter (wsV RX4 44 RX4 yX4_fails wsX4_fails) := goodIn_app (goodIn_of _ (by decide +kernel)) ggX4_disturbedAfter_X4_fails
set_option maxRecDepth 20000 in
theorem ggX4_disturbedAfter_X4_in : GoodIn wsX4_disturbedAfter wsX4_in := goodIn_r _ [8] (by decide +kernel) (by decide +kernel)
set_option maxRecDepth 20000 in
theorem gX4_disturbedAfter_X4_in : GoodIn wsX4_disturbedAfter (va_wsS RX4 29 yX4_in wsX4_in) := goodIn_app (goodIn_of _ (by decide +kernel)) ggX4_disturbedAfter_X4_in
set_option maxRecDepth 20000 in
theorem ggX4_disturbedAfter_X4_putAside : GoodIn wsX4_disturbedAfter wsX4_putAside := goodIn_r _ [16, 17, 18, 54, 55, 56, 57, 58, 59, 60, 61, 62, 63, 64, 65] (by decide +kernel) (by decide +kernel)
set_option maxRecDepth 20000 in
theorem gX4_disturbedAfter_X4_putAside : GoodIn wsX4_disturbedAfter (wsV RX4 101 RX4 yX4_putAside wsX4_putAside) := goodIn_app (goodIn_of _ (by decide +kernel)) ggX4_disturbedAfter_X4_putAside
set_option maxRecDepth 20000 in
theorem ggX4_disturbedAfter_X4_passes : GoodIn wsX4_disturbedAfter wsX4_passes := goodIn_r _ [22, 23, 24, 25, 4, 26, 18, 27, 28, 29, 30, 31, 32, 33, 34, 35, 36, 37, 38, 54, 55, 56, 57, 58, 59, 60, 61, 62, 63, 64, 65] (by decide +kernel) (by decide +kernel)
set_option maxRecDepth 20000 in
theorem gX4_disturbedAfter_X4_passes : GoodIn wsX4_disturbedAfter (wsV RX4 95 RX4 yX4_passes wsX4_passes) := goodIn_app (goodIn_of _ (by decide +kernel)) ggX4_disturbedAfter_X4_passes
set_option maxRecDepth 20000 in
theorem ggX4_disturbedAfter_X4_goes : GoodIn wsX4_disturbedAfter wsX4_goes := goodIn_r _ [42, 18, 43, 44, 4, 45, 54, 55, 56, 57, 58, 59, 60, 61, 62, 63, 64, 65] (by decide +kernel) (by decide +kernel)
set_option maxRecDepth 20000 in
theorem gX4_disturbedAfter_X4_goes : GoodIn wsX4_disturbedAfter (wsV RX4 72 RX4 yX4_goes wsX4_goes) := goodIn_app (goodIn_of _ (by decide +kernel)) ggX4_disturbedAfter_X4_goes
set_option maxRecDepth 20000 in
theorem ggX4_disturbedAfter_X4_wants : GoodIn wsX4_disturbedAfter wsX4_wants := goodIn_r _ [49, 18, 43, 44, 4, 45, 54, 55, 56, 57, 58, 59, 60, 61, 62, 63, 64, 65] (by decide +kernel) (by decide +kernel)
set_option maxRecDepth 20000 in
theorem gX4_disturbedAfter_X4_wants : GoodIn wsX4_disturbedAfter (wsV RX4 75 RX4 yX4_wants wsX4_wants) := goodIn_app (goodIn_of _ (by decide +kernel)) ggX4_disturbedAfter_X4_wants
set_option maxRecDepth 20000 in
theorem ggX4_disturbedAfter_X4_takeBack : GoodIn wsX4_disturbedAfter wsX4_takeBack := goodIn_r _ [53, 18, 17, 54, 55, 56, 57, 58, 59, 60, 61, 62, 63, 64, 65] (by decide +kernel) (by decide +kernel)
set_option maxRecDepth 20000 in
theorem gX4_disturbedAfter_X4_takeBack : GoodIn wsX4_disturbedAfter (wsV RX4 104 RX4 yX4_takeBack wsX4_takeBack) := goodIn_app (goodIn_of _ (by decide +kernel)) ggX4_disturbedAfter_X4_takeBack
theorem dX4_disturbedAfter_0 : decode cX4_disturbedAfter 0 = .ok (.aload_n 0, 1) := by decide +kernel
theorem dX4_disturbedAfter_1 : decode cX4_disturbedAfter 1 = .ok (.iconst 0, 1) := by decide +kernel
theorem dX4_disturbedAfter_2 : decode cX4_disturbedAfter 2 = .ok (.putfield 25, 3) := by decide +kernel
theorem dX4_disturbedAfter_5 : decode cX4_disturbedAfter 5 = .ok (.iload_n 1, 1) := by decide +kernel
theorem dX4_disturbedAfter_6 : decode cX4_disturbedAfter 6 = .ok (.invokestatic 78, 3) := by decide +kernel
theorem dX4_disturbedAfter_9 : decode cX4_disturbedAfter 9 = .ok (.ifCond .ne 9, 3) := by decide +kernel
theorem dX4_disturbedAfter_12 : decode cX4_disturbedAfter 12 = .ok (.aload_n 0, 1) := by decide +kernel
theorem dX4_disturbedAfter_13 : decode cX4_disturbedAfter 13 = .ok (.iconst 1, 1) := by decide +kernel
theorem dX4_disturbedAfter_14 : decode cX4_disturbedAfter 14 = .ok (.invokevirtual 44, 3) := by decide +kernel
theorem dX4_disturbedAfter_17 : decode cX4_disturbedAfter 17 = .ok (.ireturn, 1) := by decide +kernel
theorem dX4_disturbedAfter_18 : decode cX4_disturbedAfter 18 = .ok (.iload_n 2, 1) := by decide +kernel
theorem dX4_disturbedAfter_19 : decode cX4_disturbedAfter 19 = .ok (.iconst 1, 1) := by decide +kernel
theorem dX4_disturbedAfter_20 : decode cX4_disturbedAfter 20 = .ok (.bipush 60, 2) := by decide +kernel
theorem dX4_disturbedAfter_22 : decode cX4_disturbedAfter 22 = .ok (.invokestatic 29, 3) := by decide +kernel
theorem dX4_disturbedAfter_25 : decode cX4_disturbedAfter 25 = .ok (.ifCond .ne 9, 3) := by decide +kernel
theorem dX4_disturbedAfter_28 : decode cX4_disturbedAfter 28 = .ok (.aload_n 0, 1) := by decide +kernel
theorem dX4_disturbedAfter_29 : decode cX4_disturbedAfter 29 = .ok (.iconst 2, 1) := by decide +kernel
theorem dX4_disturbedAfter_30 : decode cX4_disturbedAfter 30 = .ok (.invokevirtual 44, 3) := by decide +kernel
theorem dX4_disturbedAfter_33 : decode cX4_disturbedAfter 33 = .ok (.ireturn, 1) := by decide +kernel
theorem dX4_disturbedAfter_34 : decode cX4_disturbedAfter 34 = .ok (.aload_n 0, 1) := by decide +kernel
theorem dX4_disturbedAfter_35 : decode cX4_disturbedAfter 35 = .ok (.invokevirtual 101, 3) := by decide +kernel
theorem dX4_disturbedAfter_38 : decode cX4_disturbedAfter 38 = .ok (.aload_n 0, 1) := by decide +kernel
theorem dX4_disturbedAfter_39 : decode cX4_disturbedAfter 39 = .ok (.iload_n 2, 1) := by decide +kernel
theorem dX4_disturbedAfter_40 : decode cX4_disturbedAfter 40 = .ok (.invokevirtual 95, 3) := by decide +kernel
theorem dX4_disturbedAfter_43 : decode cX4_disturbedAfter 43 = .ok (.pop, 1) := by decide +kernel
theorem dX4_disturbedAfter_44 : decode cX4_disturbedAfter 44 = .ok (.iconst 0, 1) := by decide +kernel
theorem dX4_disturbedAfter_45 : decode cX4_disturbedAfter 45 = .ok (.istore_n 3, 1) := by decide +kernel
theorem dX4_disturbedAfter_46 : decode cX4_disturbedAfter 46 = .ok (.iconst 0, 1) := by decide +kernel
theorem dX4_disturbedAfter_47 : decode cX4_disturbedAfter 47 = .ok (.istore 4, 2) := by decide +kernel
theorem dX4_disturbedAfter_49 : decode cX4_disturbedAfter 49 = .ok (.iload 4, 2) := by decide +kernel
theorem dX4_disturbedAfter_51 : decode cX4_disturbedAfter 51 = .ok (.bipush 8, 2) := by decide +kernel
theorem dX4_disturbedAfter_53 : decode cX4_disturbedAfter 53 = .ok (.if_icmp .ge 37, 3) := by decide +kernel
theorem dX4_disturbedAfter_56 : decode cX4_disturbedAfter 56 = .ok (.iload_n 3, 1) := by decide +kernel
theorem dX4_disturbedAfter_57 : decode cX4_disturbedAfter 57 = .ok (.aload_n 0, 1) := by decide +kernel
theorem dX4_disturbedAfter_58 : decode cX4_disturbedAfter 58 = .ok (.iload 4, 2) := by decide +kernel
theorem dX4_disturbedAfter_60 : decode cX4_disturbedAfter 60 = .ok (.iload_n 1, 1) := by decide +kernel
theorem dX4_disturbedAfter_61 : decode cX4_disturbedAfter 61 = .ok (.invokevirtual 72, 3) := by decide +kernel
theorem dX4_disturbedAfter_64 : decode cX4_disturbedAfter 64 = .ok (.ifCond .eq 17, 3) := by decide +kernel
theorem dX4_disturbedAfter_67 : decode cX4_disturbedAfter 67 = .ok (.aload_n 0, 1) := by decide +kernel
theorem dX4_disturbedAfter_68 : decode cX4_disturbedAfter 68 = .ok (.iload 4, 2) := by decide +kernel
theorem dX4_disturbedAfter_70 : decode cX4_disturbedAfter 70 = .ok (.iload_n 1, 1) := by decide +kernel
theorem dX4_disturbedAfter_71 : decode cX4_disturbedAfter 71 = .ok (.invokevirtual 75, 3) := by decide +kernel
theorem dX4_disturbedAfter_74 : decode cX4_disturbedAfter 74 = .ok (.ifCond .ne 7, 3) := by decide +kernel
theorem dX4_disturbedAfter_77 : decode cX4_disturbedAfter 77 = .ok (.iconst 1, 1) := by decide +kernel
theorem dX4_disturbedAfter_78 : decode cX4_disturbedAfter 78 = .ok (.goto 4, 3) := by decide +kernel
theorem dX4_disturbedAfter_81 : decode cX4_disturbedAfter 81 = .ok (.iconst 0, 1) := by decide +kernel
theorem dX4_disturbedAfter_82 : decode cX4_disturbedAfter 82 = .ok (.iadd, 1) := by decide +kernel
theorem dX4_disturbedAfter_83 : decode cX4_disturbedAfter 83 = .ok (.istore_n 3, 1) := by decide +kernel
theorem dX4_disturbedAfter_84 : decode cX4_disturbedAfter 84 = .ok (.iinc 4 1, 3) := by decide +kernel
theorem dX4_disturbedAfter_87 : decode cX4_disturbedAfter 87 = .ok (.goto (-38), 3) := by decide +kernel
theorem dX4_disturbedAfter_90 : decode cX4_disturbedAfter 90 = .ok (.aload_n 0, 1) := by decide +kernel
theorem dX4_disturbedAfter_91 : decode cX4_disturbedAfter 91 = .ok (.invokevirtual 104, 3) := by decide +kernel
theorem dX4_disturbedAfter_94 : decode cX4_disturbedAfter 94 = .ok (.iload_n 3, 1) := by decide +kernel
theorem dX4_disturbedAfter_95 : decode cX4_disturbedAfter 95 = .ok (.ireturn, 1) := by decide +kernel
set_option maxRecDepth 20000 in
theorem ggX4_append_X4_in : GoodIn wsX4_append wsX4_in := goodIn_r _ [7] (by decide +kernel) (by decide +kernel)
set_option maxRecDepth 20000 in
theorem gX4_append_X4_in : GoodIn wsX4_append (va_wsS RX4 29 yX4_in wsX4_in) := goodIn_app (goodIn_of _ (by decide +kernel)) ggX4_append_X4_in
set_option maxRecDepth 20000 in
theorem ggX4_append_X4_fails : GoodIn wsX4_append wsX4_fails := goodIn_r _ [11, 1, 12, 13, 14, 15, 16, 17, 18, 19, 20, 21, 22, 23] (by decide +kernel) (by decide +kernel)
set_option maxRecDepth 20000 in
theorem gX4_append_X4_fails : GoodIn wsX4_append (wsV RX4 44 RX4 yX4_fails wsX4_fails) := goodIn_app (goodIn_of _ (by decide +kernel)) ggX4_append_X4_fails
theorem dX4_append_0 : decode cX4_append 0 = .ok (.aload_n 0, 1) := by decide +kernel
theorem dX4_append_1 : decode cX4_append 1 = .ok (.iconst 0, 1) := by decide +kernel
theorem dX4_append_2 : decode cX4_append 2 = .ok (.putfield 25, 3) := by decide +kernel
theorem dX4_append_5 : decode cX4_append 5 = .ok (.iload_n 1, 1) := by decide +kernel
theorem dX4_append_6 : decode cX4_append 6 = .ok (.bipush 33, 2) := by decide +kernel
theorem dX4_append_8 : decode cX4_append 8 = .ok (.bipush 126, 2) := by decide +kernel
theorem dX4_append_10 : decode cX4_append 10 = .ok (.invokestatic 29, 3) := by decide +kernel
theorem dX4_append_13 : decode cX4_append 13 = .ok (.ifCond .ne 9, 3) := by decide +kernel
theorem dX4_append_16 : decode cX4_append 16 = .ok (.aload_n 0, 1) := by decide +kernel
theorem dX4_append_17 : decode cX4_append 17 = .ok (.iconst 1, 1) := by decide +kernel
theorem dX4_append_18 : decode cX4_append 18 = .ok (.invokevirtual 44, 3) := by decide +kernel
theorem dX4_append_21 : decode cX4_append 21 = .ok (.ireturn, 1) := by decide +kernel
theorem dX4_append_22 : decode cX4_append 22 = .ok (.aload_n 0, 1) := by decide +kernel
theorem dX4_append_23 : decode cX4_append 23 = .ok (.getfield 113, 3) := by decide +kernel
theorem dX4_append_26 : decode cX4_append 26 = .ok (.bipush 60, 2) := by decide +kernel
theorem dX4_append_28 : decode cX4_append 28 = .ok (.if_icmp .ne 9, 3) := by decide +kernel
theorem dX4_append_31 : decode cX4_append 31 = .ok (.aload_n 0, 1) := by decide +kernel
theorem dX4_append_32 : decode cX4_append 32 = .ok (.iconst 2, 1) := by decide +kernel
theorem dX4_append_33 : decode cX4_append 33 = .ok (.invokevirtual 44, 3) := by decide +kernel
theorem dX4_append_36 : decode cX4_append 36 = .ok (.ireturn, 1) := by decide +kernel
theorem dX4_append_37 : decode cX4_append 37 = .ok (.aload_n 0, 1) := by decide +kernel
theorem dX4_append_38 : decode cX4_append 38 = .ok (.getfield 19, 3) := by decide +kernel
theorem dX4_append_41 : decode cX4_append 41 = .ok (.aload_n 0, 1) := by decide +kernel
theorem dX4_append_42 : decode cX4_append 42 = .ok (.getfield 113, 3) := by decide +kernel
theorem dX4_append_45 : decode cX4_append 45 = .ok (.iload_n 1, 1) := by decide +kernel
theorem dX4_append_46 : decode cX4_append 46 = .ok (.iastore, 1) := by decide +kernel
theorem dX4_append_47 : decode cX4_append 47 = .ok (.aload_n 0, 1) := by decide +kernel
theorem dX4_append_48 : decode cX4_append 48 = .ok (.dup, 1) := by decide +kernel
theorem dX4_append_49 : decode cX4_append 49 = .ok (.getfield 113, 3) := by decide +kernel
theorem dX4_append_52 : decode cX4_append 52 = .ok (.iconst 1, 1) := by decide +kernel
theorem dX4_append_53 : decode cX4_append 53 = .ok (.iadd, 1) := by decide +kernel
theorem dX4_append_54 : decode cX4_append 54 = .ok (.putfield 113, 3) := by decide +kernel
theorem dX4_append_57 : decode cX4_append 57 = .ok (.aload_n 0, 1) := by decide +kernel
theorem dX4_append_58 : decode cX4_append 58 = .ok (.getfield 113, 3) := by decide +kernel
theorem dX4_append_61 : decode cX4_append 61 = .ok (.ireturn, 1) := by decide +kernel
theorem dX4_clearText_0 : decode cX4_clearText 0 = .ok (.aload_n 0, 1) := by decide +kernel
theorem dX4_clearText_1 : decode cX4_clearText 1 = .ok (.iconst 0, 1) := by decide +kernel
theorem dX4_clearText_2 : decode cX4_clearText 2 = .ok (.putfield 25, 3) := by decide +kernel
theorem dX4_clearText_5 : decode cX4_clearText 5 = .ok (.aload_n 0, 1) := by decide +kernel
theorem dX4_clearText_6 : decode cX4_clearText 6 = .ok (.getfield 113, 3) := by decide +kernel
theorem dX4_clearText_9 : decode cX4_clearText 9 = .ok (.istore_n 1, 1) := by decide +kernel
theorem dX4_clearText_10 : decode cX4_clearText 10 = .ok (.aload_n 0, 1) := by decide +kernel
theorem dX4_clearText_11 : decode cX4_clearText 11 = .ok (.iconst 0, 1) := by decide +kernel
theorem dX4_clearText_12 : decode cX4_clearText 12 = .ok (.putfield 113, 3) := by decide +kernel
theorem dX4_clearText_15 : decode cX4_clearText 15 = .ok (.iload_n 1, 1) := by decide +kernel
theorem dX4_clearText_16 : decode cX4_clearText 16 = .ok (.ireturn, 1) := by decide +kernel
theorem dX4_sign_0 : decode cX4_sign 0 = .ok (.aload_n 0, 1) := by decide +kernel
theorem dX4_sign_1 : decode cX4_sign 1 = .ok (.getfield 116, 3) := by decide +kernel
theorem dX4_sign_4 : decode cX4_sign 4 = .ok (.aload_n 0, 1) := by decide +kernel
theorem dX4_sign_5 : decode cX4_sign 5 = .ok (.getfield 113, 3) := by decide +kernel
theorem dX4_sign_8 : decode cX4_sign 8 = .ok (.if_icmp .ge 15, 3) := by decide +kernel
theorem dX4_sign_11 : decode cX4_sign 11 = .ok (.aload_n 0, 1) := by decide +kernel
theorem dX4_sign_12 : decode cX4_sign 12 = .ok (.getfield 19, 3) := by decide +kernel
theorem dX4_sign_15 : decode cX4_sign 15 = .ok (.aload_n 0, 1) := by decide +kernel
theorem dX4_sign_16 : decode cX4_sign 16 = .ok (.getfield 116, 3) := by decide +kernel
theorem dX4_sign_19 : decode cX4_sign 19 = .ok (.iaload, 1) := by decide +kernel
theorem dX4_sign_20 : decode cX4_sign 20 = .ok (.goto 4, 3) := by decide +kernel
theorem dX4_sign_23 : decode cX4_sign 23 = .ok (.iconst 0, 1) := by decide +kernel
theorem dX4_sign_24 : decode cX4_sign 24 = .ok (.ireturn, 1) := by decide +kernel
set_option maxRecDepth 20000 in
theorem ggX4_figure_X4_sign : GoodIn wsX4_figure wsX4_sign := goodIn_r _ [7, 2, 8, 9, 13, 14, 15, 16, 17, 18, 19, 20, 21, 22, 23, 24] (by decide +kernel) (by decide +kernel)
set_option maxRecDepth 20000 in
theorem gX4_figure_X4_sign : GoodIn wsX4_figure (wsV RX4 123 RX4 yX4_sign wsX4_sign) := goodIn_app (goodIn_of _ (by decide +kernel)) ggX4_figure_X4_sign
set_option maxRecDepth 20000 in
theorem ggX4_figure_X4_in : GoodIn wsX4_figure wsX4_in := goodIn_r _ [12] (by decide +kernel) (by decide +kernel)
set_option maxRecDepth 20000 in
theorem gX4_figure_X4_in : GoodIn wsX4_figure (va_wsS RX4 29 yX4_in wsX4_in) := goodIn_app (goodIn_of _ (by decide +kernel)) ggX4_figure_X4_in
theorem dX4_figure_0 : decode cX4_figure 0 = .ok (.aload_n 0, 1) := by decide +kernel
theorem dX4_figure_1 : decode cX4_figure 1 = .ok (.aload_n 0, 1) := by decide +kernel
theorem dX4_figure_2 : decode cX4_figure 2 = .ok (.getfield 119, 3) := by decide +kernel
theorem dX4_figure_5 : decode cX4_figure 5 = .ok (.ifCond .eq 25, 3) := by decide +kernel
theorem dX4_figure_8 : decode cX4_figure 8 = .ok (.aload_n 0, 1) := by decide +kernel
theorem dX4_figure_9 : decode cX4_figure 9 = .ok (.invokevirtual 123, 3) := by decide +kernel
theorem dX4_figure_12 : decode cX4_figure 12 = .ok (.bipush 48, 2) := by decide +kernel
theorem dX4_figure_14 : decode cX4_figure 14 = .ok (.iload_n 1, 1) := by decide +kernel
theorem dX4_figure_15 : decode cX4_figure 15 = .ok (.iadd, 1) := by decide +kernel
theorem dX4_figure_16 : decode cX4_figure 16 = .ok (.bipush 48, 2) := by decide +kernel
theorem dX4_figure_18 : decode cX4_figure 18 = .ok (.iload_n 2, 1) := by decide +kernel
theorem dX4_figure_19 : decode cX4_figure 19 = .ok (.iadd, 1) := by decide +kernel
theorem dX4_figure_20 : decode cX4_figure 20 = .ok (.invokestatic 29, 3) := by decide +kernel
theorem dX4_figure_23 : decode cX4_figure 23 = .ok (.ifCond .eq 7, 3) := by decide +kernel
theorem dX4_figure_26 : decode cX4_figure 26 = .ok (.iconst 1, 1) := by decide +kernel
theorem dX4_figure_27 : decode cX4_figure 27 = .ok (.goto 4, 3) := by decide +kernel
theorem dX4_figure_30 : decode cX4_figure 30 = .ok (.iconst 0, 1) := by decide +kernel
theorem dX4_figure_31 : decode cX4_figure 31 = .ok (.putfield 119, 3) := by decide +kernel
theorem dX4_figure_34 : decode cX4_figure 34 = .ok (.aload_n 0, 1) := by decide +kernel
theorem dX4_figure_35 : decode cX4_figure 35 = .ok (.invokevirtual 123, 3) := by decide +kernel
theorem dX4_figure_38 : decode cX4_figure 38 = .ok (.bipush 48, 2) := by decide +kernel
theorem dX4_figure_40 : decode cX4_figure 40 = .ok (.isub, 1) := by decide +kernel
theorem dX4_figure_41 : decode cX4_figure 41 = .ok (.istore_n 3, 1) := by decide +kernel
theorem dX4_figure_42 : decode cX4_figure 42 = .ok (.aload_n 0, 1) := by decide +kernel
theorem dX4_figure_43 : decode cX4_figure 43 = .ok (.dup, 1) := by decide +kernel
theorem dX4_figure_44 : decode cX4_figure 44 = .ok (.getfield 116, 3) := by decide +kernel
theorem dX4_figure_47 : decode cX4_figure 47 = .ok (.aload_n 0, 1) := by decide +kernel
theorem dX4_figure_48 : decode cX4_figure 48 = .ok (.getfield 119, 3) := by decide +kernel
theorem dX4_figure_51 : decode cX4_figure 51 = .ok (.ifCond .eq 7, 3) := by decide +kernel
theorem dX4_figure_54 : decode cX4_figure 54 = .ok (.iconst 1, 1) := by decide +kernel
theorem dX4_figure_55 : decode cX4_figure 55 = .ok (.goto 4, 3) := by decide +kernel
theorem dX4_figure_58 : decode cX4_figure 58 = .ok (.iconst 0, 1) := by decide +kernel
theorem dX4_figure_59 : decode cX4_figure 59 = .ok (.iadd, 1) := by decide +kernel
theorem dX4_figure_60 : decode cX4_figure 60 = .ok (.putfield 116, 3) := by decide +kernel
theorem dX4_figure_63 : decode cX4_figure 63 = .ok (.iload_n 3, 1) := by decide +kernel
theorem dX4_figure_64 : decode cX4_figure 64 = .ok (.ireturn, 1) := by decide +kernel
set_option maxRecDepth 20000 in
theorem ggX4_number_X4_figure : GoodIn wsX4_number wsX4_figure := goodIn_r _ [7, 1, 2, 8, 9, 10, 6, 11, 12, 13, 14, 15, 16, 17, 18, 19, 20, 21, 22, 23, 24, 25, 26, 27, 28] (by decide +kernel) (by decide +kernel)
set_option maxRecDepth 20000 in
theorem gX4_number_X4_figure : GoodIn wsX4_number (wsV RX4 126 RX4 yX4_figure wsX4_figure) := goodIn_app (goodIn_of _ (by decide +kernel)) ggX4_number_X4_figure
set_option maxRecDepth 20000 in
theorem ggX4_number_X4_sign : GoodIn wsX4_number wsX4_sign := goodIn_r _ [11, 2, 12, 13, 17, 18, 19, 20, 21, 22, 23, 24, 25, 26, 27, 28] (by decide +kernel) (by decide +kernel)
set_option maxRecDepth 20000 in
theorem gX4_number_X4_sign : GoodIn wsX4_number (wsV RX4 123 RX4 yX4_sign wsX4_sign) := goodIn_app (goodIn_of _ (by decide +kernel)) ggX4_number_X4_sign
set_option maxRecDepth 20000 in
theorem ggX4_number_X4_in : GoodIn wsX4_number wsX4_in := goodIn_r _ [16] (by decide +kernel) (by decide +kernel)
set_option maxRecDepth 20000 in
theorem gX4_number_X4_in : GoodIn wsX4_number (va_wsS RX4 29 yX4_in wsX4_in) := goodIn_app (goodIn_of _ (by decide +kernel)) ggX4_number_X4_in
theorem dX4_number_0 : decode cX4_number 0 = .ok (.aload_n 0, 1) := by decide +kernel
theorem dX4_number_1 : decode cX4_number 1 = .ok (.iconst 1, 1) := by decide +kernel
theorem dX4_number_2 : decode cX4_number 2 = .ok (.bipush 9, 2) := by decide +kernel
theorem dX4_number_4 : decode cX4_number 4 = .ok (.invokevirtual 126, 3) := by decide +kernel
theorem dX4_number_7 : decode cX4_number 7 = .ok (.istore_n 1, 1) := by decide +kernel
theorem dX4_number_8 : decode cX4_number 8 = .ok (.aload_n 0, 1) := by decide +kernel
theorem dX4_number_9 : decode cX4_number 9 = .ok (.getfield 119, 3) := by decide +kernel
theorem dX4_number_12 : decode cX4_number 12 = .ok (.ifCond .eq 57, 3) := by decide +kernel
theorem dX4_number_15 : decode cX4_number 15 = .ok (.aload_n 0, 1) := by decide +kernel
theorem dX4_number_16 : decode cX4_number 16 = .ok (.invokevirtual 123, 3) := by decide +kernel
theorem dX4_number_19 : decode cX4_number 19 = .ok (.bipush 48, 2) := by decide +kernel
theorem dX4_number_21 : decode cX4_number 21 = .ok (.bipush 57, 2) := by decide +kernel
theorem dX4_number_23 : decode cX4_number 23 = .ok (.invokestatic 29, 3) := by decide +kernel
theorem dX4_number_26 : decode cX4_number 26 = .ok (.ifCond .eq 43, 3) := by decide +kernel
theorem dX4_number_29 : decode cX4_number 29 = .ok (.bipush 10, 2) := by decide +kernel
theorem dX4_number_31 : decode cX4_number 31 = .ok (.iload_n 1, 1) := by decide +kernel
theorem dX4_number_32 : decode cX4_number 32 = .ok (.imul, 1) := by decide +kernel
theorem dX4_number_33 : decode cX4_number 33 = .ok (.aload_n 0, 1) := by decide +kernel
theorem dX4_number_34 : decode cX4_number 34 = .ok (.invokevirtual 123, 3) := by decide +kernel
theorem dX4_number_37 : decode cX4_number 37 = .ok (.iadd, 1) := by decide +kernel
theorem dX4_number_38 : decode cX4_number 38 = .ok (.bipush 48, 2) := by decide +kernel
theorem dX4_number_40 : decode cX4_number 40 = .ok (.isub, 1) := by decide +kernel
theorem dX4_number_41 : decode cX4_number 41 = .ok (.bipush 60, 2) := by decide +kernel
theorem dX4_number_43 : decode cX4_number 43 = .ok (.if_icmp .gt 26, 3) := by decide +kernel
theorem dX4_number_46 : decode cX4_number 46 = .ok (.bipush 10, 2) := by decide +kernel
theorem dX4_number_48 : decode cX4_number 48 = .ok (.iload_n 1, 1) := by decide +kernel
theorem dX4_number_49 : decode cX4_number 49 = .ok (.imul, 1) := by decide +kernel
theorem dX4_number_50 : decode cX4_number 50 = .ok (.aload_n 0, 1) := by decide +kernel
theorem dX4_number_51 : decode cX4_number 51 = .ok (.invokevirtual 123, 3) := by decide +kernel
theorem dX4_number_54 : decode cX4_number 54 = .ok (.iadd, 1) := by decide +kernel
theorem dX4_number_55 : decode cX4_number 55 = .ok (.bipush 48, 2) := by decide +kernel
theorem dX4_number_57 : decode cX4_number 57 = .ok (.isub, 1) := by decide +kernel
theorem dX4_number_58 : decode cX4_number 58 = .ok (.istore_n 1, 1) := by decide +kernel
theorem dX4_number_59 : decode cX4_number 59 = .ok (.aload_n 0, 1) := by decide +kernel
theorem dX4_number_60 : decode cX4_number 60 = .ok (.dup, 1) := by decide +kernel
theorem dX4_number_61 : decode cX4_number 61 = .ok (.getfield 116, 3) := by decide +kernel
theorem dX4_number_64 : decode cX4_number 64 = .ok (.iconst 1, 1) := by decide +kernel
theorem dX4_number_65 : decode cX4_number 65 = .ok (.iadd, 1) := by decide +kernel
theorem dX4_number_66 : decode cX4_number 66 = .ok (.putfield 116, 3) := by decide +kernel
theorem dX4_number_69 : decode cX4_number 69 = .ok (.iload_n 1, 1) := by decide +kernel
theorem dX4_number_70 : decode cX4_number 70 = .ok (.ireturn, 1) := by decide +kernel
set_option maxRecDepth 20000 in
theorem ggX4_readsEvent_X4_sign : GoodIn wsX4_readsEvent wsX4_sign := goodIn_r _ [9, 3, 10, 11, 23, 24, 25, 26, 27, 28, 29, 30, 31, 32, 33, 34] (by decide +kernel) (by decide +kernel)
set_option maxRecDepth 20000 in
theorem gX4_readsEvent_X4_sign : GoodIn wsX4_readsEvent (wsV RX4 123 RX4 yX4_sign wsX4_sign) := goodIn_app (goodIn_of _ (by decide +kernel)) ggX4_readsEvent_X4_sign
set_option maxRecDepth 20000 in
theorem ggX4_readsEvent_X4_number : GoodIn wsX4_readsEvent wsX4_number := goodIn_r _ [15, 2, 3, 16, 17, 18, 8, 19, 5, 6, 7, 9, 10, 11, 20, 21, 22, 23, 24, 25, 26, 27, 28, 29, 30, 31, 32, 33, 34] (by decide +kernel) (by decide +kernel)
set_option maxRecDepth 20000 in
theorem gX4_readsEvent_X4_number : GoodIn wsX4_readsEvent (wsV RX4 132 RX4 yX4_number wsX4_number) := goodIn_app (goodIn_of _ (by decide +kernel)) ggX4_readsEvent_X4_number
set_option maxRecDepth 20000 in
theorem ggX4_readsEvent_X4_figure : GoodIn wsX4_readsEvent wsX4_figure := goodIn_r _ [19, 2, 3, 5, 6, 7, 8, 9, 10, 11, 20, 21, 22, 23, 24, 25, 26, 27, 28, 29, 30, 31, 32, 33, 34] (by decide +kernel) (by decide +kernel)
set_option maxRecDepth 20000 in
theorem gX4_readsEvent_X4_figure : GoodIn wsX4_readsEvent (wsV RX4 126 RX4 yX4_figure wsX4_figure) := goodIn_app (goodIn_of _ (by decide +kernel)) ggX4_readsEvent_X4_figure
theorem dX4_readsEvent_0 : decode cX4_readsEvent 0 = .ok (.iconst 3, 1) := by decide +kernel
theorem dX4_readsEvent_1 : decode cX4_readsEvent 1 = .ok (.aload_n 0, 1) := by decide +kernel
theorem dX4_readsEvent_2 : decode cX4_readsEvent 2 = .ok (.getfield 129, 3) := by decide +kernel
theorem dX4_readsEvent_5 : decode cX4_readsEvent 5 = .ok (.imul, 1) := by decide +kernel
theorem dX4_readsEvent_6 : decode cX4_readsEvent 6 = .ok (.istore_n 1, 1) := by decide +kernel
theorem dX4_readsEvent_7 : decode cX4_readsEvent 7 = .ok (.aload_n 0, 1) := by decide +kernel
theorem dX4_readsEvent_8 : decode cX4_readsEvent 8 = .ok (.invokevirtual 123, 3) := by decide +kernel
theorem dX4_readsEvent_11 : decode cX4_readsEvent 11 = .ok (.istore_n 2, 1) := by decide +kernel
theorem dX4_readsEvent_12 : decode cX4_readsEvent 12 = .ok (.aload_n 0, 1) := by decide +kernel
theorem dX4_readsEvent_13 : decode cX4_readsEvent 13 = .ok (.iload_n 2, 1) := by decide +kernel
theorem dX4_readsEvent_14 : decode cX4_readsEvent 14 = .ok (.bipush 99, 2) := by decide +kernel
theorem dX4_readsEvent_16 : decode cX4_readsEvent 16 = .ok (.if_icmp .eq 33, 3) := by decide +kernel
theorem dX4_readsEvent_19 : decode cX4_readsEvent 19 = .ok (.iload_n 2, 1) := by decide +kernel
theorem dX4_readsEvent_20 : decode cX4_readsEvent 20 = .ok (.bipush 108, 2) := by decide +kernel
theorem dX4_readsEvent_22 : decode cX4_readsEvent 22 = .ok (.if_icmp .eq 27, 3) := by decide +kernel
theorem dX4_readsEvent_25 : decode cX4_readsEvent 25 = .ok (.iload_n 2, 1) := by decide +kernel
theorem dX4_readsEvent_26 : decode cX4_readsEvent 26 = .ok (.bipush 115, 2) := by decide +kernel
theorem dX4_readsEvent_28 : decode cX4_readsEvent 28 = .ok (.if_icmp .eq 21, 3) := by decide +kernel
theorem dX4_readsEvent_31 : decode cX4_readsEvent 31 = .ok (.iload_n 2, 1) := by decide +kernel
theorem dX4_readsEvent_32 : decode cX4_readsEvent 32 = .ok (.bipush 112, 2) := by decide +kernel
theorem dX4_readsEvent_34 : decode cX4_readsEvent 34 = .ok (.if_icmp .eq 15, 3) := by decide +kernel
theorem dX4_readsEvent_37 : decode cX4_readsEvent 37 = .ok (.iload_n 2, 1) := by decide +kernel
theorem dX4_readsEvent_38 : decode cX4_readsEvent 38 = .ok (.bipush 116, 2) := by decide +kernel
theorem dX4_readsEvent_40 : decode cX4_readsEvent 40 = .ok (.if_icmp .eq 9, 3) := by decide +kernel
theorem dX4_readsEvent_43 : decode cX4_readsEvent 43 = .ok (.iload_n 2, 1) := by decide +kernel
theorem dX4_readsEvent_44 : decode cX4_readsEvent 44 = .ok (.bipush 111, 2) := by decide +kernel
theorem dX4_readsEvent_46 : decode cX4_readsEvent 46 = .ok (.if_icmp .ne 7, 3) := by decide +kernel
theorem dX4_readsEvent_49 : decode cX4_readsEvent 49 = .ok (.iconst 1, 1) := by decide +kernel
theorem dX4_readsEvent_50 : decode cX4_readsEvent 50 = .ok (.goto 4, 3) := by decide +kernel
theorem dX4_readsEvent_53 : decode cX4_readsEvent 53 = .ok (.iconst 0, 1) := by decide +kernel
theorem dX4_readsEvent_54 : decode cX4_readsEvent 54 = .ok (.putfield 119, 3) := by decide +kernel
theorem dX4_readsEvent_57 : decode cX4_readsEvent 57 = .ok (.aload_n 0, 1) := by decide +kernel
theorem dX4_readsEvent_58 : decode cX4_readsEvent 58 = .ok (.dup, 1) := by decide +kernel
theorem dX4_readsEvent_59 : decode cX4_readsEvent 59 = .ok (.getfield 116, 3) := by decide +kernel
theorem dX4_readsEvent_62 : decode cX4_readsEvent 62 = .ok (.aload_n 0, 1) := by decide +kernel
theorem dX4_readsEvent_63 : decode cX4_readsEvent 63 = .ok (.getfield 119, 3) := by decide +kernel
theorem dX4_readsEvent_66 : decode cX4_readsEvent 66 = .ok (.ifCond .eq 7, 3) := by decide +kernel
theorem dX4_readsEvent_69 : decode cX4_readsEvent 69 = .ok (.iconst 1, 1) := by decide +kernel
theorem dX4_readsEvent_70 : decode cX4_readsEvent 70 = .ok (.goto 4, 3) := by decide +kernel
theorem dX4_readsEvent_73 : decode cX4_readsEvent 73 = .ok (.iconst 0, 1) := by decide +kernel
theorem dX4_readsEvent_74 : decode cX4_readsEvent 74 = .ok (.iadd, 1) := by decide +kernel
theorem dX4_readsEvent_75 : decode cX4_readsEvent 75 = .ok (.putfield 116, 3) := by decide +kernel
theorem dX4_readsEvent_78 : decode cX4_readsEvent 78 = .ok (.aload_n 0, 1) := by decide +kernel
theorem dX4_readsEvent_79 : decode cX4_readsEvent 79 = .ok (.getfield 22, 3) := by decide +kernel
theorem dX4_readsEvent_82 : decode cX4_readsEvent 82 = .ok (.iload_n 1, 1) := by decide +kernel
theorem dX4_readsEvent_83 : decode cX4_readsEvent 83 = .ok (.iload_n 2, 1) := by decide +kernel
theorem dX4_readsEvent_84 : decode cX4_readsEvent 84 = .ok (.iastore, 1) := by decide +kernel
theorem dX4_readsEvent_85 : decode cX4_readsEvent 85 = .ok (.iload_n 2, 1) := by decide +kernel
theorem dX4_readsEvent_86 : decode cX4_readsEvent 86 = .ok (.bipush 116, 2) := by decide +kernel
theorem dX4_readsEvent_88 : decode cX4_readsEvent 88 = .ok (.if_icmp .ne 18, 3) := by decide +kernel
theorem dX4_readsEvent_91 : decode cX4_readsEvent 91 = .ok (.aload_n 0, 1) := by decide +kernel
theorem dX4_readsEvent_92 : decode cX4_readsEvent 92 = .ok (.getfield 22, 3) := by decide +kernel
theorem dX4_readsEvent_95 : decode cX4_readsEvent 95 = .ok (.iload_n 1, 1) := by decide +kernel
theorem dX4_readsEvent_96 : decode cX4_readsEvent 96 = .ok (.iconst 1, 1) := by decide +kernel
theorem dX4_readsEvent_97 : decode cX4_readsEvent 97 = .ok (.iadd, 1) := by decide +kernel
theorem dX4_readsEvent_98 : decode cX4_readsEvent 98 = .ok (.aload_n 0, 1) := by decide +kernel
theorem dX4_readsEvent_99 : decode cX4_readsEvent 99 = .ok (.invokevirtual 132, 3) := by decide +kernel
theorem dX4_readsEvent_102 : decode cX4_readsEvent 102 = .ok (.iastore, 1) := by decide +kernel
theorem dX4_readsEvent_103 : decode cX4_readsEvent 103 = .ok (.goto 41, 3) := by decide +kernel
theorem dX4_readsEvent_106 : decode cX4_readsEvent 106 = .ok (.iload_n 2, 1) := by decide +kernel
theorem dX4_readsEvent_107 : decode cX4_readsEvent 107 = .ok (.bipush 112, 2) := by decide +kernel
theorem dX4_readsEvent_109 : decode cX4_readsEvent 109 = .ok (.if_icmp .ne 20, 3) := by decide +kernel
theorem dX4_readsEvent_112 : decode cX4_readsEvent 112 = .ok (.aload_n 0, 1) := by decide +kernel
theorem dX4_readsEvent_113 : decode cX4_readsEvent 113 = .ok (.getfield 22, 3) := by decide +kernel
theorem dX4_readsEvent_116 : decode cX4_readsEvent 116 = .ok (.iload_n 1, 1) := by decide +kernel
theorem dX4_readsEvent_117 : decode cX4_readsEvent 117 = .ok (.iconst 1, 1) := by decide +kernel
theorem dX4_readsEvent_118 : decode cX4_readsEvent 118 = .ok (.iadd, 1) := by decide +kernel
theorem dX4_readsEvent_119 : decode cX4_readsEvent 119 = .ok (.aload_n 0, 1) := by decide +kernel
theorem dX4_readsEvent_120 : decode cX4_readsEvent 120 = .ok (.iconst 0, 1) := by decide +kernel
theorem dX4_readsEvent_121 : decode cX4_readsEvent 121 = .ok (.iconst 5, 1) := by decide +kernel
theorem dX4_readsEvent_122 : decode cX4_readsEvent 122 = .ok (.invokevirtual 126, 3) := by decide +kernel
theorem dX4_readsEvent_125 : decode cX4_readsEvent 125 = .ok (.iastore, 1) := by decide +kernel
theorem dX4_readsEvent_126 : decode cX4_readsEvent 126 = .ok (.goto 18, 3) := by decide +kernel
theorem dX4_readsEvent_129 : decode cX4_readsEvent 129 = .ok (.aload_n 0, 1) := by decide +kernel
theorem dX4_readsEvent_130 : decode cX4_readsEvent 130 = .ok (.getfield 22, 3) := by decide +kernel
theorem dX4_readsEvent_133 : decode cX4_readsEvent 133 = .ok (.iload_n 1, 1) := by decide +kernel
theorem dX4_readsEvent_134 : decode cX4_readsEvent 134 = .ok (.iconst 1, 1) := by decide +kernel
theorem dX4_readsEvent_135 : decode cX4_readsEvent 135 = .ok (.iadd, 1) := by decide +kernel
theorem dX4_readsEvent_136 : decode cX4_readsEvent 136 = .ok (.aload_n 0, 1) := by decide +kernel
theorem dX4_readsEvent_137 : decode cX4_readsEvent 137 = .ok (.iconst 0, 1) := by decide +kernel
theorem dX4_readsEvent_138 : decode cX4_readsEvent 138 = .ok (.bipush 7, 2) := by decide +kernel
theorem dX4_readsEvent_140 : decode cX4_readsEvent 140 = .ok (.invokevirtual 126, 3) := by decide +kernel
theorem dX4_readsEvent_143 : decode cX4_readsEvent 143 = .ok (.iastore, 1) := by decide +kernel
theorem dX4_readsEvent_144 : decode cX4_readsEvent 144 = .ok (.iload_n 2, 1) := by decide +kernel
theorem dX4_readsEvent_145 : decode cX4_readsEvent 145 = .ok (.bipush 99, 2) := by decide +kernel
theorem dX4_readsEvent_147 : decode cX4_readsEvent 147 = .ok (.if_icmp .eq 15, 3) := by decide +kernel
theorem dX4_readsEvent_150 : decode cX4_readsEvent 150 = .ok (.iload_n 2, 1) := by decide +kernel
theorem dX4_readsEvent_151 : decode cX4_readsEvent 151 = .ok (.bipush 108, 2) := by decide +kernel
theorem dX4_readsEvent_153 : decode cX4_readsEvent 153 = .ok (.if_icmp .eq 9, 3) := by decide +kernel
theorem dX4_readsEvent_156 : decode cX4_readsEvent 156 = .ok (.iload_n 2, 1) := by decide +kernel
theorem dX4_readsEvent_157 : decode cX4_readsEvent 157 = .ok (.bipush 115, 2) := by decide +kernel
theorem dX4_readsEvent_159 : decode cX4_readsEvent 159 = .ok (.if_icmp .ne 17, 3) := by decide +kernel
theorem dX4_readsEvent_162 : decode cX4_readsEvent 162 = .ok (.aload_n 0, 1) := by decide +kernel
theorem dX4_readsEvent_163 : decode cX4_readsEvent 163 = .ok (.getfield 22, 3) := by decide +kernel
theorem dX4_readsEvent_166 : decode cX4_readsEvent 166 = .ok (.iload_n 1, 1) := by decide +kernel
theorem dX4_readsEvent_167 : decode cX4_readsEvent 167 = .ok (.iconst 2, 1) := by decide +kernel
theorem dX4_readsEvent_168 : decode cX4_readsEvent 168 = .ok (.iadd, 1) := by decide +kernel
theorem dX4_readsEvent_169 : decode cX4_readsEvent 169 = .ok (.aload_n 0, 1) := by decide +kernel
theorem dX4_readsEvent_170 : decode cX4_readsEvent 170 = .ok (.iconst 0, 1) := by decide +kernel
theorem dX4_readsEvent_171 : decode cX4_readsEvent 171 = .ok (.iconst 5, 1) := by decide +kernel
theorem dX4_readsEvent_172 : decode cX4_readsEvent 172 = .ok (.invokevirtual 126, 3) := by decide +kernel
theorem dX4_readsEvent_175 : decode cX4_readsEvent 175 = .ok (.iastore, 1) := by decide +kernel
theorem dX4_readsEvent_176 : decode cX4_readsEvent 176 = .ok (.aload_n 0, 1) := by decide +kernel
theorem dX4_readsEvent_177 : decode cX4_readsEvent 177 = .ok (.dup, 1) := by decide +kernel
theorem dX4_readsEvent_178 : decode cX4_readsEvent 178 = .ok (.getfield 129, 3) := by decide +kernel
theorem dX4_readsEvent_181 : decode cX4_readsEvent 181 = .ok (.aload_n 0, 1) := by decide +kernel
theorem dX4_readsEvent_182 : decode cX4_readsEvent 182 = .ok (.getfield 119, 3) := by decide +kernel
theorem dX4_readsEvent_185 : decode cX4_readsEvent 185 = .ok (.ifCond .eq 7, 3) := by decide +kernel
theorem dX4_readsEvent_188 : decode cX4_readsEvent 188 = .ok (.iconst 1, 1) := by decide +kernel
theorem dX4_readsEvent_189 : decode cX4_readsEvent 189 = .ok (.goto 4, 3) := by decide +kernel
theorem dX4_readsEvent_192 : decode cX4_readsEvent 192 = .ok (.iconst 0, 1) := by decide +kernel
theorem dX4_readsEvent_193 : decode cX4_readsEvent 193 = .ok (.iadd, 1) := by decide +kernel
theorem dX4_readsEvent_194 : decode cX4_readsEvent 194 = .ok (.putfield 129, 3) := by decide +kernel
theorem dX4_readsEvent_197 : decode cX4_readsEvent 197 = .ok (.return_, 1) := by decide +kernel
set_option maxRecDepth 20000 in
theorem ggX4_reads_X4_readsEvent : GoodIn wsX4_reads wsX4_readsEvent := goodIn_r _ [9, 2, 3, 1, 10, 11, 12, 13, 8, 14, 4, 15, 16, 17, 18, 19, 20, 21, 22, 23, 24, 25, 26, 27, 28, 29, 30, 31, 32, 33, 34, 35, 36, 37, 38] (by decide +kernel) (by decide +kernel)
set_option maxRecDepth 20000 in
theorem gX4_reads_X4_readsEvent : GoodIn wsX4_reads (wsV RX4 135 RX4 yX4_readsEvent wsX4_readsEvent) := goodIn_app (goodIn_of _ (by decide +kernel)) ggX4_reads_X4_readsEvent
set_option maxRecDepth 20000 in
theorem ggX4_reads_X4_sign : GoodIn wsX4_reads wsX4_sign := goodIn_r _ [14, 1, 4, 15, 27, 28, 29, 30, 31, 32, 33, 34, 35, 36, 37, 38] (by decide +kernel) (by decide +kernel)
set_option maxRecDepth 20000 in
theorem gX4_reads_X4_sign : GoodIn wsX4_reads (wsV RX4 123 RX4 yX4_sign wsX4_sign) := goodIn_app (goodIn_of _ (by decide +kernel)) ggX4_reads_X4_sign
theorem dX4_reads_0 : decode cX4_reads 0 = .ok (.aload_n 0, 1) := by decide +kernel
theorem dX4_reads_1 : decode cX4_reads 1 = .ok (.iconst 0, 1) := by decide +kernel
theorem dX4_reads_2 : decode cX4_reads 2 = .ok (.putfield 116, 3) := by decide +kernel
theorem dX4_reads_5 : decode cX4_reads 5 = .ok (.aload_n 0, 1) := by decide +kernel
theorem dX4_reads_6 : decode cX4_reads 6 = .ok (.iconst 0, 1) := by decide +kernel
theorem dX4_reads_7 : decode cX4_reads 7 = .ok (.putfield 129, 3) := by decide +kernel
theorem dX4_reads_10 : decode cX4_reads 10 = .ok (.aload_n 0, 1) := by decide +kernel
theorem dX4_reads_11 : decode cX4_reads 11 = .ok (.invokevirtual 135, 3) := by decide +kernel
theorem dX4_reads_14 : decode cX4_reads 14 = .ok (.aload_n 0, 1) := by decide +kernel
theorem dX4_reads_15 : decode cX4_reads 15 = .ok (.getfield 119, 3) := by decide +kernel
theorem dX4_reads_18 : decode cX4_reads 18 = .ok (.ifCond .eq 67, 3) := by decide +kernel
theorem dX4_reads_21 : decode cX4_reads 21 = .ok (.aload_n 0, 1) := by decide +kernel
theorem dX4_reads_22 : decode cX4_reads 22 = .ok (.getfield 116, 3) := by decide +kernel
theorem dX4_reads_25 : decode cX4_reads 25 = .ok (.aload_n 0, 1) := by decide +kernel
theorem dX4_reads_26 : decode cX4_reads 26 = .ok (.getfield 113, 3) := by decide +kernel
theorem dX4_reads_29 : decode cX4_reads 29 = .ok (.if_icmp .ge 56, 3) := by decide +kernel
theorem dX4_reads_32 : decode cX4_reads 32 = .ok (.aload_n 0, 1) := by decide +kernel
theorem dX4_reads_33 : decode cX4_reads 33 = .ok (.aload_n 0, 1) := by decide +kernel
theorem dX4_reads_34 : decode cX4_reads 34 = .ok (.invokevirtual 123, 3) := by decide +kernel
theorem dX4_reads_37 : decode cX4_reads 37 = .ok (.bipush 59, 2) := by decide +kernel
theorem dX4_reads_39 : decode cX4_reads 39 = .ok (.if_icmp .ne 7, 3) := by decide +kernel
theorem dX4_reads_42 : decode cX4_reads 42 = .ok (.iconst 1, 1) := by decide +kernel
theorem dX4_reads_43 : decode cX4_reads 43 = .ok (.goto 4, 3) := by decide +kernel
theorem dX4_reads_46 : decode cX4_reads 46 = .ok (.iconst 0, 1) := by decide +kernel
theorem dX4_reads_47 : decode cX4_reads 47 = .ok (.putfield 119, 3) := by decide +kernel
theorem dX4_reads_50 : decode cX4_reads 50 = .ok (.aload_n 0, 1) := by decide +kernel
theorem dX4_reads_51 : decode cX4_reads 51 = .ok (.dup, 1) := by decide +kernel
theorem dX4_reads_52 : decode cX4_reads 52 = .ok (.getfield 116, 3) := by decide +kernel
theorem dX4_reads_55 : decode cX4_reads 55 = .ok (.aload_n 0, 1) := by decide +kernel
theorem dX4_reads_56 : decode cX4_reads 56 = .ok (.getfield 119, 3) := by decide +kernel
theorem dX4_reads_59 : decode cX4_reads 59 = .ok (.ifCond .eq 7, 3) := by decide +kernel
theorem dX4_reads_62 : decode cX4_reads 62 = .ok (.iconst 1, 1) := by decide +kernel
theorem dX4_reads_63 : decode cX4_reads 63 = .ok (.goto 4, 3) := by decide +kernel
theorem dX4_reads_66 : decode cX4_reads 66 = .ok (.iconst 0, 1) := by decide +kernel
theorem dX4_reads_67 : decode cX4_reads 67 = .ok (.iadd, 1) := by decide +kernel
theorem dX4_reads_68 : decode cX4_reads 68 = .ok (.putfield 116, 3) := by decide +kernel
theorem dX4_reads_71 : decode cX4_reads 71 = .ok (.aload_n 0, 1) := by decide +kernel
theorem dX4_reads_72 : decode cX4_reads 72 = .ok (.getfield 119, 3) := by decide +kernel
theorem dX4_reads_75 : decode cX4_reads 75 = .ok (.ifCond .eq (-61), 3) := by decide +kernel
theorem dX4_reads_78 : decode cX4_reads 78 = .ok (.aload_n 0, 1) := by decide +kernel
theorem dX4_reads_79 : decode cX4_reads 79 = .ok (.invokevirtual 135, 3) := by decide +kernel
theorem dX4_reads_82 : decode cX4_reads 82 = .ok (.goto (-68), 3) := by decide +kernel
theorem dX4_reads_85 : decode cX4_reads 85 = .ok (.aload_n 0, 1) := by decide +kernel
theorem dX4_reads_86 : decode cX4_reads 86 = .ok (.getfield 119, 3) := by decide +kernel
theorem dX4_reads_89 : decode cX4_reads 89 = .ok (.ireturn, 1) := by decide +kernel
set_option maxRecDepth 20000 in
theorem ggX4_firstError_X4_reads : GoodIn wsX4_firstError wsX4_reads := goodIn_r _ [8, 3, 9, 10, 2, 11, 12, 13, 7, 14, 15, 16, 17, 18, 19, 20, 21, 22, 23, 24, 25, 26, 27, 28, 29, 30, 31, 32, 33, 34, 35, 36, 37, 38, 39, 40, 41, 42, 43] (by decide +kernel) (by decide +kernel)
set_option maxRecDepth 20000 in
theorem gX4_firstError_X4_reads : GoodIn wsX4_firstError (wsV RX4 138 RX4 yX4_reads wsX4_reads) := goodIn_app (goodIn_of _ (by decide +kernel)) ggX4_firstError_X4_reads
theorem dX4_firstError_0 : decode cX4_firstError 0 = .ok (.aload_n 0, 1) := by decide +kernel
theorem dX4_firstError_1 : decode cX4_firstError 1 = .ok (.iconst 0, 1) := by decide +kernel
theorem dX4_firstError_2 : decode cX4_firstError 2 = .ok (.putfield 25, 3) := by decide +kernel
theorem dX4_firstError_5 : decode cX4_firstError 5 = .ok (.aload_n 0, 1) := by decide +kernel
theorem dX4_firstError_6 : decode cX4_firstError 6 = .ok (.invokevirtual 138, 3) := by decide +kernel
theorem dX4_firstError_9 : decode cX4_firstError 9 = .ok (.ifCond .eq 10, 3) := by decide +kernel
theorem dX4_firstError_12 : decode cX4_firstError 12 = .ok (.aload_n 0, 1) := by decide +kernel
theorem dX4_firstError_13 : decode cX4_firstError 13 = .ok (.getfield 113, 3) := by decide +kernel
theorem dX4_firstError_16 : decode cX4_firstError 16 = .ok (.goto 7, 3) := by decide +kernel
theorem dX4_firstError_19 : decode cX4_firstError 19 = .ok (.aload_n 0, 1) := by decide +kernel
theorem dX4_firstError_20 : decode cX4_firstError 20 = .ok (.getfield 116, 3) := by decide +kernel
theorem dX4_firstError_23 : decode cX4_firstError 23 = .ok (.ireturn, 1) := by decide +kernel
set_option maxRecDepth 20000 in
theorem ggX4_does_X4_cellOf : GoodIn wsX4_does wsX4_cellOf := goodIn_r _ [6] (by decide +kernel) (by decide +kernel)
set_option maxRecDepth 20000 in
theorem gX4_does_X4_cellOf : GoodIn wsX4_does (va_wsS RX4 48 yX4_cellOf wsX4_cellOf) := goodIn_app (goodIn_of _ (by decide +kernel)) ggX4_does_X4_cellOf
set_option maxRecDepth 20000 in
theorem ggX4_does_X4_comes : GoodIn wsX4_does wsX4_comes := goodIn_r _ [10, 2, 11, 12, 13, 5, 14, 51, 52, 53, 54, 55, 56, 57, 58, 59, 60, 61, 62] (by decide +kernel) (by decide +kernel)
set_option maxRecDepth 20000 in
theorem gX4_does_X4_comes : GoodIn wsX4_does (wsV RX4 55 RX4 yX4_comes wsX4_comes) := goodIn_app (goodIn_of _ (by decide +kernel)) ggX4_does_X4_comes
set_option maxRecDepth 20000 in
theorem ggX4_does_X4_leaves : GoodIn wsX4_does wsX4_leaves := goodIn_r _ [18, 2, 19, 20, 21, 5, 22, 11, 12, 13, 14, 51, 52, 53, 54, 55, 56, 57, 58, 59, 60, 61, 62] (by decide +kernel) (by decide +kernel)
set_option maxRecDepth 20000 in
theorem gX4_does_X4_leaves : GoodIn wsX4_does (wsV RX4 61 RX4 yX4_leaves wsX4_leaves) := goodIn_app (goodIn_of _ (by decide +kernel)) ggX4_does_X4_leaves
set_option maxRecDepth 20000 in
theorem ggX4_does_X4_plays : GoodIn wsX4_does wsX4_plays := goodIn_r _ [26, 2, 27, 28, 29, 5, 30, 3, 4, 6, 31, 32, 33, 34, 51, 52, 53, 54, 55, 56, 57, 58, 59, 60, 61, 62] (by decide +kernel) (by decide +kernel)
set_option maxRecDepth 20000 in
theorem gX4_does_X4_plays : GoodIn wsX4_does (wsV RX4 98 RX4 yX4_plays wsX4_plays) := goodIn_app (goodIn_of _ (by decide +kernel)) ggX4_does_X4_plays
set_option maxRecDepth 20000 in
theorem ggX4_does_X4_passes : GoodIn wsX4_does wsX4_passes := goodIn_r _ [38, 39, 40, 41, 5, 42, 2, 43, 44, 45, 46, 47, 48, 49, 50, 11, 12, 13, 14, 51, 52, 53, 54, 55, 56, 57, 58, 59, 60, 61, 62] (by decide +kernel) (by decide +kernel)
set_option maxRecDepth 20000 in
theorem gX4_does_X4_passes : GoodIn wsX4_does (wsV RX4 95 RX4 yX4_passes wsX4_passes) := goodIn_app (goodIn_of _ (by decide +kernel)) ggX4_does_X4_passes
theorem dX4_does_0 : decode cX4_does 0 = .ok (.aload_n 0, 1) := by decide +kernel
theorem dX4_does_1 : decode cX4_does 1 = .ok (.getfield 22, 3) := by decide +kernel
theorem dX4_does_4 : decode cX4_does 4 = .ok (.iload_n 1, 1) := by decide +kernel
theorem dX4_does_5 : decode cX4_does 5 = .ok (.iconst 1, 1) := by decide +kernel
theorem dX4_does_6 : decode cX4_does 6 = .ok (.iadd, 1) := by decide +kernel
theorem dX4_does_7 : decode cX4_does 7 = .ok (.iaload, 1) := by decide +kernel
theorem dX4_does_8 : decode cX4_does 8 = .ok (.istore_n 2, 1) := by decide +kernel
theorem dX4_does_9 : decode cX4_does 9 = .ok (.iload_n 2, 1) := by decide +kernel
theorem dX4_does_10 : decode cX4_does 10 = .ok (.aload_n 0, 1) := by decide +kernel
theorem dX4_does_11 : decode cX4_does 11 = .ok (.getfield 22, 3) := by decide +kernel
theorem dX4_does_14 : decode cX4_does 14 = .ok (.iload_n 1, 1) := by decide +kernel
theorem dX4_does_15 : decode cX4_does 15 = .ok (.iconst 2, 1) := by decide +kernel
theorem dX4_does_16 : decode cX4_does 16 = .ok (.iadd, 1) := by decide +kernel
theorem dX4_does_17 : decode cX4_does 17 = .ok (.iaload, 1) := by decide +kernel
theorem dX4_does_18 : decode cX4_does 18 = .ok (.invokestatic 48, 3) := by decide +kernel
theorem dX4_does_21 : decode cX4_does 21 = .ok (.istore_n 3, 1) := by decide +kernel
theorem dX4_does_22 : decode cX4_does 22 = .ok (.aload_n 0, 1) := by decide +kernel
theorem dX4_does_23 : decode cX4_does 23 = .ok (.getfield 22, 3) := by decide +kernel
theorem dX4_does_26 : decode cX4_does 26 = .ok (.iload_n 1, 1) := by decide +kernel
theorem dX4_does_27 : decode cX4_does 27 = .ok (.iaload, 1) := by decide +kernel
theorem dX4_does_28 : decode cX4_does 28 = .ok (.lookupswitch 150 #[(99, 52), (108, 80), (112, 122), (115, 80), (116, 136)], 52) := by decide +kernel
theorem dX4_does_80 : decode cX4_does 80 = .ok (.aload_n 0, 1) := by decide +kernel
theorem dX4_does_81 : decode cX4_does 81 = .ok (.getfield 7, 3) := by decide +kernel
theorem dX4_does_84 : decode cX4_does 84 = .ok (.bipush 21, 2) := by decide +kernel
theorem dX4_does_86 : decode cX4_does 86 = .ok (.iload_n 3, 1) := by decide +kernel
theorem dX4_does_87 : decode cX4_does 87 = .ok (.iadd, 1) := by decide +kernel
theorem dX4_does_88 : decode cX4_does 88 = .ok (.iaload, 1) := by decide +kernel
theorem dX4_does_89 : decode cX4_does 89 = .ok (.bipush 9, 2) := by decide +kernel
theorem dX4_does_91 : decode cX4_does 91 = .ok (.if_icmp .ge 15, 3) := by decide +kernel
theorem dX4_does_94 : decode cX4_does 94 = .ok (.aload_n 0, 1) := by decide +kernel
theorem dX4_does_95 : decode cX4_does 95 = .ok (.iload_n 3, 1) := by decide +kernel
theorem dX4_does_96 : decode cX4_does 96 = .ok (.invokevirtual 55, 3) := by decide +kernel
theorem dX4_does_99 : decode cX4_does 99 = .ok (.ifCond .le 7, 3) := by decide +kernel
theorem dX4_does_102 : decode cX4_does 102 = .ok (.iconst 1, 1) := by decide +kernel
theorem dX4_does_103 : decode cX4_does 103 = .ok (.goto 4, 3) := by decide +kernel
theorem dX4_does_106 : decode cX4_does 106 = .ok (.iconst 0, 1) := by decide +kernel
theorem dX4_does_107 : decode cX4_does 107 = .ok (.ireturn, 1) := by decide +kernel
theorem dX4_does_108 : decode cX4_does 108 = .ok (.aload_n 0, 1) := by decide +kernel
theorem dX4_does_109 : decode cX4_does 109 = .ok (.getfield 7, 3) := by decide +kernel
theorem dX4_does_112 : decode cX4_does 112 = .ok (.bipush 21, 2) := by decide +kernel
theorem dX4_does_114 : decode cX4_does 114 = .ok (.iload_n 3, 1) := by decide +kernel
theorem dX4_does_115 : decode cX4_does 115 = .ok (.iadd, 1) := by decide +kernel
theorem dX4_does_116 : decode cX4_does 116 = .ok (.iaload, 1) := by decide +kernel
theorem dX4_does_117 : decode cX4_does 117 = .ok (.ifCond .le 31, 3) := by decide +kernel
theorem dX4_does_120 : decode cX4_does 120 = .ok (.aload_n 0, 1) := by decide +kernel
theorem dX4_does_121 : decode cX4_does 121 = .ok (.iload_n 3, 1) := by decide +kernel
theorem dX4_does_122 : decode cX4_does 122 = .ok (.aload_n 0, 1) := by decide +kernel
theorem dX4_does_123 : decode cX4_does 123 = .ok (.getfield 22, 3) := by decide +kernel
theorem dX4_does_126 : decode cX4_does 126 = .ok (.iload_n 1, 1) := by decide +kernel
theorem dX4_does_127 : decode cX4_does 127 = .ok (.iaload, 1) := by decide +kernel
theorem dX4_does_128 : decode cX4_does 128 = .ok (.bipush 108, 2) := by decide +kernel
theorem dX4_does_130 : decode cX4_does 130 = .ok (.if_icmp .ne 7, 3) := by decide +kernel
theorem dX4_does_133 : decode cX4_does 133 = .ok (.iconst 1, 1) := by decide +kernel
theorem dX4_does_134 : decode cX4_does 134 = .ok (.goto 4, 3) := by decide +kernel
theorem dX4_does_137 : decode cX4_does 137 = .ok (.iconst 0, 1) := by decide +kernel
theorem dX4_does_138 : decode cX4_does 138 = .ok (.invokevirtual 61, 3) := by decide +kernel
theorem dX4_does_141 : decode cX4_does 141 = .ok (.ifCond .lt 7, 3) := by decide +kernel
theorem dX4_does_144 : decode cX4_does 144 = .ok (.iconst 1, 1) := by decide +kernel
theorem dX4_does_145 : decode cX4_does 145 = .ok (.goto 4, 3) := by decide +kernel
theorem dX4_does_148 : decode cX4_does 148 = .ok (.iconst 0, 1) := by decide +kernel
theorem dX4_does_149 : decode cX4_does 149 = .ok (.ireturn, 1) := by decide +kernel
theorem dX4_does_150 : decode cX4_does 150 = .ok (.aload_n 0, 1) := by decide +kernel
theorem dX4_does_151 : decode cX4_does 151 = .ok (.iload_n 2, 1) := by decide +kernel
theorem dX4_does_152 : decode cX4_does 152 = .ok (.invokevirtual 98, 3) := by decide +kernel
theorem dX4_does_155 : decode cX4_does 155 = .ok (.ifCond .lt 7, 3) := by decide +kernel
theorem dX4_does_158 : decode cX4_does 158 = .ok (.iconst 1, 1) := by decide +kernel
theorem dX4_does_159 : decode cX4_does 159 = .ok (.goto 4, 3) := by decide +kernel
theorem dX4_does_162 : decode cX4_does 162 = .ok (.iconst 0, 1) := by decide +kernel
theorem dX4_does_163 : decode cX4_does 163 = .ok (.ireturn, 1) := by decide +kernel
theorem dX4_does_164 : decode cX4_does 164 = .ok (.aload_n 0, 1) := by decide +kernel
theorem dX4_does_165 : decode cX4_does 165 = .ok (.iload_n 2, 1) := by decide +kernel
theorem dX4_does_166 : decode cX4_does 166 = .ok (.invokevirtual 95, 3) := by decide +kernel
theorem dX4_does_169 : decode cX4_does 169 = .ok (.ifCond .lt 7, 3) := by decide +kernel
theorem dX4_does_172 : decode cX4_does 172 = .ok (.iconst 1, 1) := by decide +kernel
theorem dX4_does_173 : decode cX4_does 173 = .ok (.goto 4, 3) := by decide +kernel
theorem dX4_does_176 : decode cX4_does 176 = .ok (.iconst 0, 1) := by decide +kernel
theorem dX4_does_177 : decode cX4_does 177 = .ok (.ireturn, 1) := by decide +kernel
theorem dX4_does_178 : decode cX4_does 178 = .ok (.aload_n 0, 1) := by decide +kernel
theorem dX4_does_179 : decode cX4_does 179 = .ok (.getfield 7, 3) := by decide +kernel
theorem dX4_does_182 : decode cX4_does 182 = .ok (.bipush 13, 2) := by decide +kernel
theorem dX4_does_184 : decode cX4_does 184 = .ok (.iload_n 2, 1) := by decide +kernel
theorem dX4_does_185 : decode cX4_does 185 = .ok (.iadd, 1) := by decide +kernel
theorem dX4_does_186 : decode cX4_does 186 = .ok (.iconst 1, 1) := by decide +kernel
theorem dX4_does_187 : decode cX4_does 187 = .ok (.aload_n 0, 1) := by decide +kernel
theorem dX4_does_188 : decode cX4_does 188 = .ok (.getfield 7, 3) := by decide +kernel
theorem dX4_does_191 : decode cX4_does 191 = .ok (.bipush 13, 2) := by decide +kernel
theorem dX4_does_193 : decode cX4_does 193 = .ok (.iload_n 2, 1) := by decide +kernel
theorem dX4_does_194 : decode cX4_does 194 = .ok (.iadd, 1) := by decide +kernel
theorem dX4_does_195 : decode cX4_does 195 = .ok (.iaload, 1) := by decide +kernel
theorem dX4_does_196 : decode cX4_does 196 = .ok (.isub, 1) := by decide +kernel
theorem dX4_does_197 : decode cX4_does 197 = .ok (.iastore, 1) := by decide +kernel
theorem dX4_does_198 : decode cX4_does 198 = .ok (.iconst 1, 1) := by decide +kernel
theorem dX4_does_199 : decode cX4_does 199 = .ok (.ireturn, 1) := by decide +kernel
set_option maxRecDepth 20000 in
theorem ggX4_run_X4_reads : GoodIn wsX4_run wsX4_reads := goodIn_r _ [8, 9, 3, 10, 2, 11, 12, 13, 7, 14, 15, 16, 17, 18, 19, 20, 21, 22, 23, 24, 25, 26, 27, 28, 29, 30, 31, 94, 95, 96, 97, 98, 99, 100, 101, 102, 103, 104, 105] (by decide +kernel) (by decide +kernel)
set_option maxRecDepth 20000 in
theorem gX4_run_X4_reads : GoodIn wsX4_run (wsV RX4 138 RX4 yX4_reads wsX4_reads) := goodIn_app (goodIn_of _ (by decide +kernel)) ggX4_run_X4_reads
set_option maxRecDepth 20000 in
theorem ggX4_run_X4_fails : GoodIn wsX4_run wsX4_fails := goodIn_r _ [35, 1, 94, 95, 96, 97, 98, 99, 100, 101, 102, 103, 104, 105] (by decide +kernel) (by decide +kernel)
set_option maxRecDepth 20000 in
theorem gX4_run_X4_fails : GoodIn wsX4_run (wsV RX4 44 RX4 yX4_fails wsX4_fails) := goodIn_app (goodIn_of _ (by decide +kernel)) ggX4_run_X4_fails
set_option maxRecDepth 20000 in
theorem ggX4_run_X4_saves : GoodIn wsX4_run wsX4_saves := goodIn_r _ [39, 40, 41, 42, 94, 95, 96, 97, 98, 99, 100, 101, 102, 103, 104, 105] (by decide +kernel) (by decide +kernel)
set_option maxRecDepth 20000 in
theorem gX4_run_X4_saves : GoodIn wsX4_run (wsV RX4 52 RX4 yX4_saves wsX4_saves) := goodIn_app (goodIn_of _ (by decide +kernel)) ggX4_run_X4_saves
set_option maxRecDepth 20000 in
theorem ggX4_run_X4_does : GoodIn wsX4_run wsX4_does := goodIn_r _ [46, 15, 42, 47, 48, 7, 49, 50, 51, 52, 53, 54, 55, 56, 57, 58, 59, 60, 61, 62, 63, 64, 65, 66, 67, 68, 69, 70, 71, 72, 73, 74, 75, 76, 77, 78, 79, 80, 81, 82, 83, 84, 85, 86, 87, 88, 89, 90, 91, 92, 93, 94, 95, 96, 97, 98, 99, 100, 101, 102, 103, 104, 105] (by decide +kernel) (by decide +kernel)
set_option maxRecDepth 20000 in
theorem gX4_run_X4_does : GoodIn wsX4_run (wsV RX4 141 RX4 yX4_does wsX4_does) := goodIn_app (goodIn_of _ (by decide +kernel)) ggX4_run_X4_does
theorem dX4_run_0 : decode cX4_run 0 = .ok (.aload_n 0, 1) := by decide +kernel
theorem dX4_run_1 : decode cX4_run 1 = .ok (.iconst 0, 1) := by decide +kernel
theorem dX4_run_2 : decode cX4_run 2 = .ok (.putfield 25, 3) := by decide +kernel
theorem dX4_run_5 : decode cX4_run 5 = .ok (.aload_n 0, 1) := by decide +kernel
theorem dX4_run_6 : decode cX4_run 6 = .ok (.invokevirtual 138, 3) := by decide +kernel
theorem dX4_run_9 : decode cX4_run 9 = .ok (.ifCond .ne 9, 3) := by decide +kernel
theorem dX4_run_12 : decode cX4_run 12 = .ok (.aload_n 0, 1) := by decide +kernel
theorem dX4_run_13 : decode cX4_run 13 = .ok (.iconst 1, 1) := by decide +kernel
theorem dX4_run_14 : decode cX4_run 14 = .ok (.invokevirtual 44, 3) := by decide +kernel
theorem dX4_run_17 : decode cX4_run 17 = .ok (.ireturn, 1) := by decide +kernel
theorem dX4_run_18 : decode cX4_run 18 = .ok (.aload_n 0, 1) := by decide +kernel
theorem dX4_run_19 : decode cX4_run 19 = .ok (.invokevirtual 52, 3) := by decide +kernel
theorem dX4_run_22 : decode cX4_run 22 = .ok (.aload_n 0, 1) := by decide +kernel
theorem dX4_run_23 : decode cX4_run 23 = .ok (.iconst 0, 1) := by decide +kernel
theorem dX4_run_24 : decode cX4_run 24 = .ok (.putfield 113, 3) := by decide +kernel
theorem dX4_run_27 : decode cX4_run 27 = .ok (.iconst 0, 1) := by decide +kernel
theorem dX4_run_28 : decode cX4_run 28 = .ok (.istore_n 1, 1) := by decide +kernel
theorem dX4_run_29 : decode cX4_run 29 = .ok (.iload_n 1, 1) := by decide +kernel
theorem dX4_run_30 : decode cX4_run 30 = .ok (.aload_n 0, 1) := by decide +kernel
theorem dX4_run_31 : decode cX4_run 31 = .ok (.getfield 129, 3) := by decide +kernel
theorem dX4_run_34 : decode cX4_run 34 = .ok (.if_icmp .ge 19, 3) := by decide +kernel
theorem dX4_run_37 : decode cX4_run 37 = .ok (.aload_n 0, 1) := by decide +kernel
theorem dX4_run_38 : decode cX4_run 38 = .ok (.iconst 3, 1) := by decide +kernel
theorem dX4_run_39 : decode cX4_run 39 = .ok (.iload_n 1, 1) := by decide +kernel
theorem dX4_run_40 : decode cX4_run 40 = .ok (.imul, 1) := by decide +kernel
theorem dX4_run_41 : decode cX4_run 41 = .ok (.invokevirtual 141, 3) := by decide +kernel
theorem dX4_run_44 : decode cX4_run 44 = .ok (.ifCond .eq 9, 3) := by decide +kernel
theorem dX4_run_47 : decode cX4_run 47 = .ok (.iinc 1 1, 3) := by decide +kernel
theorem dX4_run_50 : decode cX4_run 50 = .ok (.goto (-21), 3) := by decide +kernel
theorem dX4_run_53 : decode cX4_run 53 = .ok (.iload_n 1, 1) := by decide +kernel
theorem dX4_run_54 : decode cX4_run 54 = .ok (.ireturn, 1) := by decide +kernel
set_option maxRecDepth 20000 in
theorem ggX4_undo_X4_fails : GoodIn wsX4_undo wsX4_fails := goodIn_r _ [9, 1, 10, 11, 12, 13, 14, 15, 16, 17, 18, 19, 20, 21] (by decide +kernel) (by decide +kernel)
set_option maxRecDepth 20000 in
theorem gX4_undo_X4_fails : GoodIn wsX4_undo (wsV RX4 44 RX4 yX4_fails wsX4_fails) := goodIn_app (goodIn_of _ (by decide +kernel)) ggX4_undo_X4_fails
theorem dX4_undo_0 : decode cX4_undo 0 = .ok (.aload_n 0, 1) := by decide +kernel
theorem dX4_undo_1 : decode cX4_undo 1 = .ok (.iconst 0, 1) := by decide +kernel
theorem dX4_undo_2 : decode cX4_undo 2 = .ok (.putfield 25, 3) := by decide +kernel
theorem dX4_undo_5 : decode cX4_undo 5 = .ok (.aload_n 0, 1) := by decide +kernel
theorem dX4_undo_6 : decode cX4_undo 6 = .ok (.getfield 33, 3) := by decide +kernel
theorem dX4_undo_9 : decode cX4_undo 9 = .ok (.ifCond .ne 9, 3) := by decide +kernel
theorem dX4_undo_12 : decode cX4_undo 12 = .ok (.aload_n 0, 1) := by decide +kernel
theorem dX4_undo_13 : decode cX4_undo 13 = .ok (.iconst 1, 1) := by decide +kernel
theorem dX4_undo_14 : decode cX4_undo 14 = .ok (.invokevirtual 44, 3) := by decide +kernel
theorem dX4_undo_17 : decode cX4_undo 17 = .ok (.ireturn, 1) := by decide +kernel
theorem dX4_undo_18 : decode cX4_undo 18 = .ok (.aload_n 0, 1) := by decide +kernel
theorem dX4_undo_19 : decode cX4_undo 19 = .ok (.dup, 1) := by decide +kernel
theorem dX4_undo_20 : decode cX4_undo 20 = .ok (.getfield 33, 3) := by decide +kernel
theorem dX4_undo_23 : decode cX4_undo 23 = .ok (.iconst 1, 1) := by decide +kernel
theorem dX4_undo_24 : decode cX4_undo 24 = .ok (.isub, 1) := by decide +kernel
theorem dX4_undo_25 : decode cX4_undo 25 = .ok (.putfield 33, 3) := by decide +kernel
theorem dX4_undo_28 : decode cX4_undo 28 = .ok (.iconst 0, 1) := by decide +kernel
theorem dX4_undo_29 : decode cX4_undo 29 = .ok (.istore_n 1, 1) := by decide +kernel
theorem dX4_undo_30 : decode cX4_undo 30 = .ok (.iload_n 1, 1) := by decide +kernel
theorem dX4_undo_31 : decode cX4_undo 31 = .ok (.bipush 120, 2) := by decide +kernel
theorem dX4_undo_33 : decode cX4_undo 33 = .ok (.if_icmp .ge 29, 3) := by decide +kernel
theorem dX4_undo_36 : decode cX4_undo 36 = .ok (.aload_n 0, 1) := by decide +kernel
theorem dX4_undo_37 : decode cX4_undo 37 = .ok (.getfield 7, 3) := by decide +kernel
theorem dX4_undo_40 : decode cX4_undo 40 = .ok (.iload_n 1, 1) := by decide +kernel
theorem dX4_undo_41 : decode cX4_undo 41 = .ok (.aload_n 0, 1) := by decide +kernel
theorem dX4_undo_42 : decode cX4_undo 42 = .ok (.getfield 16, 3) := by decide +kernel
theorem dX4_undo_45 : decode cX4_undo 45 = .ok (.bipush 120, 2) := by decide +kernel
theorem dX4_undo_47 : decode cX4_undo 47 = .ok (.aload_n 0, 1) := by decide +kernel
theorem dX4_undo_48 : decode cX4_undo 48 = .ok (.getfield 33, 3) := by decide +kernel
theorem dX4_undo_51 : decode cX4_undo 51 = .ok (.imul, 1) := by decide +kernel
theorem dX4_undo_52 : decode cX4_undo 52 = .ok (.iload_n 1, 1) := by decide +kernel
theorem dX4_undo_53 : decode cX4_undo 53 = .ok (.iadd, 1) := by decide +kernel
theorem dX4_undo_54 : decode cX4_undo 54 = .ok (.iaload, 1) := by decide +kernel
theorem dX4_undo_55 : decode cX4_undo 55 = .ok (.iastore, 1) := by decide +kernel
theorem dX4_undo_56 : decode cX4_undo 56 = .ok (.iinc 1 1, 3) := by decide +kernel
theorem dX4_undo_59 : decode cX4_undo 59 = .ok (.goto (-29), 3) := by decide +kernel
theorem dX4_undo_62 : decode cX4_undo 62 = .ok (.aload_n 0, 1) := by decide +kernel
theorem dX4_undo_63 : decode cX4_undo 63 = .ok (.getfield 33, 3) := by decide +kernel
theorem dX4_undo_66 : decode cX4_undo 66 = .ok (.ireturn, 1) := by decide +kernel
theorem dX4_savedStates_0 : decode cX4_savedStates 0 = .ok (.aload_n 0, 1) := by decide +kernel
theorem dX4_savedStates_1 : decode cX4_savedStates 1 = .ok (.iconst 0, 1) := by decide +kernel
theorem dX4_savedStates_2 : decode cX4_savedStates 2 = .ok (.putfield 25, 3) := by decide +kernel
theorem dX4_savedStates_5 : decode cX4_savedStates 5 = .ok (.aload_n 0, 1) := by decide +kernel
theorem dX4_savedStates_6 : decode cX4_savedStates 6 = .ok (.getfield 33, 3) := by decide +kernel
theorem dX4_savedStates_9 : decode cX4_savedStates 9 = .ok (.ireturn, 1) := by decide +kernel
theorem dX4_hashes_0 : decode cX4_hashes 0 = .ok (.aload_n 0, 1) := by decide +kernel
theorem dX4_hashes_1 : decode cX4_hashes 1 = .ok (.ldc2_w 144, 3) := by decide +kernel
theorem dX4_hashes_4 : decode cX4_hashes 4 = .ok (.aload_n 0, 1) := by decide +kernel
theorem dX4_hashes_5 : decode cX4_hashes 5 = .ok (.getfield 146, 3) := by decide +kernel
theorem dX4_hashes_8 : decode cX4_hashes 8 = .ok (.lmul, 1) := by decide +kernel
theorem dX4_hashes_9 : decode cX4_hashes 9 = .ok (.iload_n 1, 1) := by decide +kernel
theorem dX4_hashes_10 : decode cX4_hashes 10 = .ok (.i2l, 1) := by decide +kernel
theorem dX4_hashes_11 : decode cX4_hashes 11 = .ok (.ladd, 1) := by decide +kernel
theorem dX4_hashes_12 : decode cX4_hashes 12 = .ok (.putfield 146, 3) := by decide +kernel
theorem dX4_hashes_15 : decode cX4_hashes 15 = .ok (.return_, 1) := by decide +kernel
set_option maxRecDepth 20000 in
theorem ggX4_digest_X4_hashes : GoodIn wsX4_digest wsX4_hashes := goodIn_r _ [9, 10, 3, 67, 68, 69, 70, 71, 72, 73, 74, 75, 76, 77, 78] (by decide +kernel) (by decide +kernel)
set_option maxRecDepth 20000 in
theorem gX4_digest_X4_hashes : GoodIn wsX4_digest (wsV RX4 152 RX4 yX4_hashes wsX4_hashes) := goodIn_app (goodIn_of _ (by decide +kernel)) ggX4_digest_X4_hashes
set_option maxRecDepth 20000 in
theorem ggX4_digest_X4_chiefNow : GoodIn wsX4_digest wsX4_chiefNow := goodIn_r _ [14, 4, 67, 68, 69, 70, 71, 72, 73, 74, 75, 76, 77, 78] (by decide +kernel) (by decide +kernel)
set_option maxRecDepth 20000 in
theorem gX4_digest_X4_chiefNow : GoodIn wsX4_digest (wsV RX4 65 RX4 yX4_chiefNow wsX4_chiefNow) := goodIn_app (goodIn_of _ (by decide +kernel)) ggX4_digest_X4_chiefNow
set_option maxRecDepth 20000 in
theorem ggX4_digest_X4_entriesNow : GoodIn wsX4_digest wsX4_entriesNow := goodIn_r _ [18, 4, 67, 68, 69, 70, 71, 72, 73, 74, 75, 76, 77, 78] (by decide +kernel) (by decide +kernel)
set_option maxRecDepth 20000 in
theorem gX4_digest_X4_entriesNow : GoodIn wsX4_digest (wsV RX4 69 RX4 yX4_entriesNow wsX4_entriesNow) := goodIn_app (goodIn_of _ (by decide +kernel)) ggX4_digest_X4_entriesNow
set_option maxRecDepth 20000 in
theorem ggX4_digest_X4_asksIn : GoodIn wsX4_digest wsX4_asksIn := goodIn_r _ [22, 4, 23, 24, 25, 8, 26, 11, 12, 13, 14, 67, 68, 69, 70, 71, 72, 73, 74, 75, 76, 77, 78] (by decide +kernel) (by decide +kernel)
set_option maxRecDepth 20000 in
theorem gX4_digest_X4_asksIn : GoodIn wsX4_digest (wsV RX4 110 RX4 yX4_asksIn wsX4_asksIn) := goodIn_app (goodIn_of _ (by decide +kernel)) ggX4_digest_X4_asksIn
set_option maxRecDepth 20000 in
theorem ggX4_digest_X4_rowsOf : GoodIn wsX4_digest wsX4_rowsOf := goodIn_r _ [30, 31, 32, 33, 8, 34, 4, 35, 36, 37, 67, 68, 69, 70, 71, 72, 73, 74, 75, 76, 77, 78] (by decide +kernel) (by decide +kernel)
set_option maxRecDepth 20000 in
theorem gX4_digest_X4_rowsOf : GoodIn wsX4_digest (wsV RX4 82 RX4 yX4_rowsOf wsX4_rowsOf) := goodIn_app (goodIn_of _ (by decide +kernel)) ggX4_digest_X4_rowsOf
set_option maxRecDepth 20000 in
theorem ggX4_digest_X4_wantedOf : GoodIn wsX4_digest wsX4_wantedOf := goodIn_r _ [41, 42, 43, 44, 8, 45, 4, 35, 36, 37, 67, 68, 69, 70, 71, 72, 73, 74, 75, 76, 77, 78] (by decide +kernel) (by decide +kernel)
set_option maxRecDepth 20000 in
theorem gX4_digest_X4_wantedOf : GoodIn wsX4_digest (wsV RX4 85 RX4 yX4_wantedOf wsX4_wantedOf) := goodIn_app (goodIn_of _ (by decide +kernel)) ggX4_digest_X4_wantedOf
set_option maxRecDepth 20000 in
theorem ggX4_digest_X4_fadesIn : GoodIn wsX4_digest wsX4_fadesIn := goodIn_r _ [49, 4, 50, 51, 52, 8, 53, 54, 55, 56, 57, 58, 23, 24, 25, 26, 11, 12, 13, 14, 59, 60, 61, 62, 63, 64, 65, 66, 67, 68, 69, 70, 71, 72, 73, 74, 75, 76, 77, 78] (by decide +kernel) (by decide +kernel)
set_option maxRecDepth 20000 in
theorem gX4_digest_X4_fadesIn : GoodIn wsX4_digest (wsV RX4 107 RX4 yX4_fadesIn wsX4_fadesIn) := goodIn_app (goodIn_of _ (by decide +kernel)) ggX4_digest_X4_fadesIn
theorem dX4_digest_0 : decode cX4_digest 0 = .ok (.aload_n 0, 1) := by decide +kernel
theorem dX4_digest_1 : decode cX4_digest 1 = .ok (.iconst 0, 1) := by decide +kernel
theorem dX4_digest_2 : decode cX4_digest 2 = .ok (.putfield 25, 3) := by decide +kernel
theorem dX4_digest_5 : decode cX4_digest 5 = .ok (.aload_n 0, 1) := by decide +kernel
theorem dX4_digest_6 : decode cX4_digest 6 = .ok (.ldc2_w 150, 3) := by decide +kernel
theorem dX4_digest_9 : decode cX4_digest 9 = .ok (.putfield 146, 3) := by decide +kernel
theorem dX4_digest_12 : decode cX4_digest 12 = .ok (.aload_n 0, 1) := by decide +kernel
theorem dX4_digest_13 : decode cX4_digest 13 = .ok (.aload_n 0, 1) := by decide +kernel
theorem dX4_digest_14 : decode cX4_digest 14 = .ok (.getfield 7, 3) := by decide +kernel
theorem dX4_digest_17 : decode cX4_digest 17 = .ok (.iconst 5, 1) := by decide +kernel
theorem dX4_digest_18 : decode cX4_digest 18 = .ok (.iaload, 1) := by decide +kernel
theorem dX4_digest_19 : decode cX4_digest 19 = .ok (.invokevirtual 152, 3) := by decide +kernel
theorem dX4_digest_22 : decode cX4_digest 22 = .ok (.aload_n 0, 1) := by decide +kernel
theorem dX4_digest_23 : decode cX4_digest 23 = .ok (.aload_n 0, 1) := by decide +kernel
theorem dX4_digest_24 : decode cX4_digest 24 = .ok (.getfield 7, 3) := by decide +kernel
theorem dX4_digest_27 : decode cX4_digest 27 = .ok (.bipush 6, 2) := by decide +kernel
theorem dX4_digest_29 : decode cX4_digest 29 = .ok (.iaload, 1) := by decide +kernel
theorem dX4_digest_30 : decode cX4_digest 30 = .ok (.invokevirtual 152, 3) := by decide +kernel
theorem dX4_digest_33 : decode cX4_digest 33 = .ok (.aload_n 0, 1) := by decide +kernel
theorem dX4_digest_34 : decode cX4_digest 34 = .ok (.aload_n 0, 1) := by decide +kernel
theorem dX4_digest_35 : decode cX4_digest 35 = .ok (.invokevirtual 65, 3) := by decide +kernel
theorem dX4_digest_38 : decode cX4_digest 38 = .ok (.invokevirtual 152, 3) := by decide +kernel
theorem dX4_digest_41 : decode cX4_digest 41 = .ok (.aload_n 0, 1) := by decide +kernel
theorem dX4_digest_42 : decode cX4_digest 42 = .ok (.aload_n 0, 1) := by decide +kernel
theorem dX4_digest_43 : decode cX4_digest 43 = .ok (.invokevirtual 69, 3) := by decide +kernel
theorem dX4_digest_46 : decode cX4_digest 46 = .ok (.invokevirtual 152, 3) := by decide +kernel
theorem dX4_digest_49 : decode cX4_digest 49 = .ok (.aload_n 0, 1) := by decide +kernel
theorem dX4_digest_50 : decode cX4_digest 50 = .ok (.aload_n 0, 1) := by decide +kernel
theorem dX4_digest_51 : decode cX4_digest 51 = .ok (.invokevirtual 110, 3) := by decide +kernel
theorem dX4_digest_54 : decode cX4_digest 54 = .ok (.invokevirtual 152, 3) := by decide +kernel
theorem dX4_digest_57 : decode cX4_digest 57 = .ok (.iconst 0, 1) := by decide +kernel
theorem dX4_digest_58 : decode cX4_digest 58 = .ok (.istore_n 1, 1) := by decide +kernel
theorem dX4_digest_59 : decode cX4_digest 59 = .ok (.iload_n 1, 1) := by decide +kernel
theorem dX4_digest_60 : decode cX4_digest 60 = .ok (.bipush 6, 2) := by decide +kernel
theorem dX4_digest_62 : decode cX4_digest 62 = .ok (.if_icmp .ge 22, 3) := by decide +kernel
theorem dX4_digest_65 : decode cX4_digest 65 = .ok (.aload_n 0, 1) := by decide +kernel
theorem dX4_digest_66 : decode cX4_digest 66 = .ok (.aload_n 0, 1) := by decide +kernel
theorem dX4_digest_67 : decode cX4_digest 67 = .ok (.getfield 7, 3) := by decide +kernel
theorem dX4_digest_70 : decode cX4_digest 70 = .ok (.bipush 7, 2) := by decide +kernel
theorem dX4_digest_72 : decode cX4_digest 72 = .ok (.iload_n 1, 1) := by decide +kernel
theorem dX4_digest_73 : decode cX4_digest 73 = .ok (.iadd, 1) := by decide +kernel
theorem dX4_digest_74 : decode cX4_digest 74 = .ok (.iaload, 1) := by decide +kernel
theorem dX4_digest_75 : decode cX4_digest 75 = .ok (.invokevirtual 152, 3) := by decide +kernel
theorem dX4_digest_78 : decode cX4_digest 78 = .ok (.iinc 1 1, 3) := by decide +kernel
theorem dX4_digest_81 : decode cX4_digest 81 = .ok (.goto (-22), 3) := by decide +kernel
theorem dX4_digest_84 : decode cX4_digest 84 = .ok (.iconst 0, 1) := by decide +kernel
theorem dX4_digest_85 : decode cX4_digest 85 = .ok (.istore_n 1, 1) := by decide +kernel
theorem dX4_digest_86 : decode cX4_digest 86 = .ok (.iload_n 1, 1) := by decide +kernel
theorem dX4_digest_87 : decode cX4_digest 87 = .ok (.bipush 6, 2) := by decide +kernel
theorem dX4_digest_89 : decode cX4_digest 89 = .ok (.if_icmp .ge 27, 3) := by decide +kernel
theorem dX4_digest_92 : decode cX4_digest 92 = .ok (.aload_n 0, 1) := by decide +kernel
theorem dX4_digest_93 : decode cX4_digest 93 = .ok (.aload_n 0, 1) := by decide +kernel
theorem dX4_digest_94 : decode cX4_digest 94 = .ok (.iload_n 1, 1) := by decide +kernel
theorem dX4_digest_95 : decode cX4_digest 95 = .ok (.invokevirtual 82, 3) := by decide +kernel
theorem dX4_digest_98 : decode cX4_digest 98 = .ok (.invokevirtual 152, 3) := by decide +kernel
theorem dX4_digest_101 : decode cX4_digest 101 = .ok (.aload_n 0, 1) := by decide +kernel
theorem dX4_digest_102 : decode cX4_digest 102 = .ok (.aload_n 0, 1) := by decide +kernel
theorem dX4_digest_103 : decode cX4_digest 103 = .ok (.iload_n 1, 1) := by decide +kernel
theorem dX4_digest_104 : decode cX4_digest 104 = .ok (.invokevirtual 85, 3) := by decide +kernel
theorem dX4_digest_107 : decode cX4_digest 107 = .ok (.invokevirtual 152, 3) := by decide +kernel
theorem dX4_digest_110 : decode cX4_digest 110 = .ok (.iinc 1 1, 3) := by decide +kernel
theorem dX4_digest_113 : decode cX4_digest 113 = .ok (.goto (-27), 3) := by decide +kernel
theorem dX4_digest_116 : decode cX4_digest 116 = .ok (.iconst 0, 1) := by decide +kernel
theorem dX4_digest_117 : decode cX4_digest 117 = .ok (.istore_n 1, 1) := by decide +kernel
theorem dX4_digest_118 : decode cX4_digest 118 = .ok (.iload_n 1, 1) := by decide +kernel
theorem dX4_digest_119 : decode cX4_digest 119 = .ok (.bipush 48, 2) := by decide +kernel
theorem dX4_digest_121 : decode cX4_digest 121 = .ok (.if_icmp .ge 67, 3) := by decide +kernel
theorem dX4_digest_124 : decode cX4_digest 124 = .ok (.iload_n 1, 1) := by decide +kernel
theorem dX4_digest_125 : decode cX4_digest 125 = .ok (.bipush 6, 2) := by decide +kernel
theorem dX4_digest_127 : decode cX4_digest 127 = .ok (.irem, 1) := by decide +kernel
theorem dX4_digest_128 : decode cX4_digest 128 = .ok (.ifCond .ne 19, 3) := by decide +kernel
theorem dX4_digest_131 : decode cX4_digest 131 = .ok (.aload_n 0, 1) := by decide +kernel
theorem dX4_digest_132 : decode cX4_digest 132 = .ok (.aload_n 0, 1) := by decide +kernel
theorem dX4_digest_133 : decode cX4_digest 133 = .ok (.getfield 7, 3) := by decide +kernel
theorem dX4_digest_136 : decode cX4_digest 136 = .ok (.bipush 13, 2) := by decide +kernel
theorem dX4_digest_138 : decode cX4_digest 138 = .ok (.iload_n 1, 1) := by decide +kernel
theorem dX4_digest_139 : decode cX4_digest 139 = .ok (.bipush 6, 2) := by decide +kernel
theorem dX4_digest_141 : decode cX4_digest 141 = .ok (.idiv, 1) := by decide +kernel
theorem dX4_digest_142 : decode cX4_digest 142 = .ok (.iadd, 1) := by decide +kernel
theorem dX4_digest_143 : decode cX4_digest 143 = .ok (.iaload, 1) := by decide +kernel
theorem dX4_digest_144 : decode cX4_digest 144 = .ok (.invokevirtual 152, 3) := by decide +kernel
theorem dX4_digest_147 : decode cX4_digest 147 = .ok (.aload_n 0, 1) := by decide +kernel
theorem dX4_digest_148 : decode cX4_digest 148 = .ok (.aload_n 0, 1) := by decide +kernel
theorem dX4_digest_149 : decode cX4_digest 149 = .ok (.getfield 7, 3) := by decide +kernel
theorem dX4_digest_152 : decode cX4_digest 152 = .ok (.bipush 21, 2) := by decide +kernel
theorem dX4_digest_154 : decode cX4_digest 154 = .ok (.iload_n 1, 1) := by decide +kernel
theorem dX4_digest_155 : decode cX4_digest 155 = .ok (.iadd, 1) := by decide +kernel
theorem dX4_digest_156 : decode cX4_digest 156 = .ok (.iaload, 1) := by decide +kernel
theorem dX4_digest_157 : decode cX4_digest 157 = .ok (.invokevirtual 152, 3) := by decide +kernel
theorem dX4_digest_160 : decode cX4_digest 160 = .ok (.aload_n 0, 1) := by decide +kernel
theorem dX4_digest_161 : decode cX4_digest 161 = .ok (.aload_n 0, 1) := by decide +kernel
theorem dX4_digest_162 : decode cX4_digest 162 = .ok (.getfield 7, 3) := by decide +kernel
theorem dX4_digest_165 : decode cX4_digest 165 = .ok (.bipush 69, 2) := by decide +kernel
theorem dX4_digest_167 : decode cX4_digest 167 = .ok (.iload_n 1, 1) := by decide +kernel
theorem dX4_digest_168 : decode cX4_digest 168 = .ok (.iadd, 1) := by decide +kernel
theorem dX4_digest_169 : decode cX4_digest 169 = .ok (.iaload, 1) := by decide +kernel
theorem dX4_digest_170 : decode cX4_digest 170 = .ok (.invokevirtual 152, 3) := by decide +kernel
theorem dX4_digest_173 : decode cX4_digest 173 = .ok (.aload_n 0, 1) := by decide +kernel
theorem dX4_digest_174 : decode cX4_digest 174 = .ok (.aload_n 0, 1) := by decide +kernel
theorem dX4_digest_175 : decode cX4_digest 175 = .ok (.iload_n 1, 1) := by decide +kernel
theorem dX4_digest_176 : decode cX4_digest 176 = .ok (.invokevirtual 107, 3) := by decide +kernel
theorem dX4_digest_179 : decode cX4_digest 179 = .ok (.invokevirtual 152, 3) := by decide +kernel
theorem dX4_digest_182 : decode cX4_digest 182 = .ok (.iinc 1 1, 3) := by decide +kernel
theorem dX4_digest_185 : decode cX4_digest 185 = .ok (.goto (-67), 3) := by decide +kernel
theorem dX4_digest_188 : decode cX4_digest 188 = .ok (.aload_n 0, 1) := by decide +kernel
theorem dX4_digest_189 : decode cX4_digest 189 = .ok (.getfield 146, 3) := by decide +kernel
theorem dX4_digest_192 : decode cX4_digest 192 = .ok (.lreturn, 1) := by decide +kernel
theorem dJ6_bitCount_0f7a4_0 : decode cJ6_bitCount_0f7a4 0 = .ok (.iload_n 0, 1) := by decide +kernel
theorem dJ6_bitCount_0f7a4_1 : decode cJ6_bitCount_0f7a4 1 = .ok (.iload_n 0, 1) := by decide +kernel
theorem dJ6_bitCount_0f7a4_2 : decode cJ6_bitCount_0f7a4 2 = .ok (.iconst 1, 1) := by decide +kernel
theorem dJ6_bitCount_0f7a4_3 : decode cJ6_bitCount_0f7a4 3 = .ok (.iushr, 1) := by decide +kernel
theorem dJ6_bitCount_0f7a4_4 : decode cJ6_bitCount_0f7a4 4 = .ok (.ldc_w 265, 3) := by decide +kernel
theorem dJ6_bitCount_0f7a4_7 : decode cJ6_bitCount_0f7a4 7 = .ok (.iand, 1) := by decide +kernel
theorem dJ6_bitCount_0f7a4_8 : decode cJ6_bitCount_0f7a4 8 = .ok (.isub, 1) := by decide +kernel
theorem dJ6_bitCount_0f7a4_9 : decode cJ6_bitCount_0f7a4 9 = .ok (.istore_n 0, 1) := by decide +kernel
theorem dJ6_bitCount_0f7a4_10 : decode cJ6_bitCount_0f7a4 10 = .ok (.iload_n 0, 1) := by decide +kernel
theorem dJ6_bitCount_0f7a4_11 : decode cJ6_bitCount_0f7a4 11 = .ok (.ldc_w 266, 3) := by decide +kernel
theorem dJ6_bitCount_0f7a4_14 : decode cJ6_bitCount_0f7a4 14 = .ok (.iand, 1) := by decide +kernel
theorem dJ6_bitCount_0f7a4_15 : decode cJ6_bitCount_0f7a4 15 = .ok (.iload_n 0, 1) := by decide +kernel
theorem dJ6_bitCount_0f7a4_16 : decode cJ6_bitCount_0f7a4 16 = .ok (.iconst 2, 1) := by decide +kernel
theorem dJ6_bitCount_0f7a4_17 : decode cJ6_bitCount_0f7a4 17 = .ok (.iushr, 1) := by decide +kernel
theorem dJ6_bitCount_0f7a4_18 : decode cJ6_bitCount_0f7a4 18 = .ok (.ldc_w 266, 3) := by decide +kernel
theorem dJ6_bitCount_0f7a4_21 : decode cJ6_bitCount_0f7a4 21 = .ok (.iand, 1) := by decide +kernel
theorem dJ6_bitCount_0f7a4_22 : decode cJ6_bitCount_0f7a4 22 = .ok (.iadd, 1) := by decide +kernel
theorem dJ6_bitCount_0f7a4_23 : decode cJ6_bitCount_0f7a4 23 = .ok (.istore_n 0, 1) := by decide +kernel
theorem dJ6_bitCount_0f7a4_24 : decode cJ6_bitCount_0f7a4 24 = .ok (.iload_n 0, 1) := by decide +kernel
theorem dJ6_bitCount_0f7a4_25 : decode cJ6_bitCount_0f7a4 25 = .ok (.iload_n 0, 1) := by decide +kernel
theorem dJ6_bitCount_0f7a4_26 : decode cJ6_bitCount_0f7a4 26 = .ok (.iconst 4, 1) := by decide +kernel
theorem dJ6_bitCount_0f7a4_27 : decode cJ6_bitCount_0f7a4 27 = .ok (.iushr, 1) := by decide +kernel
theorem dJ6_bitCount_0f7a4_28 : decode cJ6_bitCount_0f7a4 28 = .ok (.iadd, 1) := by decide +kernel
theorem dJ6_bitCount_0f7a4_29 : decode cJ6_bitCount_0f7a4 29 = .ok (.ldc_w 267, 3) := by decide +kernel
theorem dJ6_bitCount_0f7a4_32 : decode cJ6_bitCount_0f7a4 32 = .ok (.iand, 1) := by decide +kernel
theorem dJ6_bitCount_0f7a4_33 : decode cJ6_bitCount_0f7a4 33 = .ok (.istore_n 0, 1) := by decide +kernel
theorem dJ6_bitCount_0f7a4_34 : decode cJ6_bitCount_0f7a4 34 = .ok (.iload_n 0, 1) := by decide +kernel
theorem dJ6_bitCount_0f7a4_35 : decode cJ6_bitCount_0f7a4 35 = .ok (.iload_n 0, 1) := by decide +kernel
theorem dJ6_bitCount_0f7a4_36 : decode cJ6_bitCount_0f7a4 36 = .ok (.bipush 8, 2) := by decide +kernel
theorem dJ6_bitCount_0f7a4_38 : decode cJ6_bitCount_0f7a4 38 = .ok (.iushr, 1) := by decide +kernel
theorem dJ6_bitCount_0f7a4_39 : decode cJ6_bitCount_0f7a4 39 = .ok (.iadd, 1) := by decide +kernel
theorem dJ6_bitCount_0f7a4_40 : decode cJ6_bitCount_0f7a4 40 = .ok (.istore_n 0, 1) := by decide +kernel
theorem dJ6_bitCount_0f7a4_41 : decode cJ6_bitCount_0f7a4 41 = .ok (.iload_n 0, 1) := by decide +kernel
theorem dJ6_bitCount_0f7a4_42 : decode cJ6_bitCount_0f7a4 42 = .ok (.iload_n 0, 1) := by decide +kernel
theorem dJ6_bitCount_0f7a4_43 : decode cJ6_bitCount_0f7a4 43 = .ok (.bipush 16, 2) := by decide +kernel
theorem dJ6_bitCount_0f7a4_45 : decode cJ6_bitCount_0f7a4 45 = .ok (.iushr, 1) := by decide +kernel
theorem dJ6_bitCount_0f7a4_46 : decode cJ6_bitCount_0f7a4 46 = .ok (.iadd, 1) := by decide +kernel
theorem dJ6_bitCount_0f7a4_47 : decode cJ6_bitCount_0f7a4 47 = .ok (.istore_n 0, 1) := by decide +kernel
theorem dJ6_bitCount_0f7a4_48 : decode cJ6_bitCount_0f7a4 48 = .ok (.iload_n 0, 1) := by decide +kernel
theorem dJ6_bitCount_0f7a4_49 : decode cJ6_bitCount_0f7a4 49 = .ok (.bipush 63, 2) := by decide +kernel
theorem dJ6_bitCount_0f7a4_51 : decode cJ6_bitCount_0f7a4 51 = .ok (.iand, 1) := by decide +kernel
theorem dJ6_bitCount_0f7a4_52 : decode cJ6_bitCount_0f7a4 52 = .ok (.ireturn, 1) := by decide +kernel
theorem dJ9_max_7cf53_0 : decode cJ9_max_7cf53 0 = .ok (.iload_n 0, 1) := by decide +kernel
theorem dJ9_max_7cf53_1 : decode cJ9_max_7cf53 1 = .ok (.iload_n 1, 1) := by decide +kernel
theorem dJ9_max_7cf53_2 : decode cJ9_max_7cf53 2 = .ok (.if_icmp .lt 7, 3) := by decide +kernel
theorem dJ9_max_7cf53_5 : decode cJ9_max_7cf53 5 = .ok (.iload_n 0, 1) := by decide +kernel
theorem dJ9_max_7cf53_6 : decode cJ9_max_7cf53 6 = .ok (.goto 4, 3) := by decide +kernel
theorem dJ9_max_7cf53_9 : decode cJ9_max_7cf53 9 = .ok (.iload_n 1, 1) := by decide +kernel
theorem dJ9_max_7cf53_10 : decode cJ9_max_7cf53 10 = .ok (.ireturn, 1) := by decide +kernel

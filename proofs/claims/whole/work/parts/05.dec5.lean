theorem dX5_init_0 : decode cX5_init 0 = .ok (.aload_n 0, 1) := by decide +kernel
theorem dX5_init_1 : decode cX5_init 1 = .ok (.invokespecial 1, 3) := by decide +kernel
theorem dX5_init_4 : decode cX5_init 4 = .ok (.aload_n 0, 1) := by decide +kernel
theorem dX5_init_5 : decode cX5_init 5 = .ok (.bipush 13, 2) := by decide +kernel
theorem dX5_init_7 : decode cX5_init 7 = .ok (.newarray .int, 2) := by decide +kernel
theorem dX5_init_9 : decode cX5_init 9 = .ok (.putfield 9, 3) := by decide +kernel
theorem dX5_init_12 : decode cX5_init 12 = .ok (.aload_n 0, 1) := by decide +kernel
theorem dX5_init_13 : decode cX5_init 13 = .ok (.bipush 13, 2) := by decide +kernel
theorem dX5_init_15 : decode cX5_init 15 = .ok (.newarray .int, 2) := by decide +kernel
theorem dX5_init_17 : decode cX5_init 17 = .ok (.putfield 13, 3) := by decide +kernel
theorem dX5_init_20 : decode cX5_init 20 = .ok (.aload_n 0, 1) := by decide +kernel
theorem dX5_init_21 : decode cX5_init 21 = .ok (.bipush 13, 2) := by decide +kernel
theorem dX5_init_23 : decode cX5_init 23 = .ok (.newarray .int, 2) := by decide +kernel
theorem dX5_init_25 : decode cX5_init 25 = .ok (.putfield 16, 3) := by decide +kernel
theorem dX5_init_28 : decode cX5_init 28 = .ok (.aload_n 0, 1) := by decide +kernel
theorem dX5_init_29 : decode cX5_init 29 = .ok (.bipush 8, 2) := by decide +kernel
theorem dX5_init_31 : decode cX5_init 31 = .ok (.putfield 19, 3) := by decide +kernel
theorem dX5_init_34 : decode cX5_init 34 = .ok (.aload_n 0, 1) := by decide +kernel
theorem dX5_init_35 : decode cX5_init 35 = .ok (.bipush 99, 2) := by decide +kernel
theorem dX5_init_37 : decode cX5_init 37 = .ok (.putfield 23, 3) := by decide +kernel
theorem dX5_init_40 : decode cX5_init 40 = .ok (.aload_n 0, 1) := by decide +kernel
theorem dX5_init_41 : decode cX5_init 41 = .ok (.bipush 8, 2) := by decide +kernel
theorem dX5_init_43 : decode cX5_init 43 = .ok (.bipush 13, 2) := by decide +kernel
theorem dX5_init_45 : decode cX5_init 45 = .ok (.multianewarray 27 2, 4) := by decide +kernel
theorem dX5_init_49 : decode cX5_init 49 = .ok (.putfield 29, 3) := by decide +kernel
theorem dX5_init_52 : decode cX5_init 52 = .ok (.aload_n 0, 1) := by decide +kernel
theorem dX5_init_53 : decode cX5_init 53 = .ok (.bipush 8, 2) := by decide +kernel
theorem dX5_init_55 : decode cX5_init 55 = .ok (.bipush 13, 2) := by decide +kernel
theorem dX5_init_57 : decode cX5_init 57 = .ok (.multianewarray 27 2, 4) := by decide +kernel
theorem dX5_init_61 : decode cX5_init 61 = .ok (.putfield 32, 3) := by decide +kernel
theorem dX5_init_64 : decode cX5_init 64 = .ok (.aload_n 0, 1) := by decide +kernel
theorem dX5_init_65 : decode cX5_init 65 = .ok (.bipush 8, 2) := by decide +kernel
theorem dX5_init_67 : decode cX5_init 67 = .ok (.bipush 13, 2) := by decide +kernel
theorem dX5_init_69 : decode cX5_init 69 = .ok (.multianewarray 27 2, 4) := by decide +kernel
theorem dX5_init_73 : decode cX5_init 73 = .ok (.putfield 35, 3) := by decide +kernel
theorem dX5_init_76 : decode cX5_init 76 = .ok (.aload_n 0, 1) := by decide +kernel
theorem dX5_init_77 : decode cX5_init 77 = .ok (.bipush 8, 2) := by decide +kernel
theorem dX5_init_79 : decode cX5_init 79 = .ok (.newarray .int, 2) := by decide +kernel
theorem dX5_init_81 : decode cX5_init 81 = .ok (.putfield 38, 3) := by decide +kernel
theorem dX5_init_84 : decode cX5_init 84 = .ok (.aload_n 0, 1) := by decide +kernel
theorem dX5_init_85 : decode cX5_init 85 = .ok (.bipush 8, 2) := by decide +kernel
theorem dX5_init_87 : decode cX5_init 87 = .ok (.newarray .int, 2) := by decide +kernel
theorem dX5_init_89 : decode cX5_init 89 = .ok (.putfield 41, 3) := by decide +kernel
theorem dX5_init_92 : decode cX5_init 92 = .ok (.aload_n 0, 1) := by decide +kernel
theorem dX5_init_93 : decode cX5_init 93 = .ok (.bipush 8, 2) := by decide +kernel
theorem dX5_init_95 : decode cX5_init 95 = .ok (.newarray .char, 2) := by decide +kernel
theorem dX5_init_97 : decode cX5_init 97 = .ok (.putfield 44, 3) := by decide +kernel
theorem dX5_init_100 : decode cX5_init 100 = .ok (.aload_n 0, 1) := by decide +kernel
theorem dX5_init_101 : decode cX5_init 101 = .ok (.bipush 13, 2) := by decide +kernel
theorem dX5_init_103 : decode cX5_init 103 = .ok (.newarray .int, 2) := by decide +kernel
theorem dX5_init_105 : decode cX5_init 105 = .ok (.putfield 48, 3) := by decide +kernel
theorem dX5_init_108 : decode cX5_init 108 = .ok (.aload_n 0, 1) := by decide +kernel
theorem dX5_init_109 : decode cX5_init 109 = .ok (.iconst (-1), 1) := by decide +kernel
theorem dX5_init_110 : decode cX5_init 110 = .ok (.putfield 51, 3) := by decide +kernel
theorem dX5_init_113 : decode cX5_init 113 = .ok (.return_, 1) := by decide +kernel
theorem dX5_thrown_0 : decode cX5_thrown 0 = .ok (.aload_n 0, 1) := by decide +kernel
theorem dX5_thrown_1 : decode cX5_thrown 1 = .ok (.getfield 54, 3) := by decide +kernel
theorem dX5_thrown_4 : decode cX5_thrown 4 = .ok (.ireturn, 1) := by decide +kernel
theorem dX5_no_0 : decode cX5_no 0 = .ok (.aload_n 0, 1) := by decide +kernel
theorem dX5_no_1 : decode cX5_no 1 = .ok (.iload_n 1, 1) := by decide +kernel
theorem dX5_no_2 : decode cX5_no 2 = .ok (.ifCond .eq 7, 3) := by decide +kernel
theorem dX5_no_5 : decode cX5_no 5 = .ok (.iconst 0, 1) := by decide +kernel
theorem dX5_no_6 : decode cX5_no 6 = .ok (.goto 4, 3) := by decide +kernel
theorem dX5_no_9 : decode cX5_no 9 = .ok (.iload_n 2, 1) := by decide +kernel
theorem dX5_no_10 : decode cX5_no 10 = .ok (.putfield 54, 3) := by decide +kernel
theorem dX5_no_13 : decode cX5_no 13 = .ok (.iload_n 1, 1) := by decide +kernel
theorem dX5_no_14 : decode cX5_no 14 = .ok (.ifCond .ne 7, 3) := by decide +kernel
theorem dX5_no_17 : decode cX5_no 17 = .ok (.iconst 1, 1) := by decide +kernel
theorem dX5_no_18 : decode cX5_no 18 = .ok (.goto 4, 3) := by decide +kernel
theorem dX5_no_21 : decode cX5_no 21 = .ok (.iconst 0, 1) := by decide +kernel
theorem dX5_no_22 : decode cX5_no 22 = .ok (.ireturn, 1) := by decide +kernel
theorem dX5_isOrder_0 : decode cX5_isOrder 0 = .ok (.iload_n 0, 1) := by decide +kernel
theorem dX5_isOrder_1 : decode cX5_isOrder 1 = .ok (.bipush 99, 2) := by decide +kernel
theorem dX5_isOrder_3 : decode cX5_isOrder 3 = .ok (.if_icmp .eq 9, 3) := by decide +kernel
theorem dX5_isOrder_6 : decode cX5_isOrder 6 = .ok (.iload_n 0, 1) := by decide +kernel
theorem dX5_isOrder_7 : decode cX5_isOrder 7 = .ok (.bipush 97, 2) := by decide +kernel
theorem dX5_isOrder_9 : decode cX5_isOrder 9 = .ok (.if_icmp .ne 7, 3) := by decide +kernel
theorem dX5_isOrder_12 : decode cX5_isOrder 12 = .ok (.iconst 1, 1) := by decide +kernel
theorem dX5_isOrder_13 : decode cX5_isOrder 13 = .ok (.goto 4, 3) := by decide +kernel
theorem dX5_isOrder_16 : decode cX5_isOrder 16 = .ok (.iconst 0, 1) := by decide +kernel
theorem dX5_isOrder_17 : decode cX5_isOrder 17 = .ok (.ireturn, 1) := by decide +kernel
theorem dX5_in_0 : decode cX5_in 0 = .ok (.iload_n 0, 1) := by decide +kernel
theorem dX5_in_1 : decode cX5_in 1 = .ok (.iload_n 1, 1) := by decide +kernel
theorem dX5_in_2 : decode cX5_in 2 = .ok (.if_icmp .lt 12, 3) := by decide +kernel
theorem dX5_in_5 : decode cX5_in 5 = .ok (.iload_n 0, 1) := by decide +kernel
theorem dX5_in_6 : decode cX5_in 6 = .ok (.iload_n 2, 1) := by decide +kernel
theorem dX5_in_7 : decode cX5_in 7 = .ok (.if_icmp .gt 7, 3) := by decide +kernel
theorem dX5_in_10 : decode cX5_in 10 = .ok (.iconst 1, 1) := by decide +kernel
theorem dX5_in_11 : decode cX5_in 11 = .ok (.goto 4, 3) := by decide +kernel
theorem dX5_in_14 : decode cX5_in 14 = .ok (.iconst 0, 1) := by decide +kernel
theorem dX5_in_15 : decode cX5_in 15 = .ok (.ireturn, 1) := by decide +kernel
theorem dX5_row_0 : decode cX5_row 0 = .ok (.iload_n 1, 1) := by decide +kernel
theorem dX5_row_1 : decode cX5_row 1 = .ok (.bipush 99, 2) := by decide +kernel
theorem dX5_row_3 : decode cX5_row 3 = .ok (.if_icmp .ne 10, 3) := by decide +kernel
theorem dX5_row_6 : decode cX5_row 6 = .ok (.aload_n 0, 1) := by decide +kernel
theorem dX5_row_7 : decode cX5_row 7 = .ok (.getfield 9, 3) := by decide +kernel
theorem dX5_row_10 : decode cX5_row 10 = .ok (.goto 7, 3) := by decide +kernel
theorem dX5_row_13 : decode cX5_row 13 = .ok (.aload_n 0, 1) := by decide +kernel
theorem dX5_row_14 : decode cX5_row 14 = .ok (.getfield 16, 3) := by decide +kernel
theorem dX5_row_17 : decode cX5_row 17 = .ok (.areturn, 1) := by decide +kernel
theorem dX5_place_0 : decode cX5_place 0 = .ok (.iconst 0, 1) := by decide +kernel
theorem dX5_place_1 : decode cX5_place 1 = .ok (.istore_n 3, 1) := by decide +kernel
theorem dX5_place_2 : decode cX5_place 2 = .ok (.iload_n 3, 1) := by decide +kernel
theorem dX5_place_3 : decode cX5_place 3 = .ok (.aload_n 0, 1) := by decide +kernel
theorem dX5_place_4 : decode cX5_place 4 = .ok (.getfield 57, 3) := by decide +kernel
theorem dX5_place_7 : decode cX5_place 7 = .ok (.if_icmp .ge 18, 3) := by decide +kernel
theorem dX5_place_10 : decode cX5_place 10 = .ok (.aload_n 1, 1) := by decide +kernel
theorem dX5_place_11 : decode cX5_place 11 = .ok (.iload_n 3, 1) := by decide +kernel
theorem dX5_place_12 : decode cX5_place 12 = .ok (.iaload, 1) := by decide +kernel
theorem dX5_place_13 : decode cX5_place 13 = .ok (.iload_n 2, 1) := by decide +kernel
theorem dX5_place_14 : decode cX5_place 14 = .ok (.if_icmp .ne 5, 3) := by decide +kernel
theorem dX5_place_17 : decode cX5_place 17 = .ok (.iload_n 3, 1) := by decide +kernel
theorem dX5_place_18 : decode cX5_place 18 = .ok (.ireturn, 1) := by decide +kernel
theorem dX5_place_19 : decode cX5_place 19 = .ok (.iinc 3 1, 3) := by decide +kernel
theorem dX5_place_22 : decode cX5_place 22 = .ok (.goto (-20), 3) := by decide +kernel
theorem dX5_place_25 : decode cX5_place 25 = .ok (.iconst (-1), 1) := by decide +kernel
theorem dX5_place_26 : decode cX5_place 26 = .ok (.ireturn, 1) := by decide +kernel
theorem dX5_copied_0 : decode cX5_copied 0 = .ok (.iconst 0, 1) := by decide +kernel
theorem dX5_copied_1 : decode cX5_copied 1 = .ok (.istore_n 2, 1) := by decide +kernel
theorem dX5_copied_2 : decode cX5_copied 2 = .ok (.iload_n 2, 1) := by decide +kernel
theorem dX5_copied_3 : decode cX5_copied 3 = .ok (.bipush 13, 2) := by decide +kernel
theorem dX5_copied_5 : decode cX5_copied 5 = .ok (.if_icmp .ge 15, 3) := by decide +kernel
theorem dX5_copied_8 : decode cX5_copied 8 = .ok (.aload_n 1, 1) := by decide +kernel
theorem dX5_copied_9 : decode cX5_copied 9 = .ok (.iload_n 2, 1) := by decide +kernel
theorem dX5_copied_10 : decode cX5_copied 10 = .ok (.aload_n 0, 1) := by decide +kernel
theorem dX5_copied_11 : decode cX5_copied 11 = .ok (.iload_n 2, 1) := by decide +kernel
theorem dX5_copied_12 : decode cX5_copied 12 = .ok (.iaload, 1) := by decide +kernel
theorem dX5_copied_13 : decode cX5_copied 13 = .ok (.iastore, 1) := by decide +kernel
theorem dX5_copied_14 : decode cX5_copied 14 = .ok (.iinc 2 1, 3) := by decide +kernel
theorem dX5_copied_17 : decode cX5_copied 17 = .ok (.goto (-15), 3) := by decide +kernel
theorem dX5_copied_20 : decode cX5_copied 20 = .ok (.return_, 1) := by decide +kernel
set_option maxRecDepth 20000 in
theorem ggX5_moved_X5_copied : GoodIn wsX5_moved wsX5_copied := goodIn_r _ [10] (by decide +kernel) (by decide +kernel)
set_option maxRecDepth 20000 in
theorem gX5_moved_X5_copied : GoodIn wsX5_moved (va_wsS RX5 60 yX5_copied wsX5_copied) := goodIn_app (goodIn_of _ (by decide +kernel)) ggX5_moved_X5_copied
theorem dX5_moved_0 : decode cX5_moved 0 = .ok (.aload_n 0, 1) := by decide +kernel
theorem dX5_moved_1 : decode cX5_moved 1 = .ok (.getfield 29, 3) := by decide +kernel
theorem dX5_moved_4 : decode cX5_moved 4 = .ok (.iload_n 1, 1) := by decide +kernel
theorem dX5_moved_5 : decode cX5_moved 5 = .ok (.aaload, 1) := by decide +kernel
theorem dX5_moved_6 : decode cX5_moved 6 = .ok (.aload_n 0, 1) := by decide +kernel
theorem dX5_moved_7 : decode cX5_moved 7 = .ok (.getfield 29, 3) := by decide +kernel
theorem dX5_moved_10 : decode cX5_moved 10 = .ok (.iload_n 2, 1) := by decide +kernel
theorem dX5_moved_11 : decode cX5_moved 11 = .ok (.aaload, 1) := by decide +kernel
theorem dX5_moved_12 : decode cX5_moved 12 = .ok (.invokestatic 60, 3) := by decide +kernel
theorem dX5_moved_15 : decode cX5_moved 15 = .ok (.aload_n 0, 1) := by decide +kernel
theorem dX5_moved_16 : decode cX5_moved 16 = .ok (.getfield 32, 3) := by decide +kernel
theorem dX5_moved_19 : decode cX5_moved 19 = .ok (.iload_n 1, 1) := by decide +kernel
theorem dX5_moved_20 : decode cX5_moved 20 = .ok (.aaload, 1) := by decide +kernel
theorem dX5_moved_21 : decode cX5_moved 21 = .ok (.aload_n 0, 1) := by decide +kernel
theorem dX5_moved_22 : decode cX5_moved 22 = .ok (.getfield 32, 3) := by decide +kernel
theorem dX5_moved_25 : decode cX5_moved 25 = .ok (.iload_n 2, 1) := by decide +kernel
theorem dX5_moved_26 : decode cX5_moved 26 = .ok (.aaload, 1) := by decide +kernel
theorem dX5_moved_27 : decode cX5_moved 27 = .ok (.invokestatic 60, 3) := by decide +kernel
theorem dX5_moved_30 : decode cX5_moved 30 = .ok (.aload_n 0, 1) := by decide +kernel
theorem dX5_moved_31 : decode cX5_moved 31 = .ok (.getfield 35, 3) := by decide +kernel
theorem dX5_moved_34 : decode cX5_moved 34 = .ok (.iload_n 1, 1) := by decide +kernel
theorem dX5_moved_35 : decode cX5_moved 35 = .ok (.aaload, 1) := by decide +kernel
theorem dX5_moved_36 : decode cX5_moved 36 = .ok (.aload_n 0, 1) := by decide +kernel
theorem dX5_moved_37 : decode cX5_moved 37 = .ok (.getfield 35, 3) := by decide +kernel
theorem dX5_moved_40 : decode cX5_moved 40 = .ok (.iload_n 2, 1) := by decide +kernel
theorem dX5_moved_41 : decode cX5_moved 41 = .ok (.aaload, 1) := by decide +kernel
theorem dX5_moved_42 : decode cX5_moved 42 = .ok (.invokestatic 60, 3) := by decide +kernel
theorem dX5_moved_45 : decode cX5_moved 45 = .ok (.aload_n 0, 1) := by decide +kernel
theorem dX5_moved_46 : decode cX5_moved 46 = .ok (.getfield 38, 3) := by decide +kernel
theorem dX5_moved_49 : decode cX5_moved 49 = .ok (.iload_n 2, 1) := by decide +kernel
theorem dX5_moved_50 : decode cX5_moved 50 = .ok (.aload_n 0, 1) := by decide +kernel
theorem dX5_moved_51 : decode cX5_moved 51 = .ok (.getfield 38, 3) := by decide +kernel
theorem dX5_moved_54 : decode cX5_moved 54 = .ok (.iload_n 1, 1) := by decide +kernel
theorem dX5_moved_55 : decode cX5_moved 55 = .ok (.iaload, 1) := by decide +kernel
theorem dX5_moved_56 : decode cX5_moved 56 = .ok (.iastore, 1) := by decide +kernel
theorem dX5_moved_57 : decode cX5_moved 57 = .ok (.aload_n 0, 1) := by decide +kernel
theorem dX5_moved_58 : decode cX5_moved 58 = .ok (.getfield 41, 3) := by decide +kernel
theorem dX5_moved_61 : decode cX5_moved 61 = .ok (.iload_n 2, 1) := by decide +kernel
theorem dX5_moved_62 : decode cX5_moved 62 = .ok (.aload_n 0, 1) := by decide +kernel
theorem dX5_moved_63 : decode cX5_moved 63 = .ok (.getfield 41, 3) := by decide +kernel
theorem dX5_moved_66 : decode cX5_moved 66 = .ok (.iload_n 1, 1) := by decide +kernel
theorem dX5_moved_67 : decode cX5_moved 67 = .ok (.iaload, 1) := by decide +kernel
theorem dX5_moved_68 : decode cX5_moved 68 = .ok (.iastore, 1) := by decide +kernel
theorem dX5_moved_69 : decode cX5_moved 69 = .ok (.aload_n 0, 1) := by decide +kernel
theorem dX5_moved_70 : decode cX5_moved 70 = .ok (.getfield 44, 3) := by decide +kernel
theorem dX5_moved_73 : decode cX5_moved 73 = .ok (.iload_n 2, 1) := by decide +kernel
theorem dX5_moved_74 : decode cX5_moved 74 = .ok (.aload_n 0, 1) := by decide +kernel
theorem dX5_moved_75 : decode cX5_moved 75 = .ok (.getfield 44, 3) := by decide +kernel
theorem dX5_moved_78 : decode cX5_moved 78 = .ok (.iload_n 1, 1) := by decide +kernel
theorem dX5_moved_79 : decode cX5_moved 79 = .ok (.caload, 1) := by decide +kernel
theorem dX5_moved_80 : decode cX5_moved 80 = .ok (.castore, 1) := by decide +kernel
theorem dX5_moved_81 : decode cX5_moved 81 = .ok (.return_, 1) := by decide +kernel
set_option maxRecDepth 20000 in
theorem ggX5_keeps_X5_moved : GoodIn wsX5_keeps wsX5_moved := goodIn_r _ [18, 3, 5, 7, 8, 10, 12, 19, 20, 17, 21, 22, 23, 24, 25, 26, 27, 28, 29, 30, 31, 32, 33, 34, 35, 36, 37, 38, 39, 40] (by decide +kernel) (by decide +kernel)
set_option maxRecDepth 20000 in
theorem gX5_keeps_X5_moved : GoodIn wsX5_keeps (wsV RX5 67 RX5 yX5_moved wsX5_moved) := goodIn_app (goodIn_of _ (by decide +kernel)) ggX5_keeps_X5_moved
set_option maxRecDepth 20000 in
theorem ggX5_keeps_X5_copied : GoodIn wsX5_keeps wsX5_copied := goodIn_r _ [21] (by decide +kernel) (by decide +kernel)
set_option maxRecDepth 20000 in
theorem gX5_keeps_X5_copied : GoodIn wsX5_keeps (va_wsS RX5 60 yX5_copied wsX5_copied) := goodIn_app (goodIn_of _ (by decide +kernel)) ggX5_keeps_X5_copied
theorem dX5_keeps_0 : decode cX5_keeps 0 = .ok (.aload_n 0, 1) := by decide +kernel
theorem dX5_keeps_1 : decode cX5_keeps 1 = .ok (.getfield 64, 3) := by decide +kernel
theorem dX5_keeps_4 : decode cX5_keeps 4 = .ok (.bipush 8, 2) := by decide +kernel
theorem dX5_keeps_6 : decode cX5_keeps 6 = .ok (.if_icmp .ne 35, 3) := by decide +kernel
theorem dX5_keeps_9 : decode cX5_keeps 9 = .ok (.iconst 1, 1) := by decide +kernel
theorem dX5_keeps_10 : decode cX5_keeps 10 = .ok (.istore_n 1, 1) := by decide +kernel
theorem dX5_keeps_11 : decode cX5_keeps 11 = .ok (.iload_n 1, 1) := by decide +kernel
theorem dX5_keeps_12 : decode cX5_keeps 12 = .ok (.bipush 8, 2) := by decide +kernel
theorem dX5_keeps_14 : decode cX5_keeps 14 = .ok (.if_icmp .ge 17, 3) := by decide +kernel
theorem dX5_keeps_17 : decode cX5_keeps 17 = .ok (.aload_n 0, 1) := by decide +kernel
theorem dX5_keeps_18 : decode cX5_keeps 18 = .ok (.iload_n 1, 1) := by decide +kernel
theorem dX5_keeps_19 : decode cX5_keeps 19 = .ok (.iload_n 1, 1) := by decide +kernel
theorem dX5_keeps_20 : decode cX5_keeps 20 = .ok (.iconst 1, 1) := by decide +kernel
theorem dX5_keeps_21 : decode cX5_keeps 21 = .ok (.isub, 1) := by decide +kernel
theorem dX5_keeps_22 : decode cX5_keeps 22 = .ok (.invokevirtual 67, 3) := by decide +kernel
theorem dX5_keeps_25 : decode cX5_keeps 25 = .ok (.iinc 1 1, 3) := by decide +kernel
theorem dX5_keeps_28 : decode cX5_keeps 28 = .ok (.goto (-17), 3) := by decide +kernel
theorem dX5_keeps_31 : decode cX5_keeps 31 = .ok (.aload_n 0, 1) := by decide +kernel
theorem dX5_keeps_32 : decode cX5_keeps 32 = .ok (.dup, 1) := by decide +kernel
theorem dX5_keeps_33 : decode cX5_keeps 33 = .ok (.getfield 64, 3) := by decide +kernel
theorem dX5_keeps_36 : decode cX5_keeps 36 = .ok (.iconst 1, 1) := by decide +kernel
theorem dX5_keeps_37 : decode cX5_keeps 37 = .ok (.isub, 1) := by decide +kernel
theorem dX5_keeps_38 : decode cX5_keeps 38 = .ok (.putfield 64, 3) := by decide +kernel
theorem dX5_keeps_41 : decode cX5_keeps 41 = .ok (.aload_n 0, 1) := by decide +kernel
theorem dX5_keeps_42 : decode cX5_keeps 42 = .ok (.getfield 9, 3) := by decide +kernel
theorem dX5_keeps_45 : decode cX5_keeps 45 = .ok (.aload_n 0, 1) := by decide +kernel
theorem dX5_keeps_46 : decode cX5_keeps 46 = .ok (.getfield 29, 3) := by decide +kernel
theorem dX5_keeps_49 : decode cX5_keeps 49 = .ok (.aload_n 0, 1) := by decide +kernel
theorem dX5_keeps_50 : decode cX5_keeps 50 = .ok (.getfield 64, 3) := by decide +kernel
theorem dX5_keeps_53 : decode cX5_keeps 53 = .ok (.aaload, 1) := by decide +kernel
theorem dX5_keeps_54 : decode cX5_keeps 54 = .ok (.invokestatic 60, 3) := by decide +kernel
theorem dX5_keeps_57 : decode cX5_keeps 57 = .ok (.aload_n 0, 1) := by decide +kernel
theorem dX5_keeps_58 : decode cX5_keeps 58 = .ok (.getfield 13, 3) := by decide +kernel
theorem dX5_keeps_61 : decode cX5_keeps 61 = .ok (.aload_n 0, 1) := by decide +kernel
theorem dX5_keeps_62 : decode cX5_keeps 62 = .ok (.getfield 32, 3) := by decide +kernel
theorem dX5_keeps_65 : decode cX5_keeps 65 = .ok (.aload_n 0, 1) := by decide +kernel
theorem dX5_keeps_66 : decode cX5_keeps 66 = .ok (.getfield 64, 3) := by decide +kernel
theorem dX5_keeps_69 : decode cX5_keeps 69 = .ok (.aaload, 1) := by decide +kernel
theorem dX5_keeps_70 : decode cX5_keeps 70 = .ok (.invokestatic 60, 3) := by decide +kernel
theorem dX5_keeps_73 : decode cX5_keeps 73 = .ok (.aload_n 0, 1) := by decide +kernel
theorem dX5_keeps_74 : decode cX5_keeps 74 = .ok (.getfield 16, 3) := by decide +kernel
theorem dX5_keeps_77 : decode cX5_keeps 77 = .ok (.aload_n 0, 1) := by decide +kernel
theorem dX5_keeps_78 : decode cX5_keeps 78 = .ok (.getfield 35, 3) := by decide +kernel
theorem dX5_keeps_81 : decode cX5_keeps 81 = .ok (.aload_n 0, 1) := by decide +kernel
theorem dX5_keeps_82 : decode cX5_keeps 82 = .ok (.getfield 64, 3) := by decide +kernel
theorem dX5_keeps_85 : decode cX5_keeps 85 = .ok (.aaload, 1) := by decide +kernel
theorem dX5_keeps_86 : decode cX5_keeps 86 = .ok (.invokestatic 60, 3) := by decide +kernel
theorem dX5_keeps_89 : decode cX5_keeps 89 = .ok (.aload_n 0, 1) := by decide +kernel
theorem dX5_keeps_90 : decode cX5_keeps 90 = .ok (.getfield 38, 3) := by decide +kernel
theorem dX5_keeps_93 : decode cX5_keeps 93 = .ok (.aload_n 0, 1) := by decide +kernel
theorem dX5_keeps_94 : decode cX5_keeps 94 = .ok (.getfield 64, 3) := by decide +kernel
theorem dX5_keeps_97 : decode cX5_keeps 97 = .ok (.aload_n 0, 1) := by decide +kernel
theorem dX5_keeps_98 : decode cX5_keeps 98 = .ok (.getfield 57, 3) := by decide +kernel
theorem dX5_keeps_101 : decode cX5_keeps 101 = .ok (.iastore, 1) := by decide +kernel
theorem dX5_keeps_102 : decode cX5_keeps 102 = .ok (.aload_n 0, 1) := by decide +kernel
theorem dX5_keeps_103 : decode cX5_keeps 103 = .ok (.getfield 41, 3) := by decide +kernel
theorem dX5_keeps_106 : decode cX5_keeps 106 = .ok (.aload_n 0, 1) := by decide +kernel
theorem dX5_keeps_107 : decode cX5_keeps 107 = .ok (.getfield 64, 3) := by decide +kernel
theorem dX5_keeps_110 : decode cX5_keeps 110 = .ok (.aload_n 0, 1) := by decide +kernel
theorem dX5_keeps_111 : decode cX5_keeps 111 = .ok (.getfield 19, 3) := by decide +kernel
theorem dX5_keeps_114 : decode cX5_keeps 114 = .ok (.iastore, 1) := by decide +kernel
theorem dX5_keeps_115 : decode cX5_keeps 115 = .ok (.aload_n 0, 1) := by decide +kernel
theorem dX5_keeps_116 : decode cX5_keeps 116 = .ok (.getfield 44, 3) := by decide +kernel
theorem dX5_keeps_119 : decode cX5_keeps 119 = .ok (.aload_n 0, 1) := by decide +kernel
theorem dX5_keeps_120 : decode cX5_keeps 120 = .ok (.getfield 64, 3) := by decide +kernel
theorem dX5_keeps_123 : decode cX5_keeps 123 = .ok (.aload_n 0, 1) := by decide +kernel
theorem dX5_keeps_124 : decode cX5_keeps 124 = .ok (.getfield 23, 3) := by decide +kernel
theorem dX5_keeps_127 : decode cX5_keeps 127 = .ok (.castore, 1) := by decide +kernel
theorem dX5_keeps_128 : decode cX5_keeps 128 = .ok (.aload_n 0, 1) := by decide +kernel
theorem dX5_keeps_129 : decode cX5_keeps 129 = .ok (.dup, 1) := by decide +kernel
theorem dX5_keeps_130 : decode cX5_keeps 130 = .ok (.getfield 64, 3) := by decide +kernel
theorem dX5_keeps_133 : decode cX5_keeps 133 = .ok (.iconst 1, 1) := by decide +kernel
theorem dX5_keeps_134 : decode cX5_keeps 134 = .ok (.iadd, 1) := by decide +kernel
theorem dX5_keeps_135 : decode cX5_keeps 135 = .ok (.putfield 64, 3) := by decide +kernel
theorem dX5_keeps_138 : decode cX5_keeps 138 = .ok (.return_, 1) := by decide +kernel
set_option maxRecDepth 20000 in
theorem ggX5_changes_X5_keeps : GoodIn wsX5_changes wsX5_keeps := goodIn_r _ [6, 7, 8, 9, 10, 11, 12, 13, 14, 15, 16, 17, 18, 19, 20, 21, 22, 5, 23, 24, 25, 26, 27, 28, 29, 30, 31, 32, 33, 34, 35, 36, 37, 38, 39, 40, 41, 42, 43, 44, 45] (by decide +kernel) (by decide +kernel)
set_option maxRecDepth 20000 in
theorem gX5_changes_X5_keeps : GoodIn wsX5_changes (wsV RX5 71 RX5 yX5_keeps wsX5_keeps) := goodIn_app (goodIn_of _ (by decide +kernel)) ggX5_changes_X5_keeps
theorem dX5_changes_0 : decode cX5_changes 0 = .ok (.aload_n 0, 1) := by decide +kernel
theorem dX5_changes_1 : decode cX5_changes 1 = .ok (.invokevirtual 71, 3) := by decide +kernel
theorem dX5_changes_4 : decode cX5_changes 4 = .ok (.aload_n 0, 1) := by decide +kernel
theorem dX5_changes_5 : decode cX5_changes 5 = .ok (.iconst 0, 1) := by decide +kernel
theorem dX5_changes_6 : decode cX5_changes 6 = .ok (.putfield 74, 3) := by decide +kernel
theorem dX5_changes_9 : decode cX5_changes 9 = .ok (.return_, 1) := by decide +kernel
set_option maxRecDepth 20000 in
theorem ggX5_touched_X5_place : GoodIn wsX5_touched wsX5_place := goodIn_r _ [7, 2, 8, 9, 10, 11, 12, 13, 14, 15, 16, 17, 18, 19, 20, 21, 22, 23, 24, 25, 26] (by decide +kernel) (by decide +kernel)
set_option maxRecDepth 20000 in
theorem gX5_touched_X5_place : GoodIn wsX5_touched (wsV RX5 78 RX5 yX5_place wsX5_place) := goodIn_app (goodIn_of _ (by decide +kernel)) ggX5_touched_X5_place
theorem dX5_touched_0 : decode cX5_touched 0 = .ok (.aload_n 0, 1) := by decide +kernel
theorem dX5_touched_1 : decode cX5_touched 1 = .ok (.aload_n 0, 1) := by decide +kernel
theorem dX5_touched_2 : decode cX5_touched 2 = .ok (.getfield 16, 3) := by decide +kernel
theorem dX5_touched_5 : decode cX5_touched 5 = .ok (.iload_n 1, 1) := by decide +kernel
theorem dX5_touched_6 : decode cX5_touched 6 = .ok (.invokevirtual 78, 3) := by decide +kernel
theorem dX5_touched_9 : decode cX5_touched 9 = .ok (.istore_n 2, 1) := by decide +kernel
theorem dX5_touched_10 : decode cX5_touched 10 = .ok (.iload_n 2, 1) := by decide +kernel
theorem dX5_touched_11 : decode cX5_touched 11 = .ok (.istore_n 3, 1) := by decide +kernel
theorem dX5_touched_12 : decode cX5_touched 12 = .ok (.iload_n 3, 1) := by decide +kernel
theorem dX5_touched_13 : decode cX5_touched 13 = .ok (.iconst 1, 1) := by decide +kernel
theorem dX5_touched_14 : decode cX5_touched 14 = .ok (.iadd, 1) := by decide +kernel
theorem dX5_touched_15 : decode cX5_touched 15 = .ok (.aload_n 0, 1) := by decide +kernel
theorem dX5_touched_16 : decode cX5_touched 16 = .ok (.getfield 57, 3) := by decide +kernel
theorem dX5_touched_19 : decode cX5_touched 19 = .ok (.if_icmp .ge 23, 3) := by decide +kernel
theorem dX5_touched_22 : decode cX5_touched 22 = .ok (.aload_n 0, 1) := by decide +kernel
theorem dX5_touched_23 : decode cX5_touched 23 = .ok (.getfield 16, 3) := by decide +kernel
theorem dX5_touched_26 : decode cX5_touched 26 = .ok (.iload_n 3, 1) := by decide +kernel
theorem dX5_touched_27 : decode cX5_touched 27 = .ok (.aload_n 0, 1) := by decide +kernel
theorem dX5_touched_28 : decode cX5_touched 28 = .ok (.getfield 16, 3) := by decide +kernel
theorem dX5_touched_31 : decode cX5_touched 31 = .ok (.iload_n 3, 1) := by decide +kernel
theorem dX5_touched_32 : decode cX5_touched 32 = .ok (.iconst 1, 1) := by decide +kernel
theorem dX5_touched_33 : decode cX5_touched 33 = .ok (.iadd, 1) := by decide +kernel
theorem dX5_touched_34 : decode cX5_touched 34 = .ok (.iaload, 1) := by decide +kernel
theorem dX5_touched_35 : decode cX5_touched 35 = .ok (.iastore, 1) := by decide +kernel
theorem dX5_touched_36 : decode cX5_touched 36 = .ok (.iinc 3 1, 3) := by decide +kernel
theorem dX5_touched_39 : decode cX5_touched 39 = .ok (.goto (-27), 3) := by decide +kernel
theorem dX5_touched_42 : decode cX5_touched 42 = .ok (.aload_n 0, 1) := by decide +kernel
theorem dX5_touched_43 : decode cX5_touched 43 = .ok (.getfield 16, 3) := by decide +kernel
theorem dX5_touched_46 : decode cX5_touched 46 = .ok (.aload_n 0, 1) := by decide +kernel
theorem dX5_touched_47 : decode cX5_touched 47 = .ok (.getfield 57, 3) := by decide +kernel
theorem dX5_touched_50 : decode cX5_touched 50 = .ok (.iconst 1, 1) := by decide +kernel
theorem dX5_touched_51 : decode cX5_touched 51 = .ok (.isub, 1) := by decide +kernel
theorem dX5_touched_52 : decode cX5_touched 52 = .ok (.iload_n 1, 1) := by decide +kernel
theorem dX5_touched_53 : decode cX5_touched 53 = .ok (.iastore, 1) := by decide +kernel
theorem dX5_touched_54 : decode cX5_touched 54 = .ok (.return_, 1) := by decide +kernel
set_option maxRecDepth 20000 in
theorem ggX5_out_X5_place : GoodIn wsX5_out wsX5_place := goodIn_r _ [9, 2, 10, 11, 12, 13, 14, 15, 16, 17, 18, 19, 20, 21, 22, 23, 24, 25, 26, 27, 28] (by decide +kernel) (by decide +kernel)
set_option maxRecDepth 20000 in
theorem gX5_out_X5_place : GoodIn wsX5_out (wsV RX5 78 RX5 yX5_place wsX5_place) := goodIn_app (goodIn_of _ (by decide +kernel)) ggX5_out_X5_place
theorem dX5_out_0 : decode cX5_out 0 = .ok (.aload_n 0, 1) := by decide +kernel
theorem dX5_out_1 : decode cX5_out 1 = .ok (.aload_n 0, 1) := by decide +kernel
theorem dX5_out_2 : decode cX5_out 2 = .ok (.getfield 9, 3) := by decide +kernel
theorem dX5_out_5 : decode cX5_out 5 = .ok (.iload_n 1, 1) := by decide +kernel
theorem dX5_out_6 : decode cX5_out 6 = .ok (.invokevirtual 78, 3) := by decide +kernel
theorem dX5_out_9 : decode cX5_out 9 = .ok (.istore_n 2, 1) := by decide +kernel
theorem dX5_out_10 : decode cX5_out 10 = .ok (.iload_n 2, 1) := by decide +kernel
theorem dX5_out_11 : decode cX5_out 11 = .ok (.istore_n 3, 1) := by decide +kernel
theorem dX5_out_12 : decode cX5_out 12 = .ok (.iload_n 3, 1) := by decide +kernel
theorem dX5_out_13 : decode cX5_out 13 = .ok (.iconst 1, 1) := by decide +kernel
theorem dX5_out_14 : decode cX5_out 14 = .ok (.iadd, 1) := by decide +kernel
theorem dX5_out_15 : decode cX5_out 15 = .ok (.aload_n 0, 1) := by decide +kernel
theorem dX5_out_16 : decode cX5_out 16 = .ok (.getfield 57, 3) := by decide +kernel
theorem dX5_out_19 : decode cX5_out 19 = .ok (.if_icmp .ge 37, 3) := by decide +kernel
theorem dX5_out_22 : decode cX5_out 22 = .ok (.aload_n 0, 1) := by decide +kernel
theorem dX5_out_23 : decode cX5_out 23 = .ok (.getfield 9, 3) := by decide +kernel
theorem dX5_out_26 : decode cX5_out 26 = .ok (.iload_n 3, 1) := by decide +kernel
theorem dX5_out_27 : decode cX5_out 27 = .ok (.aload_n 0, 1) := by decide +kernel
theorem dX5_out_28 : decode cX5_out 28 = .ok (.getfield 9, 3) := by decide +kernel
theorem dX5_out_31 : decode cX5_out 31 = .ok (.iload_n 3, 1) := by decide +kernel
theorem dX5_out_32 : decode cX5_out 32 = .ok (.iconst 1, 1) := by decide +kernel
theorem dX5_out_33 : decode cX5_out 33 = .ok (.iadd, 1) := by decide +kernel
theorem dX5_out_34 : decode cX5_out 34 = .ok (.iaload, 1) := by decide +kernel
theorem dX5_out_35 : decode cX5_out 35 = .ok (.iastore, 1) := by decide +kernel
theorem dX5_out_36 : decode cX5_out 36 = .ok (.aload_n 0, 1) := by decide +kernel
theorem dX5_out_37 : decode cX5_out 37 = .ok (.getfield 13, 3) := by decide +kernel
theorem dX5_out_40 : decode cX5_out 40 = .ok (.iload_n 3, 1) := by decide +kernel
theorem dX5_out_41 : decode cX5_out 41 = .ok (.aload_n 0, 1) := by decide +kernel
theorem dX5_out_42 : decode cX5_out 42 = .ok (.getfield 13, 3) := by decide +kernel
theorem dX5_out_45 : decode cX5_out 45 = .ok (.iload_n 3, 1) := by decide +kernel
theorem dX5_out_46 : decode cX5_out 46 = .ok (.iconst 1, 1) := by decide +kernel
theorem dX5_out_47 : decode cX5_out 47 = .ok (.iadd, 1) := by decide +kernel
theorem dX5_out_48 : decode cX5_out 48 = .ok (.iaload, 1) := by decide +kernel
theorem dX5_out_49 : decode cX5_out 49 = .ok (.iastore, 1) := by decide +kernel
theorem dX5_out_50 : decode cX5_out 50 = .ok (.iinc 3 1, 3) := by decide +kernel
theorem dX5_out_53 : decode cX5_out 53 = .ok (.goto (-41), 3) := by decide +kernel
theorem dX5_out_56 : decode cX5_out 56 = .ok (.aload_n 0, 1) := by decide +kernel
theorem dX5_out_57 : decode cX5_out 57 = .ok (.aload_n 0, 1) := by decide +kernel
theorem dX5_out_58 : decode cX5_out 58 = .ok (.getfield 16, 3) := by decide +kernel
theorem dX5_out_61 : decode cX5_out 61 = .ok (.iload_n 1, 1) := by decide +kernel
theorem dX5_out_62 : decode cX5_out 62 = .ok (.invokevirtual 78, 3) := by decide +kernel
theorem dX5_out_65 : decode cX5_out 65 = .ok (.istore_n 2, 1) := by decide +kernel
theorem dX5_out_66 : decode cX5_out 66 = .ok (.iload_n 2, 1) := by decide +kernel
theorem dX5_out_67 : decode cX5_out 67 = .ok (.istore_n 3, 1) := by decide +kernel
theorem dX5_out_68 : decode cX5_out 68 = .ok (.iload_n 3, 1) := by decide +kernel
theorem dX5_out_69 : decode cX5_out 69 = .ok (.iconst 1, 1) := by decide +kernel
theorem dX5_out_70 : decode cX5_out 70 = .ok (.iadd, 1) := by decide +kernel
theorem dX5_out_71 : decode cX5_out 71 = .ok (.aload_n 0, 1) := by decide +kernel
theorem dX5_out_72 : decode cX5_out 72 = .ok (.getfield 57, 3) := by decide +kernel
theorem dX5_out_75 : decode cX5_out 75 = .ok (.if_icmp .ge 23, 3) := by decide +kernel
theorem dX5_out_78 : decode cX5_out 78 = .ok (.aload_n 0, 1) := by decide +kernel
theorem dX5_out_79 : decode cX5_out 79 = .ok (.getfield 16, 3) := by decide +kernel
theorem dX5_out_82 : decode cX5_out 82 = .ok (.iload_n 3, 1) := by decide +kernel
theorem dX5_out_83 : decode cX5_out 83 = .ok (.aload_n 0, 1) := by decide +kernel
theorem dX5_out_84 : decode cX5_out 84 = .ok (.getfield 16, 3) := by decide +kernel
theorem dX5_out_87 : decode cX5_out 87 = .ok (.iload_n 3, 1) := by decide +kernel
theorem dX5_out_88 : decode cX5_out 88 = .ok (.iconst 1, 1) := by decide +kernel
theorem dX5_out_89 : decode cX5_out 89 = .ok (.iadd, 1) := by decide +kernel
theorem dX5_out_90 : decode cX5_out 90 = .ok (.iaload, 1) := by decide +kernel
theorem dX5_out_91 : decode cX5_out 91 = .ok (.iastore, 1) := by decide +kernel
theorem dX5_out_92 : decode cX5_out 92 = .ok (.iinc 3 1, 3) := by decide +kernel
theorem dX5_out_95 : decode cX5_out 95 = .ok (.goto (-27), 3) := by decide +kernel
theorem dX5_out_98 : decode cX5_out 98 = .ok (.aload_n 0, 1) := by decide +kernel
theorem dX5_out_99 : decode cX5_out 99 = .ok (.dup, 1) := by decide +kernel
theorem dX5_out_100 : decode cX5_out 100 = .ok (.getfield 57, 3) := by decide +kernel
theorem dX5_out_103 : decode cX5_out 103 = .ok (.iconst 1, 1) := by decide +kernel
theorem dX5_out_104 : decode cX5_out 104 = .ok (.isub, 1) := by decide +kernel
theorem dX5_out_105 : decode cX5_out 105 = .ok (.putfield 57, 3) := by decide +kernel
theorem dX5_out_108 : decode cX5_out 108 = .ok (.return_, 1) := by decide +kernel
set_option maxRecDepth 20000 in
theorem ggX5_comesIn_X5_row : GoodIn wsX5_comesIn wsX5_row := goodIn_r _ [11, 1, 4, 20, 21, 22, 23, 24, 25, 26, 27, 28, 29, 30, 31, 32, 33, 34, 35, 36, 37, 38] (by decide +kernel) (by decide +kernel)
set_option maxRecDepth 20000 in
theorem gX5_comesIn_X5_row : GoodIn wsX5_comesIn (wsV RX5 82 RX5 yX5_row wsX5_row) := goodIn_app (goodIn_of _ (by decide +kernel)) ggX5_comesIn_X5_row
set_option maxRecDepth 20000 in
theorem ggX5_comesIn_X5_out : GoodIn wsX5_comesIn wsX5_out := goodIn_r _ [15, 1, 2, 3, 4, 16, 17, 18, 10, 19, 20, 21, 22, 23, 24, 25, 26, 27, 28, 29, 30, 31, 32, 33, 34, 35, 36, 37, 38] (by decide +kernel) (by decide +kernel)
set_option maxRecDepth 20000 in
theorem gX5_comesIn_X5_out : GoodIn wsX5_comesIn (wsV RX5 86 RX5 yX5_out wsX5_out) := goodIn_app (goodIn_of _ (by decide +kernel)) ggX5_comesIn_X5_out
theorem dX5_comesIn_0 : decode cX5_comesIn 0 = .ok (.aload_n 0, 1) := by decide +kernel
theorem dX5_comesIn_1 : decode cX5_comesIn 1 = .ok (.getfield 9, 3) := by decide +kernel
theorem dX5_comesIn_4 : decode cX5_comesIn 4 = .ok (.aload_n 0, 1) := by decide +kernel
theorem dX5_comesIn_5 : decode cX5_comesIn 5 = .ok (.getfield 57, 3) := by decide +kernel
theorem dX5_comesIn_8 : decode cX5_comesIn 8 = .ok (.iload_n 1, 1) := by decide +kernel
theorem dX5_comesIn_9 : decode cX5_comesIn 9 = .ok (.iastore, 1) := by decide +kernel
theorem dX5_comesIn_10 : decode cX5_comesIn 10 = .ok (.aload_n 0, 1) := by decide +kernel
theorem dX5_comesIn_11 : decode cX5_comesIn 11 = .ok (.getfield 13, 3) := by decide +kernel
theorem dX5_comesIn_14 : decode cX5_comesIn 14 = .ok (.aload_n 0, 1) := by decide +kernel
theorem dX5_comesIn_15 : decode cX5_comesIn 15 = .ok (.getfield 57, 3) := by decide +kernel
theorem dX5_comesIn_18 : decode cX5_comesIn 18 = .ok (.iload_n 2, 1) := by decide +kernel
theorem dX5_comesIn_19 : decode cX5_comesIn 19 = .ok (.iastore, 1) := by decide +kernel
theorem dX5_comesIn_20 : decode cX5_comesIn 20 = .ok (.aload_n 0, 1) := by decide +kernel
theorem dX5_comesIn_21 : decode cX5_comesIn 21 = .ok (.getfield 16, 3) := by decide +kernel
theorem dX5_comesIn_24 : decode cX5_comesIn 24 = .ok (.aload_n 0, 1) := by decide +kernel
theorem dX5_comesIn_25 : decode cX5_comesIn 25 = .ok (.getfield 57, 3) := by decide +kernel
theorem dX5_comesIn_28 : decode cX5_comesIn 28 = .ok (.iload_n 1, 1) := by decide +kernel
theorem dX5_comesIn_29 : decode cX5_comesIn 29 = .ok (.iastore, 1) := by decide +kernel
theorem dX5_comesIn_30 : decode cX5_comesIn 30 = .ok (.aload_n 0, 1) := by decide +kernel
theorem dX5_comesIn_31 : decode cX5_comesIn 31 = .ok (.dup, 1) := by decide +kernel
theorem dX5_comesIn_32 : decode cX5_comesIn 32 = .ok (.getfield 57, 3) := by decide +kernel
theorem dX5_comesIn_35 : decode cX5_comesIn 35 = .ok (.iconst 1, 1) := by decide +kernel
theorem dX5_comesIn_36 : decode cX5_comesIn 36 = .ok (.iadd, 1) := by decide +kernel
theorem dX5_comesIn_37 : decode cX5_comesIn 37 = .ok (.putfield 57, 3) := by decide +kernel
theorem dX5_comesIn_40 : decode cX5_comesIn 40 = .ok (.aload_n 0, 1) := by decide +kernel
theorem dX5_comesIn_41 : decode cX5_comesIn 41 = .ok (.getfield 57, 3) := by decide +kernel
theorem dX5_comesIn_44 : decode cX5_comesIn 44 = .ok (.aload_n 0, 1) := by decide +kernel
theorem dX5_comesIn_45 : decode cX5_comesIn 45 = .ok (.getfield 19, 3) := by decide +kernel
theorem dX5_comesIn_48 : decode cX5_comesIn 48 = .ok (.if_icmp .gt 5, 3) := by decide +kernel
theorem dX5_comesIn_51 : decode cX5_comesIn 51 = .ok (.iconst (-1), 1) := by decide +kernel
theorem dX5_comesIn_52 : decode cX5_comesIn 52 = .ok (.ireturn, 1) := by decide +kernel
theorem dX5_comesIn_53 : decode cX5_comesIn 53 = .ok (.aload_n 0, 1) := by decide +kernel
theorem dX5_comesIn_54 : decode cX5_comesIn 54 = .ok (.aload_n 0, 1) := by decide +kernel
theorem dX5_comesIn_55 : decode cX5_comesIn 55 = .ok (.getfield 23, 3) := by decide +kernel
theorem dX5_comesIn_58 : decode cX5_comesIn 58 = .ok (.invokevirtual 82, 3) := by decide +kernel
theorem dX5_comesIn_61 : decode cX5_comesIn 61 = .ok (.iconst 0, 1) := by decide +kernel
theorem dX5_comesIn_62 : decode cX5_comesIn 62 = .ok (.iaload, 1) := by decide +kernel
theorem dX5_comesIn_63 : decode cX5_comesIn 63 = .ok (.istore_n 3, 1) := by decide +kernel
theorem dX5_comesIn_64 : decode cX5_comesIn 64 = .ok (.aload_n 0, 1) := by decide +kernel
theorem dX5_comesIn_65 : decode cX5_comesIn 65 = .ok (.iload_n 3, 1) := by decide +kernel
theorem dX5_comesIn_66 : decode cX5_comesIn 66 = .ok (.invokevirtual 86, 3) := by decide +kernel
theorem dX5_comesIn_69 : decode cX5_comesIn 69 = .ok (.iload_n 3, 1) := by decide +kernel
theorem dX5_comesIn_70 : decode cX5_comesIn 70 = .ok (.ireturn, 1) := by decide +kernel
set_option maxRecDepth 20000 in
theorem ggX5_put_X5_in : GoodIn wsX5_put wsX5_in := goodIn_r _ [6] (by decide +kernel) (by decide +kernel)
set_option maxRecDepth 20000 in
theorem gX5_put_X5_in : GoodIn wsX5_put (va_wsS RX5 90 yX5_in wsX5_in) := goodIn_app (goodIn_of _ (by decide +kernel)) ggX5_put_X5_in
set_option maxRecDepth 20000 in
theorem ggX5_put_X5_no : GoodIn wsX5_put wsX5_no := goodIn_r _ [10, 11, 59, 60, 61, 62, 63, 64, 65, 66, 67, 68, 69, 70, 71, 72, 73, 74, 75, 76, 77] (by decide +kernel) (by decide +kernel)
set_option maxRecDepth 20000 in
theorem gX5_put_X5_no : GoodIn wsX5_put (wsV RX5 94 RX5 yX5_no wsX5_no) := goodIn_app (goodIn_of _ (by decide +kernel)) ggX5_put_X5_no
set_option maxRecDepth 20000 in
theorem ggX5_put_X5_changes : GoodIn wsX5_put wsX5_changes := goodIn_r _ [15, 16, 17, 18, 19, 5, 20, 21, 1, 22, 2, 23, 24, 25, 26, 27, 28, 29, 30, 31, 32, 33, 34, 35, 36, 37, 38, 59, 60, 61, 62, 63, 64, 65, 66, 67, 68, 69, 70, 71, 72, 73, 74, 75, 76, 77] (by decide +kernel) (by decide +kernel)
set_option maxRecDepth 20000 in
theorem gX5_put_X5_changes : GoodIn wsX5_put (wsV RX5 98 RX5 yX5_changes wsX5_changes) := goodIn_app (goodIn_of _ (by decide +kernel)) ggX5_put_X5_changes
set_option maxRecDepth 20000 in
theorem ggX5_put_X5_place : GoodIn wsX5_put wsX5_place := goodIn_r _ [42, 27, 59, 60, 61, 62, 63, 64, 65, 66, 67, 68, 69, 70, 71, 72, 73, 74, 75, 76, 77] (by decide +kernel) (by decide +kernel)
set_option maxRecDepth 20000 in
theorem gX5_put_X5_place : GoodIn wsX5_put (wsV RX5 78 RX5 yX5_place wsX5_place) := goodIn_app (goodIn_of _ (by decide +kernel)) ggX5_put_X5_place
set_option maxRecDepth 20000 in
theorem ggX5_put_X5_comesIn : GoodIn wsX5_put wsX5_comesIn := goodIn_r _ [46, 1, 27, 2, 24, 29, 31, 47, 48, 49, 5, 50, 51, 52, 53, 54, 39, 40, 41, 42, 59, 60, 61, 62, 63, 64, 65, 66, 67, 68, 69, 70, 71, 72, 73, 74, 75, 76, 77] (by decide +kernel) (by decide +kernel)
set_option maxRecDepth 20000 in
theorem gX5_put_X5_comesIn : GoodIn wsX5_put (wsV RX5 101 RX5 yX5_comesIn wsX5_comesIn) := goodIn_app (goodIn_of _ (by decide +kernel)) ggX5_put_X5_comesIn
set_option maxRecDepth 20000 in
theorem ggX5_put_X5_touched : GoodIn wsX5_put wsX5_touched := goodIn_r _ [58, 24, 27, 39, 40, 41, 5, 42, 59, 60, 61, 62, 63, 64, 65, 66, 67, 68, 69, 70, 71, 72, 73, 74, 75, 76, 77] (by decide +kernel) (by decide +kernel)
set_option maxRecDepth 20000 in
theorem gX5_put_X5_touched : GoodIn wsX5_put (wsV RX5 105 RX5 yX5_touched wsX5_touched) := goodIn_app (goodIn_of _ (by decide +kernel)) ggX5_put_X5_touched
theorem dX5_put_0 : decode cX5_put 0 = .ok (.aload_n 0, 1) := by decide +kernel
theorem dX5_put_1 : decode cX5_put 1 = .ok (.iload_n 1, 1) := by decide +kernel
theorem dX5_put_2 : decode cX5_put 2 = .ok (.iconst 0, 1) := by decide +kernel
theorem dX5_put_3 : decode cX5_put 3 = .ok (.bipush 99, 2) := by decide +kernel
theorem dX5_put_5 : decode cX5_put 5 = .ok (.invokestatic 90, 3) := by decide +kernel
theorem dX5_put_8 : decode cX5_put 8 = .ok (.iconst 1, 1) := by decide +kernel
theorem dX5_put_9 : decode cX5_put 9 = .ok (.invokevirtual 94, 3) := by decide +kernel
theorem dX5_put_12 : decode cX5_put 12 = .ok (.ifCond .eq 5, 3) := by decide +kernel
theorem dX5_put_15 : decode cX5_put 15 = .ok (.iconst 0, 1) := by decide +kernel
theorem dX5_put_16 : decode cX5_put 16 = .ok (.ireturn, 1) := by decide +kernel
theorem dX5_put_17 : decode cX5_put 17 = .ok (.aload_n 0, 1) := by decide +kernel
theorem dX5_put_18 : decode cX5_put 18 = .ok (.invokevirtual 98, 3) := by decide +kernel
theorem dX5_put_21 : decode cX5_put 21 = .ok (.aload_n 0, 1) := by decide +kernel
theorem dX5_put_22 : decode cX5_put 22 = .ok (.aload_n 0, 1) := by decide +kernel
theorem dX5_put_23 : decode cX5_put 23 = .ok (.getfield 9, 3) := by decide +kernel
theorem dX5_put_26 : decode cX5_put 26 = .ok (.iload_n 1, 1) := by decide +kernel
theorem dX5_put_27 : decode cX5_put 27 = .ok (.invokevirtual 78, 3) := by decide +kernel
theorem dX5_put_30 : decode cX5_put 30 = .ok (.istore_n 3, 1) := by decide +kernel
theorem dX5_put_31 : decode cX5_put 31 = .ok (.iload_n 3, 1) := by decide +kernel
theorem dX5_put_32 : decode cX5_put 32 = .ok (.ifCond .ge 10, 3) := by decide +kernel
theorem dX5_put_35 : decode cX5_put 35 = .ok (.aload_n 0, 1) := by decide +kernel
theorem dX5_put_36 : decode cX5_put 36 = .ok (.iload_n 1, 1) := by decide +kernel
theorem dX5_put_37 : decode cX5_put 37 = .ok (.iload_n 2, 1) := by decide +kernel
theorem dX5_put_38 : decode cX5_put 38 = .ok (.invokevirtual 101, 3) := by decide +kernel
theorem dX5_put_41 : decode cX5_put 41 = .ok (.ireturn, 1) := by decide +kernel
theorem dX5_put_42 : decode cX5_put 42 = .ok (.aload_n 0, 1) := by decide +kernel
theorem dX5_put_43 : decode cX5_put 43 = .ok (.getfield 13, 3) := by decide +kernel
theorem dX5_put_46 : decode cX5_put 46 = .ok (.iload_n 3, 1) := by decide +kernel
theorem dX5_put_47 : decode cX5_put 47 = .ok (.iload_n 2, 1) := by decide +kernel
theorem dX5_put_48 : decode cX5_put 48 = .ok (.iastore, 1) := by decide +kernel
theorem dX5_put_49 : decode cX5_put 49 = .ok (.aload_n 0, 1) := by decide +kernel
theorem dX5_put_50 : decode cX5_put 50 = .ok (.iload_n 1, 1) := by decide +kernel
theorem dX5_put_51 : decode cX5_put 51 = .ok (.invokevirtual 105, 3) := by decide +kernel
theorem dX5_put_54 : decode cX5_put 54 = .ok (.iconst (-1), 1) := by decide +kernel
theorem dX5_put_55 : decode cX5_put 55 = .ok (.ireturn, 1) := by decide +kernel
set_option maxRecDepth 20000 in
theorem ggX5_putIfAbsent_X5_in : GoodIn wsX5_putIfAbsent wsX5_in := goodIn_r _ [5] (by decide +kernel) (by decide +kernel)
set_option maxRecDepth 20000 in
theorem gX5_putIfAbsent_X5_in : GoodIn wsX5_putIfAbsent (va_wsS RX5 90 yX5_in wsX5_in) := goodIn_app (goodIn_of _ (by decide +kernel)) ggX5_putIfAbsent_X5_in
set_option maxRecDepth 20000 in
theorem ggX5_putIfAbsent_X5_no : GoodIn wsX5_putIfAbsent wsX5_no := goodIn_r _ [9, 10, 59, 60, 61, 62, 63, 64, 65, 66, 67, 68, 69, 70, 71, 72, 73, 74, 75, 76, 77] (by decide +kernel) (by decide +kernel)
set_option maxRecDepth 20000 in
theorem gX5_putIfAbsent_X5_no : GoodIn wsX5_putIfAbsent (wsV RX5 94 RX5 yX5_no wsX5_no) := goodIn_app (goodIn_of _ (by decide +kernel)) ggX5_putIfAbsent_X5_no
set_option maxRecDepth 20000 in
theorem ggX5_putIfAbsent_X5_changes : GoodIn wsX5_putIfAbsent wsX5_changes := goodIn_r _ [14, 15, 16, 17, 18, 4, 19, 20, 1, 21, 22, 23, 24, 25, 26, 27, 28, 29, 30, 31, 32, 33, 34, 35, 36, 37, 38, 59, 60, 61, 62, 63, 64, 65, 66, 67, 68, 69, 70, 71, 72, 73, 74, 75, 76, 77] (by decide +kernel) (by decide +kernel)
set_option maxRecDepth 20000 in
theorem gX5_putIfAbsent_X5_changes : GoodIn wsX5_putIfAbsent (wsV RX5 98 RX5 yX5_changes wsX5_changes) := goodIn_app (goodIn_of _ (by decide +kernel)) ggX5_putIfAbsent_X5_changes
set_option maxRecDepth 20000 in
theorem ggX5_putIfAbsent_X5_place : GoodIn wsX5_putIfAbsent wsX5_place := goodIn_r _ [42, 27, 59, 60, 61, 62, 63, 64, 65, 66, 67, 68, 69, 70, 71, 72, 73, 74, 75, 76, 77] (by decide +kernel) (by decide +kernel)
set_option maxRecDepth 20000 in
theorem gX5_putIfAbsent_X5_place : GoodIn wsX5_putIfAbsent (wsV RX5 78 RX5 yX5_place wsX5_place) := goodIn_app (goodIn_of _ (by decide +kernel)) ggX5_putIfAbsent_X5_place
set_option maxRecDepth 20000 in
theorem ggX5_putIfAbsent_X5_touched : GoodIn wsX5_putIfAbsent wsX5_touched := goodIn_r _ [46, 24, 27, 39, 40, 41, 4, 42, 59, 60, 61, 62, 63, 64, 65, 66, 67, 68, 69, 70, 71, 72, 73, 74, 75, 76, 77] (by decide +kernel) (by decide +kernel)
set_option maxRecDepth 20000 in
theorem gX5_putIfAbsent_X5_touched : GoodIn wsX5_putIfAbsent (wsV RX5 105 RX5 yX5_touched wsX5_touched) := goodIn_app (goodIn_of _ (by decide +kernel)) ggX5_putIfAbsent_X5_touched
set_option maxRecDepth 20000 in
theorem ggX5_putIfAbsent_X5_comesIn : GoodIn wsX5_putIfAbsent wsX5_comesIn := goodIn_r _ [50, 1, 27, 22, 24, 29, 31, 51, 52, 53, 4, 54, 55, 56, 57, 58, 39, 40, 41, 42, 59, 60, 61, 62, 63, 64, 65, 66, 67, 68, 69, 70, 71, 72, 73, 74, 75, 76, 77] (by decide +kernel) (by decide +kernel)
set_option maxRecDepth 20000 in
theorem gX5_putIfAbsent_X5_comesIn : GoodIn wsX5_putIfAbsent (wsV RX5 101 RX5 yX5_comesIn wsX5_comesIn) := goodIn_app (goodIn_of _ (by decide +kernel)) ggX5_putIfAbsent_X5_comesIn
theorem dX5_putIfAbsent_0 : decode cX5_putIfAbsent 0 = .ok (.aload_n 0, 1) := by decide +kernel
theorem dX5_putIfAbsent_1 : decode cX5_putIfAbsent 1 = .ok (.iload_n 1, 1) := by decide +kernel
theorem dX5_putIfAbsent_2 : decode cX5_putIfAbsent 2 = .ok (.iconst 0, 1) := by decide +kernel
theorem dX5_putIfAbsent_3 : decode cX5_putIfAbsent 3 = .ok (.bipush 99, 2) := by decide +kernel
theorem dX5_putIfAbsent_5 : decode cX5_putIfAbsent 5 = .ok (.invokestatic 90, 3) := by decide +kernel
theorem dX5_putIfAbsent_8 : decode cX5_putIfAbsent 8 = .ok (.iconst 1, 1) := by decide +kernel
theorem dX5_putIfAbsent_9 : decode cX5_putIfAbsent 9 = .ok (.invokevirtual 94, 3) := by decide +kernel
theorem dX5_putIfAbsent_12 : decode cX5_putIfAbsent 12 = .ok (.ifCond .eq 5, 3) := by decide +kernel
theorem dX5_putIfAbsent_15 : decode cX5_putIfAbsent 15 = .ok (.iconst 0, 1) := by decide +kernel
theorem dX5_putIfAbsent_16 : decode cX5_putIfAbsent 16 = .ok (.ireturn, 1) := by decide +kernel
theorem dX5_putIfAbsent_17 : decode cX5_putIfAbsent 17 = .ok (.aload_n 0, 1) := by decide +kernel
theorem dX5_putIfAbsent_18 : decode cX5_putIfAbsent 18 = .ok (.invokevirtual 98, 3) := by decide +kernel
theorem dX5_putIfAbsent_21 : decode cX5_putIfAbsent 21 = .ok (.aload_n 0, 1) := by decide +kernel
theorem dX5_putIfAbsent_22 : decode cX5_putIfAbsent 22 = .ok (.aload_n 0, 1) := by decide +kernel
theorem dX5_putIfAbsent_23 : decode cX5_putIfAbsent 23 = .ok (.getfield 9, 3) := by decide +kernel
theorem dX5_putIfAbsent_26 : decode cX5_putIfAbsent 26 = .ok (.iload_n 1, 1) := by decide +kernel
theorem dX5_putIfAbsent_27 : decode cX5_putIfAbsent 27 = .ok (.invokevirtual 78, 3) := by decide +kernel
theorem dX5_putIfAbsent_30 : decode cX5_putIfAbsent 30 = .ok (.ifCond .lt 10, 3) := by decide +kernel
theorem dX5_putIfAbsent_33 : decode cX5_putIfAbsent 33 = .ok (.aload_n 0, 1) := by decide +kernel
theorem dX5_putIfAbsent_34 : decode cX5_putIfAbsent 34 = .ok (.iload_n 1, 1) := by decide +kernel
theorem dX5_putIfAbsent_35 : decode cX5_putIfAbsent 35 = .ok (.invokevirtual 105, 3) := by decide +kernel
theorem dX5_putIfAbsent_38 : decode cX5_putIfAbsent 38 = .ok (.iconst 0, 1) := by decide +kernel
theorem dX5_putIfAbsent_39 : decode cX5_putIfAbsent 39 = .ok (.ireturn, 1) := by decide +kernel
theorem dX5_putIfAbsent_40 : decode cX5_putIfAbsent 40 = .ok (.aload_n 0, 1) := by decide +kernel
theorem dX5_putIfAbsent_41 : decode cX5_putIfAbsent 41 = .ok (.iload_n 1, 1) := by decide +kernel
theorem dX5_putIfAbsent_42 : decode cX5_putIfAbsent 42 = .ok (.iload_n 2, 1) := by decide +kernel
theorem dX5_putIfAbsent_43 : decode cX5_putIfAbsent 43 = .ok (.invokevirtual 101, 3) := by decide +kernel
theorem dX5_putIfAbsent_46 : decode cX5_putIfAbsent 46 = .ok (.pop, 1) := by decide +kernel
theorem dX5_putIfAbsent_47 : decode cX5_putIfAbsent 47 = .ok (.iconst 1, 1) := by decide +kernel
theorem dX5_putIfAbsent_48 : decode cX5_putIfAbsent 48 = .ok (.ireturn, 1) := by decide +kernel
set_option maxRecDepth 20000 in
theorem ggX5_get_X5_place : GoodIn wsX5_get wsX5_place := goodIn_r _ [7, 8, 44, 45, 46, 47, 48, 49, 50, 51, 52, 53, 54, 55, 56, 57, 58, 59, 60, 61, 62] (by decide +kernel) (by decide +kernel)
set_option maxRecDepth 20000 in
theorem gX5_get_X5_place : GoodIn wsX5_get (wsV RX5 78 RX5 yX5_place wsX5_place) := goodIn_app (goodIn_of _ (by decide +kernel)) ggX5_get_X5_place
set_option maxRecDepth 20000 in
theorem ggX5_get_X5_no : GoodIn wsX5_get wsX5_no := goodIn_r _ [12, 13, 44, 45, 46, 47, 48, 49, 50, 51, 52, 53, 54, 55, 56, 57, 58, 59, 60, 61, 62] (by decide +kernel) (by decide +kernel)
set_option maxRecDepth 20000 in
theorem gX5_get_X5_no : GoodIn wsX5_get (wsV RX5 94 RX5 yX5_no wsX5_no) := goodIn_app (goodIn_of _ (by decide +kernel)) ggX5_get_X5_no
set_option maxRecDepth 20000 in
theorem ggX5_get_X5_changes : GoodIn wsX5_get wsX5_changes := goodIn_r _ [17, 18, 19, 20, 21, 6, 22, 23, 1, 24, 2, 25, 26, 27, 28, 8, 29, 30, 31, 32, 33, 34, 35, 36, 37, 38, 39, 44, 45, 46, 47, 48, 49, 50, 51, 52, 53, 54, 55, 56, 57, 58, 59, 60, 61, 62] (by decide +kernel) (by decide +kernel)
set_option maxRecDepth 20000 in
theorem gX5_get_X5_changes : GoodIn wsX5_get (wsV RX5 98 RX5 yX5_changes wsX5_changes) := goodIn_app (goodIn_of _ (by decide +kernel)) ggX5_get_X5_changes
set_option maxRecDepth 20000 in
theorem ggX5_get_X5_touched : GoodIn wsX5_get wsX5_touched := goodIn_r _ [43, 26, 8, 3, 4, 5, 6, 7, 44, 45, 46, 47, 48, 49, 50, 51, 52, 53, 54, 55, 56, 57, 58, 59, 60, 61, 62] (by decide +kernel) (by decide +kernel)
set_option maxRecDepth 20000 in
theorem gX5_get_X5_touched : GoodIn wsX5_get (wsV RX5 105 RX5 yX5_touched wsX5_touched) := goodIn_app (goodIn_of _ (by decide +kernel)) ggX5_get_X5_touched
theorem dX5_get_0 : decode cX5_get 0 = .ok (.aload_n 0, 1) := by decide +kernel
theorem dX5_get_1 : decode cX5_get 1 = .ok (.aload_n 0, 1) := by decide +kernel
theorem dX5_get_2 : decode cX5_get 2 = .ok (.getfield 9, 3) := by decide +kernel
theorem dX5_get_5 : decode cX5_get 5 = .ok (.iload_n 1, 1) := by decide +kernel
theorem dX5_get_6 : decode cX5_get 6 = .ok (.invokevirtual 78, 3) := by decide +kernel
theorem dX5_get_9 : decode cX5_get 9 = .ok (.istore_n 2, 1) := by decide +kernel
theorem dX5_get_10 : decode cX5_get 10 = .ok (.aload_n 0, 1) := by decide +kernel
theorem dX5_get_11 : decode cX5_get 11 = .ok (.iload_n 2, 1) := by decide +kernel
theorem dX5_get_12 : decode cX5_get 12 = .ok (.ifCond .lt 7, 3) := by decide +kernel
theorem dX5_get_15 : decode cX5_get 15 = .ok (.iconst 1, 1) := by decide +kernel
theorem dX5_get_16 : decode cX5_get 16 = .ok (.goto 4, 3) := by decide +kernel
theorem dX5_get_19 : decode cX5_get 19 = .ok (.iconst 0, 1) := by decide +kernel
theorem dX5_get_20 : decode cX5_get 20 = .ok (.iconst 1, 1) := by decide +kernel
theorem dX5_get_21 : decode cX5_get 21 = .ok (.invokevirtual 94, 3) := by decide +kernel
theorem dX5_get_24 : decode cX5_get 24 = .ok (.ifCond .eq 5, 3) := by decide +kernel
theorem dX5_get_27 : decode cX5_get 27 = .ok (.iconst 0, 1) := by decide +kernel
theorem dX5_get_28 : decode cX5_get 28 = .ok (.ireturn, 1) := by decide +kernel
theorem dX5_get_29 : decode cX5_get 29 = .ok (.aload_n 0, 1) := by decide +kernel
theorem dX5_get_30 : decode cX5_get 30 = .ok (.invokevirtual 98, 3) := by decide +kernel
theorem dX5_get_33 : decode cX5_get 33 = .ok (.aload_n 0, 1) := by decide +kernel
theorem dX5_get_34 : decode cX5_get 34 = .ok (.iload_n 1, 1) := by decide +kernel
theorem dX5_get_35 : decode cX5_get 35 = .ok (.invokevirtual 105, 3) := by decide +kernel
theorem dX5_get_38 : decode cX5_get 38 = .ok (.aload_n 0, 1) := by decide +kernel
theorem dX5_get_39 : decode cX5_get 39 = .ok (.getfield 13, 3) := by decide +kernel
theorem dX5_get_42 : decode cX5_get 42 = .ok (.iload_n 2, 1) := by decide +kernel
theorem dX5_get_43 : decode cX5_get 43 = .ok (.iaload, 1) := by decide +kernel
theorem dX5_get_44 : decode cX5_get 44 = .ok (.ireturn, 1) := by decide +kernel
set_option maxRecDepth 20000 in
theorem ggX5_getOr_X5_place : GoodIn wsX5_getOr wsX5_place := goodIn_r _ [8, 9, 40, 41, 42, 43, 44, 45, 46, 47, 48, 49, 50, 51, 52, 53, 54, 55, 56, 57, 58] (by decide +kernel) (by decide +kernel)
set_option maxRecDepth 20000 in
theorem gX5_getOr_X5_place : GoodIn wsX5_getOr (wsV RX5 78 RX5 yX5_place wsX5_place) := goodIn_app (goodIn_of _ (by decide +kernel)) ggX5_getOr_X5_place
set_option maxRecDepth 20000 in
theorem ggX5_getOr_X5_changes : GoodIn wsX5_getOr wsX5_changes := goodIn_r _ [13, 14, 15, 16, 17, 7, 18, 19, 2, 20, 3, 21, 22, 23, 24, 9, 25, 26, 27, 28, 29, 30, 31, 32, 33, 34, 35, 40, 41, 42, 43, 44, 45, 46, 47, 48, 49, 50, 51, 52, 53, 54, 55, 56, 57, 58] (by decide +kernel) (by decide +kernel)
set_option maxRecDepth 20000 in
theorem gX5_getOr_X5_changes : GoodIn wsX5_getOr (wsV RX5 98 RX5 yX5_changes wsX5_changes) := goodIn_app (goodIn_of _ (by decide +kernel)) ggX5_getOr_X5_changes
set_option maxRecDepth 20000 in
theorem ggX5_getOr_X5_touched : GoodIn wsX5_getOr wsX5_touched := goodIn_r _ [39, 22, 9, 4, 5, 6, 7, 8, 40, 41, 42, 43, 44, 45, 46, 47, 48, 49, 50, 51, 52, 53, 54, 55, 56, 57, 58] (by decide +kernel) (by decide +kernel)
set_option maxRecDepth 20000 in
theorem gX5_getOr_X5_touched : GoodIn wsX5_getOr (wsV RX5 105 RX5 yX5_touched wsX5_touched) := goodIn_app (goodIn_of _ (by decide +kernel)) ggX5_getOr_X5_touched
theorem dX5_getOr_0 : decode cX5_getOr 0 = .ok (.aload_n 0, 1) := by decide +kernel
theorem dX5_getOr_1 : decode cX5_getOr 1 = .ok (.iconst 0, 1) := by decide +kernel
theorem dX5_getOr_2 : decode cX5_getOr 2 = .ok (.putfield 54, 3) := by decide +kernel
theorem dX5_getOr_5 : decode cX5_getOr 5 = .ok (.aload_n 0, 1) := by decide +kernel
theorem dX5_getOr_6 : decode cX5_getOr 6 = .ok (.aload_n 0, 1) := by decide +kernel
theorem dX5_getOr_7 : decode cX5_getOr 7 = .ok (.getfield 9, 3) := by decide +kernel
theorem dX5_getOr_10 : decode cX5_getOr 10 = .ok (.iload_n 1, 1) := by decide +kernel
theorem dX5_getOr_11 : decode cX5_getOr 11 = .ok (.invokevirtual 78, 3) := by decide +kernel
theorem dX5_getOr_14 : decode cX5_getOr 14 = .ok (.istore_n 3, 1) := by decide +kernel
theorem dX5_getOr_15 : decode cX5_getOr 15 = .ok (.iload_n 3, 1) := by decide +kernel
theorem dX5_getOr_16 : decode cX5_getOr 16 = .ok (.ifCond .ge 5, 3) := by decide +kernel
theorem dX5_getOr_19 : decode cX5_getOr 19 = .ok (.iload_n 2, 1) := by decide +kernel
theorem dX5_getOr_20 : decode cX5_getOr 20 = .ok (.ireturn, 1) := by decide +kernel
theorem dX5_getOr_21 : decode cX5_getOr 21 = .ok (.aload_n 0, 1) := by decide +kernel
theorem dX5_getOr_22 : decode cX5_getOr 22 = .ok (.invokevirtual 98, 3) := by decide +kernel
theorem dX5_getOr_25 : decode cX5_getOr 25 = .ok (.aload_n 0, 1) := by decide +kernel
theorem dX5_getOr_26 : decode cX5_getOr 26 = .ok (.iload_n 1, 1) := by decide +kernel
theorem dX5_getOr_27 : decode cX5_getOr 27 = .ok (.invokevirtual 105, 3) := by decide +kernel
theorem dX5_getOr_30 : decode cX5_getOr 30 = .ok (.aload_n 0, 1) := by decide +kernel
theorem dX5_getOr_31 : decode cX5_getOr 31 = .ok (.getfield 13, 3) := by decide +kernel
theorem dX5_getOr_34 : decode cX5_getOr 34 = .ok (.iload_n 3, 1) := by decide +kernel
theorem dX5_getOr_35 : decode cX5_getOr 35 = .ok (.iaload, 1) := by decide +kernel
theorem dX5_getOr_36 : decode cX5_getOr 36 = .ok (.ireturn, 1) := by decide +kernel
set_option maxRecDepth 20000 in
theorem ggX5_replace_X5_place : GoodIn wsX5_replace wsX5_place := goodIn_r _ [8, 9, 40, 41, 42, 43, 44, 45, 46, 47, 48, 49, 50, 51, 52, 53, 54, 55, 56, 57, 58] (by decide +kernel) (by decide +kernel)
set_option maxRecDepth 20000 in
theorem gX5_replace_X5_place : GoodIn wsX5_replace (wsV RX5 78 RX5 yX5_place wsX5_place) := goodIn_app (goodIn_of _ (by decide +kernel)) ggX5_replace_X5_place
set_option maxRecDepth 20000 in
theorem ggX5_replace_X5_changes : GoodIn wsX5_replace wsX5_changes := goodIn_r _ [13, 14, 15, 16, 17, 7, 18, 19, 2, 20, 3, 21, 22, 23, 24, 9, 25, 26, 27, 28, 29, 30, 31, 32, 33, 34, 35, 40, 41, 42, 43, 44, 45, 46, 47, 48, 49, 50, 51, 52, 53, 54, 55, 56, 57, 58] (by decide +kernel) (by decide +kernel)
set_option maxRecDepth 20000 in
theorem gX5_replace_X5_changes : GoodIn wsX5_replace (wsV RX5 98 RX5 yX5_changes wsX5_changes) := goodIn_app (goodIn_of _ (by decide +kernel)) ggX5_replace_X5_changes
set_option maxRecDepth 20000 in
theorem ggX5_replace_X5_touched : GoodIn wsX5_replace wsX5_touched := goodIn_r _ [39, 22, 9, 4, 5, 6, 7, 8, 40, 41, 42, 43, 44, 45, 46, 47, 48, 49, 50, 51, 52, 53, 54, 55, 56, 57, 58] (by decide +kernel) (by decide +kernel)
set_option maxRecDepth 20000 in
theorem gX5_replace_X5_touched : GoodIn wsX5_replace (wsV RX5 105 RX5 yX5_touched wsX5_touched) := goodIn_app (goodIn_of _ (by decide +kernel)) ggX5_replace_X5_touched
theorem dX5_replace_0 : decode cX5_replace 0 = .ok (.aload_n 0, 1) := by decide +kernel
theorem dX5_replace_1 : decode cX5_replace 1 = .ok (.iconst 0, 1) := by decide +kernel
theorem dX5_replace_2 : decode cX5_replace 2 = .ok (.putfield 54, 3) := by decide +kernel
theorem dX5_replace_5 : decode cX5_replace 5 = .ok (.aload_n 0, 1) := by decide +kernel
theorem dX5_replace_6 : decode cX5_replace 6 = .ok (.aload_n 0, 1) := by decide +kernel
theorem dX5_replace_7 : decode cX5_replace 7 = .ok (.getfield 9, 3) := by decide +kernel
theorem dX5_replace_10 : decode cX5_replace 10 = .ok (.iload_n 1, 1) := by decide +kernel
theorem dX5_replace_11 : decode cX5_replace 11 = .ok (.invokevirtual 78, 3) := by decide +kernel
theorem dX5_replace_14 : decode cX5_replace 14 = .ok (.istore_n 3, 1) := by decide +kernel
theorem dX5_replace_15 : decode cX5_replace 15 = .ok (.iload_n 3, 1) := by decide +kernel
theorem dX5_replace_16 : decode cX5_replace 16 = .ok (.ifCond .ge 5, 3) := by decide +kernel
theorem dX5_replace_19 : decode cX5_replace 19 = .ok (.iconst 0, 1) := by decide +kernel
theorem dX5_replace_20 : decode cX5_replace 20 = .ok (.ireturn, 1) := by decide +kernel
theorem dX5_replace_21 : decode cX5_replace 21 = .ok (.aload_n 0, 1) := by decide +kernel
theorem dX5_replace_22 : decode cX5_replace 22 = .ok (.invokevirtual 98, 3) := by decide +kernel
theorem dX5_replace_25 : decode cX5_replace 25 = .ok (.aload_n 0, 1) := by decide +kernel
theorem dX5_replace_26 : decode cX5_replace 26 = .ok (.getfield 13, 3) := by decide +kernel
theorem dX5_replace_29 : decode cX5_replace 29 = .ok (.iload_n 3, 1) := by decide +kernel
theorem dX5_replace_30 : decode cX5_replace 30 = .ok (.iload_n 2, 1) := by decide +kernel
theorem dX5_replace_31 : decode cX5_replace 31 = .ok (.iastore, 1) := by decide +kernel
theorem dX5_replace_32 : decode cX5_replace 32 = .ok (.aload_n 0, 1) := by decide +kernel
theorem dX5_replace_33 : decode cX5_replace 33 = .ok (.iload_n 1, 1) := by decide +kernel
theorem dX5_replace_34 : decode cX5_replace 34 = .ok (.invokevirtual 105, 3) := by decide +kernel
theorem dX5_replace_37 : decode cX5_replace 37 = .ok (.iconst 1, 1) := by decide +kernel
theorem dX5_replace_38 : decode cX5_replace 38 = .ok (.ireturn, 1) := by decide +kernel
set_option maxRecDepth 20000 in
theorem ggX5_replaceIf_X5_place : GoodIn wsX5_replaceIf wsX5_place := goodIn_r _ [8, 9, 40, 41, 42, 43, 44, 45, 46, 47, 48, 49, 50, 51, 52, 53, 54, 55, 56, 57, 58] (by decide +kernel) (by decide +kernel)
set_option maxRecDepth 20000 in
theorem gX5_replaceIf_X5_place : GoodIn wsX5_replaceIf (wsV RX5 78 RX5 yX5_place wsX5_place) := goodIn_app (goodIn_of _ (by decide +kernel)) ggX5_replaceIf_X5_place
set_option maxRecDepth 20000 in
theorem ggX5_replaceIf_X5_changes : GoodIn wsX5_replaceIf wsX5_changes := goodIn_r _ [13, 14, 15, 16, 17, 7, 18, 19, 2, 20, 3, 21, 22, 23, 24, 9, 25, 26, 27, 28, 29, 30, 31, 32, 33, 34, 35, 40, 41, 42, 43, 44, 45, 46, 47, 48, 49, 50, 51, 52, 53, 54, 55, 56, 57, 58] (by decide +kernel) (by decide +kernel)
set_option maxRecDepth 20000 in
theorem gX5_replaceIf_X5_changes : GoodIn wsX5_replaceIf (wsV RX5 98 RX5 yX5_changes wsX5_changes) := goodIn_app (goodIn_of _ (by decide +kernel)) ggX5_replaceIf_X5_changes
set_option maxRecDepth 20000 in
theorem ggX5_replaceIf_X5_touched : GoodIn wsX5_replaceIf wsX5_touched := goodIn_r _ [39, 22, 9, 4, 5, 6, 7, 8, 40, 41, 42, 43, 44, 45, 46, 47, 48, 49, 50, 51, 52, 53, 54, 55, 56, 57, 58] (by decide +kernel) (by decide +kernel)
set_option maxRecDepth 20000 in
theorem gX5_replaceIf_X5_touched : GoodIn wsX5_replaceIf (wsV RX5 105 RX5 yX5_touched wsX5_touched) := goodIn_app (goodIn_of _ (by decide +kernel)) ggX5_replaceIf_X5_touched
theorem dX5_replaceIf_0 : decode cX5_replaceIf 0 = .ok (.aload_n 0, 1) := by decide +kernel
theorem dX5_replaceIf_1 : decode cX5_replaceIf 1 = .ok (.iconst 0, 1) := by decide +kernel
theorem dX5_replaceIf_2 : decode cX5_replaceIf 2 = .ok (.putfield 54, 3) := by decide +kernel
theorem dX5_replaceIf_5 : decode cX5_replaceIf 5 = .ok (.aload_n 0, 1) := by decide +kernel
theorem dX5_replaceIf_6 : decode cX5_replaceIf 6 = .ok (.aload_n 0, 1) := by decide +kernel
theorem dX5_replaceIf_7 : decode cX5_replaceIf 7 = .ok (.getfield 9, 3) := by decide +kernel
theorem dX5_replaceIf_10 : decode cX5_replaceIf 10 = .ok (.iload_n 1, 1) := by decide +kernel
theorem dX5_replaceIf_11 : decode cX5_replaceIf 11 = .ok (.invokevirtual 78, 3) := by decide +kernel
theorem dX5_replaceIf_14 : decode cX5_replaceIf 14 = .ok (.istore 4, 2) := by decide +kernel
theorem dX5_replaceIf_16 : decode cX5_replaceIf 16 = .ok (.iload 4, 2) := by decide +kernel
theorem dX5_replaceIf_18 : decode cX5_replaceIf 18 = .ok (.ifCond .lt 14, 3) := by decide +kernel
theorem dX5_replaceIf_21 : decode cX5_replaceIf 21 = .ok (.aload_n 0, 1) := by decide +kernel
theorem dX5_replaceIf_22 : decode cX5_replaceIf 22 = .ok (.getfield 13, 3) := by decide +kernel
theorem dX5_replaceIf_25 : decode cX5_replaceIf 25 = .ok (.iload 4, 2) := by decide +kernel
theorem dX5_replaceIf_27 : decode cX5_replaceIf 27 = .ok (.iaload, 1) := by decide +kernel
theorem dX5_replaceIf_28 : decode cX5_replaceIf 28 = .ok (.iload_n 2, 1) := by decide +kernel
theorem dX5_replaceIf_29 : decode cX5_replaceIf 29 = .ok (.if_icmp .eq 5, 3) := by decide +kernel
theorem dX5_replaceIf_32 : decode cX5_replaceIf 32 = .ok (.iconst 0, 1) := by decide +kernel
theorem dX5_replaceIf_33 : decode cX5_replaceIf 33 = .ok (.ireturn, 1) := by decide +kernel
theorem dX5_replaceIf_34 : decode cX5_replaceIf 34 = .ok (.aload_n 0, 1) := by decide +kernel
theorem dX5_replaceIf_35 : decode cX5_replaceIf 35 = .ok (.invokevirtual 98, 3) := by decide +kernel
theorem dX5_replaceIf_38 : decode cX5_replaceIf 38 = .ok (.aload_n 0, 1) := by decide +kernel
theorem dX5_replaceIf_39 : decode cX5_replaceIf 39 = .ok (.getfield 13, 3) := by decide +kernel
theorem dX5_replaceIf_42 : decode cX5_replaceIf 42 = .ok (.iload 4, 2) := by decide +kernel
theorem dX5_replaceIf_44 : decode cX5_replaceIf 44 = .ok (.iload_n 3, 1) := by decide +kernel
theorem dX5_replaceIf_45 : decode cX5_replaceIf 45 = .ok (.iastore, 1) := by decide +kernel
theorem dX5_replaceIf_46 : decode cX5_replaceIf 46 = .ok (.aload_n 0, 1) := by decide +kernel
theorem dX5_replaceIf_47 : decode cX5_replaceIf 47 = .ok (.iload_n 1, 1) := by decide +kernel
theorem dX5_replaceIf_48 : decode cX5_replaceIf 48 = .ok (.invokevirtual 105, 3) := by decide +kernel
theorem dX5_replaceIf_51 : decode cX5_replaceIf 51 = .ok (.iconst 1, 1) := by decide +kernel
theorem dX5_replaceIf_52 : decode cX5_replaceIf 52 = .ok (.ireturn, 1) := by decide +kernel
set_option maxRecDepth 20000 in
theorem ggX5_look_X5_place : GoodIn wsX5_look wsX5_place := goodIn_r _ [7, 8, 14, 15, 16, 17, 18, 19, 20, 21, 22, 23, 24, 25, 26, 27, 28, 29, 30, 31, 32] (by decide +kernel) (by decide +kernel)
set_option maxRecDepth 20000 in
theorem gX5_look_X5_place : GoodIn wsX5_look (wsV RX5 78 RX5 yX5_place wsX5_place) := goodIn_app (goodIn_of _ (by decide +kernel)) ggX5_look_X5_place
set_option maxRecDepth 20000 in
theorem ggX5_look_X5_no : GoodIn wsX5_look wsX5_no := goodIn_r _ [12, 13, 14, 15, 16, 17, 18, 19, 20, 21, 22, 23, 24, 25, 26, 27, 28, 29, 30, 31, 32] (by decide +kernel) (by decide +kernel)
set_option maxRecDepth 20000 in
theorem gX5_look_X5_no : GoodIn wsX5_look (wsV RX5 94 RX5 yX5_no wsX5_no) := goodIn_app (goodIn_of _ (by decide +kernel)) ggX5_look_X5_no
theorem dX5_look_0 : decode cX5_look 0 = .ok (.aload_n 0, 1) := by decide +kernel
theorem dX5_look_1 : decode cX5_look 1 = .ok (.aload_n 0, 1) := by decide +kernel
theorem dX5_look_2 : decode cX5_look 2 = .ok (.getfield 9, 3) := by decide +kernel
theorem dX5_look_5 : decode cX5_look 5 = .ok (.iload_n 1, 1) := by decide +kernel
theorem dX5_look_6 : decode cX5_look 6 = .ok (.invokevirtual 78, 3) := by decide +kernel
theorem dX5_look_9 : decode cX5_look 9 = .ok (.istore_n 2, 1) := by decide +kernel
theorem dX5_look_10 : decode cX5_look 10 = .ok (.aload_n 0, 1) := by decide +kernel
theorem dX5_look_11 : decode cX5_look 11 = .ok (.iload_n 2, 1) := by decide +kernel
theorem dX5_look_12 : decode cX5_look 12 = .ok (.ifCond .lt 7, 3) := by decide +kernel
theorem dX5_look_15 : decode cX5_look 15 = .ok (.iconst 1, 1) := by decide +kernel
theorem dX5_look_16 : decode cX5_look 16 = .ok (.goto 4, 3) := by decide +kernel
theorem dX5_look_19 : decode cX5_look 19 = .ok (.iconst 0, 1) := by decide +kernel
theorem dX5_look_20 : decode cX5_look 20 = .ok (.iconst 1, 1) := by decide +kernel
theorem dX5_look_21 : decode cX5_look 21 = .ok (.invokevirtual 94, 3) := by decide +kernel
theorem dX5_look_24 : decode cX5_look 24 = .ok (.ifCond .eq 7, 3) := by decide +kernel
theorem dX5_look_27 : decode cX5_look 27 = .ok (.iconst 0, 1) := by decide +kernel
theorem dX5_look_28 : decode cX5_look 28 = .ok (.goto 9, 3) := by decide +kernel
theorem dX5_look_31 : decode cX5_look 31 = .ok (.aload_n 0, 1) := by decide +kernel
theorem dX5_look_32 : decode cX5_look 32 = .ok (.getfield 13, 3) := by decide +kernel
theorem dX5_look_35 : decode cX5_look 35 = .ok (.iload_n 2, 1) := by decide +kernel
theorem dX5_look_36 : decode cX5_look 36 = .ok (.iaload, 1) := by decide +kernel
theorem dX5_look_37 : decode cX5_look 37 = .ok (.ireturn, 1) := by decide +kernel
set_option maxRecDepth 20000 in
theorem ggX5_has_X5_place : GoodIn wsX5_has wsX5_place := goodIn_r _ [7, 8, 9, 10, 11, 12, 13, 14, 15, 16, 17, 18, 19, 20, 21, 22, 23, 24, 25, 26, 27] (by decide +kernel) (by decide +kernel)
set_option maxRecDepth 20000 in
theorem gX5_has_X5_place : GoodIn wsX5_has (wsV RX5 78 RX5 yX5_place wsX5_place) := goodIn_app (goodIn_of _ (by decide +kernel)) ggX5_has_X5_place
theorem dX5_has_0 : decode cX5_has 0 = .ok (.aload_n 0, 1) := by decide +kernel
theorem dX5_has_1 : decode cX5_has 1 = .ok (.iconst 0, 1) := by decide +kernel
theorem dX5_has_2 : decode cX5_has 2 = .ok (.putfield 54, 3) := by decide +kernel
theorem dX5_has_5 : decode cX5_has 5 = .ok (.aload_n 0, 1) := by decide +kernel
theorem dX5_has_6 : decode cX5_has 6 = .ok (.aload_n 0, 1) := by decide +kernel
theorem dX5_has_7 : decode cX5_has 7 = .ok (.getfield 9, 3) := by decide +kernel
theorem dX5_has_10 : decode cX5_has 10 = .ok (.iload_n 1, 1) := by decide +kernel
theorem dX5_has_11 : decode cX5_has 11 = .ok (.invokevirtual 78, 3) := by decide +kernel
theorem dX5_has_14 : decode cX5_has 14 = .ok (.ifCond .lt 7, 3) := by decide +kernel
theorem dX5_has_17 : decode cX5_has 17 = .ok (.iconst 1, 1) := by decide +kernel
theorem dX5_has_18 : decode cX5_has 18 = .ok (.goto 4, 3) := by decide +kernel
theorem dX5_has_21 : decode cX5_has 21 = .ok (.iconst 0, 1) := by decide +kernel
theorem dX5_has_22 : decode cX5_has 22 = .ok (.ireturn, 1) := by decide +kernel
set_option maxRecDepth 20000 in
theorem ggX5_remove_X5_place : GoodIn wsX5_remove wsX5_place := goodIn_r _ [7, 8, 44, 45, 46, 47, 48, 49, 50, 51, 52, 53, 54, 55, 56, 57, 58, 59, 60, 61, 62] (by decide +kernel) (by decide +kernel)
set_option maxRecDepth 20000 in
theorem gX5_remove_X5_place : GoodIn wsX5_remove (wsV RX5 78 RX5 yX5_place wsX5_place) := goodIn_app (goodIn_of _ (by decide +kernel)) ggX5_remove_X5_place
set_option maxRecDepth 20000 in
theorem ggX5_remove_X5_no : GoodIn wsX5_remove wsX5_no := goodIn_r _ [12, 13, 44, 45, 46, 47, 48, 49, 50, 51, 52, 53, 54, 55, 56, 57, 58, 59, 60, 61, 62] (by decide +kernel) (by decide +kernel)
set_option maxRecDepth 20000 in
theorem gX5_remove_X5_no : GoodIn wsX5_remove (wsV RX5 94 RX5 yX5_no wsX5_no) := goodIn_app (goodIn_of _ (by decide +kernel)) ggX5_remove_X5_no
set_option maxRecDepth 20000 in
theorem ggX5_remove_X5_changes : GoodIn wsX5_remove wsX5_changes := goodIn_r _ [17, 18, 19, 20, 21, 6, 22, 23, 1, 24, 2, 25, 26, 27, 28, 8, 29, 30, 31, 32, 33, 34, 35, 36, 37, 38, 39, 44, 45, 46, 47, 48, 49, 50, 51, 52, 53, 54, 55, 56, 57, 58, 59, 60, 61, 62] (by decide +kernel) (by decide +kernel)
set_option maxRecDepth 20000 in
theorem gX5_remove_X5_changes : GoodIn wsX5_remove (wsV RX5 98 RX5 yX5_changes wsX5_changes) := goodIn_app (goodIn_of _ (by decide +kernel)) ggX5_remove_X5_changes
set_option maxRecDepth 20000 in
theorem ggX5_remove_X5_out : GoodIn wsX5_remove wsX5_out := goodIn_r _ [43, 1, 8, 2, 26, 3, 4, 5, 6, 7, 44, 45, 46, 47, 48, 49, 50, 51, 52, 53, 54, 55, 56, 57, 58, 59, 60, 61, 62] (by decide +kernel) (by decide +kernel)
set_option maxRecDepth 20000 in
theorem gX5_remove_X5_out : GoodIn wsX5_remove (wsV RX5 86 RX5 yX5_out wsX5_out) := goodIn_app (goodIn_of _ (by decide +kernel)) ggX5_remove_X5_out
theorem dX5_remove_0 : decode cX5_remove 0 = .ok (.aload_n 0, 1) := by decide +kernel
theorem dX5_remove_1 : decode cX5_remove 1 = .ok (.aload_n 0, 1) := by decide +kernel
theorem dX5_remove_2 : decode cX5_remove 2 = .ok (.getfield 9, 3) := by decide +kernel
theorem dX5_remove_5 : decode cX5_remove 5 = .ok (.iload_n 1, 1) := by decide +kernel
theorem dX5_remove_6 : decode cX5_remove 6 = .ok (.invokevirtual 78, 3) := by decide +kernel
theorem dX5_remove_9 : decode cX5_remove 9 = .ok (.istore_n 2, 1) := by decide +kernel
theorem dX5_remove_10 : decode cX5_remove 10 = .ok (.aload_n 0, 1) := by decide +kernel
theorem dX5_remove_11 : decode cX5_remove 11 = .ok (.iload_n 2, 1) := by decide +kernel
theorem dX5_remove_12 : decode cX5_remove 12 = .ok (.ifCond .lt 7, 3) := by decide +kernel
theorem dX5_remove_15 : decode cX5_remove 15 = .ok (.iconst 1, 1) := by decide +kernel
theorem dX5_remove_16 : decode cX5_remove 16 = .ok (.goto 4, 3) := by decide +kernel
theorem dX5_remove_19 : decode cX5_remove 19 = .ok (.iconst 0, 1) := by decide +kernel
theorem dX5_remove_20 : decode cX5_remove 20 = .ok (.iconst 1, 1) := by decide +kernel
theorem dX5_remove_21 : decode cX5_remove 21 = .ok (.invokevirtual 94, 3) := by decide +kernel
theorem dX5_remove_24 : decode cX5_remove 24 = .ok (.ifCond .eq 5, 3) := by decide +kernel
theorem dX5_remove_27 : decode cX5_remove 27 = .ok (.iconst 0, 1) := by decide +kernel
theorem dX5_remove_28 : decode cX5_remove 28 = .ok (.ireturn, 1) := by decide +kernel
theorem dX5_remove_29 : decode cX5_remove 29 = .ok (.aload_n 0, 1) := by decide +kernel
theorem dX5_remove_30 : decode cX5_remove 30 = .ok (.getfield 13, 3) := by decide +kernel
theorem dX5_remove_33 : decode cX5_remove 33 = .ok (.iload_n 2, 1) := by decide +kernel
theorem dX5_remove_34 : decode cX5_remove 34 = .ok (.iaload, 1) := by decide +kernel
theorem dX5_remove_35 : decode cX5_remove 35 = .ok (.istore_n 3, 1) := by decide +kernel
theorem dX5_remove_36 : decode cX5_remove 36 = .ok (.aload_n 0, 1) := by decide +kernel
theorem dX5_remove_37 : decode cX5_remove 37 = .ok (.invokevirtual 98, 3) := by decide +kernel
theorem dX5_remove_40 : decode cX5_remove 40 = .ok (.aload_n 0, 1) := by decide +kernel
theorem dX5_remove_41 : decode cX5_remove 41 = .ok (.iload_n 1, 1) := by decide +kernel
theorem dX5_remove_42 : decode cX5_remove 42 = .ok (.invokevirtual 86, 3) := by decide +kernel
theorem dX5_remove_45 : decode cX5_remove 45 = .ok (.iload_n 3, 1) := by decide +kernel
theorem dX5_remove_46 : decode cX5_remove 46 = .ok (.ireturn, 1) := by decide +kernel
theorem dX5_size_0 : decode cX5_size 0 = .ok (.aload_n 0, 1) := by decide +kernel
theorem dX5_size_1 : decode cX5_size 1 = .ok (.iconst 0, 1) := by decide +kernel
theorem dX5_size_2 : decode cX5_size 2 = .ok (.putfield 54, 3) := by decide +kernel
theorem dX5_size_5 : decode cX5_size 5 = .ok (.aload_n 0, 1) := by decide +kernel
theorem dX5_size_6 : decode cX5_size 6 = .ok (.getfield 57, 3) := by decide +kernel
theorem dX5_size_9 : decode cX5_size 9 = .ok (.ireturn, 1) := by decide +kernel
set_option maxRecDepth 20000 in
theorem ggX5_limit_X5_in : GoodIn wsX5_limit wsX5_in := goodIn_r _ [7] (by decide +kernel) (by decide +kernel)
set_option maxRecDepth 20000 in
theorem gX5_limit_X5_in : GoodIn wsX5_limit (va_wsS RX5 90 yX5_in wsX5_in) := goodIn_app (goodIn_of _ (by decide +kernel)) ggX5_limit_X5_in
set_option maxRecDepth 20000 in
theorem ggX5_limit_X5_no : GoodIn wsX5_limit wsX5_no := goodIn_r _ [11, 12, 51, 52, 53, 54, 55, 56, 57, 58, 59, 60, 61, 62, 63, 64, 65, 66, 67, 68, 69] (by decide +kernel) (by decide +kernel)
set_option maxRecDepth 20000 in
theorem gX5_limit_X5_no : GoodIn wsX5_limit (wsV RX5 94 RX5 yX5_no wsX5_no) := goodIn_app (goodIn_of _ (by decide +kernel)) ggX5_limit_X5_no
set_option maxRecDepth 20000 in
theorem ggX5_limit_X5_changes : GoodIn wsX5_limit wsX5_changes := goodIn_r _ [16, 17, 18, 19, 20, 6, 21, 22, 23, 24, 25, 26, 27, 28, 29, 2, 30, 1, 31, 3, 32, 33, 34, 35, 36, 37, 38, 51, 52, 53, 54, 55, 56, 57, 58, 59, 60, 61, 62, 63, 64, 65, 66, 67, 68, 69] (by decide +kernel) (by decide +kernel)
set_option maxRecDepth 20000 in
theorem gX5_limit_X5_changes : GoodIn wsX5_limit (wsV RX5 98 RX5 yX5_changes wsX5_changes) := goodIn_app (goodIn_of _ (by decide +kernel)) ggX5_limit_X5_changes
set_option maxRecDepth 20000 in
theorem ggX5_limit_X5_row : GoodIn wsX5_limit wsX5_row := goodIn_r _ [42, 23, 27, 51, 52, 53, 54, 55, 56, 57, 58, 59, 60, 61, 62, 63, 64, 65, 66, 67, 68, 69] (by decide +kernel) (by decide +kernel)
set_option maxRecDepth 20000 in
theorem gX5_limit_X5_row : GoodIn wsX5_limit (wsV RX5 82 RX5 yX5_row wsX5_row) := goodIn_app (goodIn_of _ (by decide +kernel)) ggX5_limit_X5_row
set_option maxRecDepth 20000 in
theorem ggX5_limit_X5_out : GoodIn wsX5_limit wsX5_out := goodIn_r _ [46, 23, 2, 25, 27, 47, 48, 49, 6, 50, 51, 52, 53, 54, 55, 56, 57, 58, 59, 60, 61, 62, 63, 64, 65, 66, 67, 68, 69] (by decide +kernel) (by decide +kernel)
set_option maxRecDepth 20000 in
theorem gX5_limit_X5_out : GoodIn wsX5_limit (wsV RX5 86 RX5 yX5_out wsX5_out) := goodIn_app (goodIn_of _ (by decide +kernel)) ggX5_limit_X5_out
theorem dX5_limit_0 : decode cX5_limit 0 = .ok (.aload_n 0, 1) := by decide +kernel
theorem dX5_limit_1 : decode cX5_limit 1 = .ok (.iload_n 1, 1) := by decide +kernel
theorem dX5_limit_2 : decode cX5_limit 2 = .ok (.iconst 1, 1) := by decide +kernel
theorem dX5_limit_3 : decode cX5_limit 3 = .ok (.bipush 12, 2) := by decide +kernel
theorem dX5_limit_5 : decode cX5_limit 5 = .ok (.invokestatic 90, 3) := by decide +kernel
theorem dX5_limit_8 : decode cX5_limit 8 = .ok (.iconst 1, 1) := by decide +kernel
theorem dX5_limit_9 : decode cX5_limit 9 = .ok (.invokevirtual 94, 3) := by decide +kernel
theorem dX5_limit_12 : decode cX5_limit 12 = .ok (.ifCond .eq 5, 3) := by decide +kernel
theorem dX5_limit_15 : decode cX5_limit 15 = .ok (.iconst 0, 1) := by decide +kernel
theorem dX5_limit_16 : decode cX5_limit 16 = .ok (.ireturn, 1) := by decide +kernel
theorem dX5_limit_17 : decode cX5_limit 17 = .ok (.aload_n 0, 1) := by decide +kernel
theorem dX5_limit_18 : decode cX5_limit 18 = .ok (.invokevirtual 98, 3) := by decide +kernel
theorem dX5_limit_21 : decode cX5_limit 21 = .ok (.aload_n 0, 1) := by decide +kernel
theorem dX5_limit_22 : decode cX5_limit 22 = .ok (.iload_n 1, 1) := by decide +kernel
theorem dX5_limit_23 : decode cX5_limit 23 = .ok (.putfield 19, 3) := by decide +kernel
theorem dX5_limit_26 : decode cX5_limit 26 = .ok (.iconst 0, 1) := by decide +kernel
theorem dX5_limit_27 : decode cX5_limit 27 = .ok (.istore_n 2, 1) := by decide +kernel
theorem dX5_limit_28 : decode cX5_limit 28 = .ok (.aload_n 0, 1) := by decide +kernel
theorem dX5_limit_29 : decode cX5_limit 29 = .ok (.getfield 57, 3) := by decide +kernel
theorem dX5_limit_32 : decode cX5_limit 32 = .ok (.aload_n 0, 1) := by decide +kernel
theorem dX5_limit_33 : decode cX5_limit 33 = .ok (.getfield 19, 3) := by decide +kernel
theorem dX5_limit_36 : decode cX5_limit 36 = .ok (.if_icmp .le 23, 3) := by decide +kernel
theorem dX5_limit_39 : decode cX5_limit 39 = .ok (.aload_n 0, 1) := by decide +kernel
theorem dX5_limit_40 : decode cX5_limit 40 = .ok (.aload_n 0, 1) := by decide +kernel
theorem dX5_limit_41 : decode cX5_limit 41 = .ok (.aload_n 0, 1) := by decide +kernel
theorem dX5_limit_42 : decode cX5_limit 42 = .ok (.getfield 23, 3) := by decide +kernel
theorem dX5_limit_45 : decode cX5_limit 45 = .ok (.invokevirtual 82, 3) := by decide +kernel
theorem dX5_limit_48 : decode cX5_limit 48 = .ok (.iconst 0, 1) := by decide +kernel
theorem dX5_limit_49 : decode cX5_limit 49 = .ok (.iaload, 1) := by decide +kernel
theorem dX5_limit_50 : decode cX5_limit 50 = .ok (.invokevirtual 86, 3) := by decide +kernel
theorem dX5_limit_53 : decode cX5_limit 53 = .ok (.iinc 2 1, 3) := by decide +kernel
theorem dX5_limit_56 : decode cX5_limit 56 = .ok (.goto (-28), 3) := by decide +kernel
theorem dX5_limit_59 : decode cX5_limit 59 = .ok (.iload_n 2, 1) := by decide +kernel
theorem dX5_limit_60 : decode cX5_limit 60 = .ok (.ireturn, 1) := by decide +kernel
set_option maxRecDepth 20000 in
theorem ggX5_way_X5_isOrder : GoodIn wsX5_way wsX5_isOrder := goodIn_r _ [5] (by decide +kernel) (by decide +kernel)
set_option maxRecDepth 20000 in
theorem gX5_way_X5_isOrder : GoodIn wsX5_way (va_wsS RX5 108 yX5_isOrder wsX5_isOrder) := goodIn_app (goodIn_of _ (by decide +kernel)) ggX5_way_X5_isOrder
set_option maxRecDepth 20000 in
theorem ggX5_way_X5_no : GoodIn wsX5_way wsX5_no := goodIn_r _ [9, 10, 39, 40, 41, 42, 43, 44, 45, 46, 47, 48, 49, 50, 51, 52, 53, 54, 55, 56, 57] (by decide +kernel) (by decide +kernel)
set_option maxRecDepth 20000 in
theorem gX5_way_X5_no : GoodIn wsX5_way (wsV RX5 94 RX5 yX5_no wsX5_no) := goodIn_app (goodIn_of _ (by decide +kernel)) ggX5_way_X5_no
set_option maxRecDepth 20000 in
theorem ggX5_way_X5_changes : GoodIn wsX5_way wsX5_changes := goodIn_r _ [14, 15, 16, 17, 18, 4, 19, 20, 21, 22, 23, 24, 25, 26, 27, 28, 29, 30, 31, 1, 32, 33, 34, 35, 36, 37, 38, 39, 40, 41, 42, 43, 44, 45, 46, 47, 48, 49, 50, 51, 52, 53, 54, 55, 56, 57] (by decide +kernel) (by decide +kernel)
set_option maxRecDepth 20000 in
theorem gX5_way_X5_changes : GoodIn wsX5_way (wsV RX5 98 RX5 yX5_changes wsX5_changes) := goodIn_app (goodIn_of _ (by decide +kernel)) ggX5_way_X5_changes
theorem dX5_way_0 : decode cX5_way 0 = .ok (.aload_n 0, 1) := by decide +kernel
theorem dX5_way_1 : decode cX5_way 1 = .ok (.iload_n 1, 1) := by decide +kernel
theorem dX5_way_2 : decode cX5_way 2 = .ok (.invokestatic 108, 3) := by decide +kernel
theorem dX5_way_5 : decode cX5_way 5 = .ok (.iconst 1, 1) := by decide +kernel
theorem dX5_way_6 : decode cX5_way 6 = .ok (.invokevirtual 94, 3) := by decide +kernel
theorem dX5_way_9 : decode cX5_way 9 = .ok (.ifCond .eq 5, 3) := by decide +kernel
theorem dX5_way_12 : decode cX5_way 12 = .ok (.iconst 0, 1) := by decide +kernel
theorem dX5_way_13 : decode cX5_way 13 = .ok (.ireturn, 1) := by decide +kernel
theorem dX5_way_14 : decode cX5_way 14 = .ok (.aload_n 0, 1) := by decide +kernel
theorem dX5_way_15 : decode cX5_way 15 = .ok (.invokevirtual 98, 3) := by decide +kernel
theorem dX5_way_18 : decode cX5_way 18 = .ok (.aload_n 0, 1) := by decide +kernel
theorem dX5_way_19 : decode cX5_way 19 = .ok (.getfield 23, 3) := by decide +kernel
theorem dX5_way_22 : decode cX5_way 22 = .ok (.istore_n 2, 1) := by decide +kernel
theorem dX5_way_23 : decode cX5_way 23 = .ok (.aload_n 0, 1) := by decide +kernel
theorem dX5_way_24 : decode cX5_way 24 = .ok (.iload_n 1, 1) := by decide +kernel
theorem dX5_way_25 : decode cX5_way 25 = .ok (.putfield 23, 3) := by decide +kernel
theorem dX5_way_28 : decode cX5_way 28 = .ok (.iload_n 2, 1) := by decide +kernel
theorem dX5_way_29 : decode cX5_way 29 = .ok (.ireturn, 1) := by decide +kernel
set_option maxRecDepth 20000 in
theorem ggX5_keyAt_X5_isOrder : GoodIn wsX5_keyAt wsX5_isOrder := goodIn_r _ [5] (by decide +kernel) (by decide +kernel)
set_option maxRecDepth 20000 in
theorem gX5_keyAt_X5_isOrder : GoodIn wsX5_keyAt (va_wsS RX5 108 yX5_isOrder wsX5_isOrder) := goodIn_app (goodIn_of _ (by decide +kernel)) ggX5_keyAt_X5_isOrder
set_option maxRecDepth 20000 in
theorem ggX5_keyAt_X5_no : GoodIn wsX5_keyAt wsX5_no := goodIn_r _ [9, 10, 20, 21, 22, 23, 24, 25, 26, 27, 28, 29, 30, 31, 32, 33, 34, 35, 36, 37, 38] (by decide +kernel) (by decide +kernel)
set_option maxRecDepth 20000 in
theorem gX5_keyAt_X5_no : GoodIn wsX5_keyAt (wsV RX5 94 RX5 yX5_no wsX5_no) := goodIn_app (goodIn_of _ (by decide +kernel)) ggX5_keyAt_X5_no
set_option maxRecDepth 20000 in
theorem ggX5_keyAt_X5_in : GoodIn wsX5_keyAt wsX5_in := goodIn_r _ [13] (by decide +kernel) (by decide +kernel)
set_option maxRecDepth 20000 in
theorem gX5_keyAt_X5_in : GoodIn wsX5_keyAt (va_wsS RX5 90 yX5_in wsX5_in) := goodIn_app (goodIn_of _ (by decide +kernel)) ggX5_keyAt_X5_in
set_option maxRecDepth 20000 in
theorem ggX5_keyAt_X5_row : GoodIn wsX5_keyAt wsX5_row := goodIn_r _ [17, 18, 19, 20, 21, 22, 23, 24, 25, 26, 27, 28, 29, 30, 31, 32, 33, 34, 35, 36, 37, 38] (by decide +kernel) (by decide +kernel)
set_option maxRecDepth 20000 in
theorem gX5_keyAt_X5_row : GoodIn wsX5_keyAt (wsV RX5 82 RX5 yX5_row wsX5_row) := goodIn_app (goodIn_of _ (by decide +kernel)) ggX5_keyAt_X5_row
theorem dX5_keyAt_0 : decode cX5_keyAt 0 = .ok (.aload_n 0, 1) := by decide +kernel
theorem dX5_keyAt_1 : decode cX5_keyAt 1 = .ok (.iload_n 1, 1) := by decide +kernel
theorem dX5_keyAt_2 : decode cX5_keyAt 2 = .ok (.invokestatic 108, 3) := by decide +kernel
theorem dX5_keyAt_5 : decode cX5_keyAt 5 = .ok (.iconst 1, 1) := by decide +kernel
theorem dX5_keyAt_6 : decode cX5_keyAt 6 = .ok (.invokevirtual 94, 3) := by decide +kernel
theorem dX5_keyAt_9 : decode cX5_keyAt 9 = .ok (.ifCond .ne 22, 3) := by decide +kernel
theorem dX5_keyAt_12 : decode cX5_keyAt 12 = .ok (.aload_n 0, 1) := by decide +kernel
theorem dX5_keyAt_13 : decode cX5_keyAt 13 = .ok (.iload_n 2, 1) := by decide +kernel
theorem dX5_keyAt_14 : decode cX5_keyAt 14 = .ok (.iconst 0, 1) := by decide +kernel
theorem dX5_keyAt_15 : decode cX5_keyAt 15 = .ok (.aload_n 0, 1) := by decide +kernel
theorem dX5_keyAt_16 : decode cX5_keyAt 16 = .ok (.getfield 57, 3) := by decide +kernel
theorem dX5_keyAt_19 : decode cX5_keyAt 19 = .ok (.iconst 1, 1) := by decide +kernel
theorem dX5_keyAt_20 : decode cX5_keyAt 20 = .ok (.isub, 1) := by decide +kernel
theorem dX5_keyAt_21 : decode cX5_keyAt 21 = .ok (.invokestatic 90, 3) := by decide +kernel
theorem dX5_keyAt_24 : decode cX5_keyAt 24 = .ok (.iconst 2, 1) := by decide +kernel
theorem dX5_keyAt_25 : decode cX5_keyAt 25 = .ok (.invokevirtual 94, 3) := by decide +kernel
theorem dX5_keyAt_28 : decode cX5_keyAt 28 = .ok (.ifCond .eq 5, 3) := by decide +kernel
theorem dX5_keyAt_31 : decode cX5_keyAt 31 = .ok (.iconst 0, 1) := by decide +kernel
theorem dX5_keyAt_32 : decode cX5_keyAt 32 = .ok (.ireturn, 1) := by decide +kernel
theorem dX5_keyAt_33 : decode cX5_keyAt 33 = .ok (.aload_n 0, 1) := by decide +kernel
theorem dX5_keyAt_34 : decode cX5_keyAt 34 = .ok (.iload_n 1, 1) := by decide +kernel
theorem dX5_keyAt_35 : decode cX5_keyAt 35 = .ok (.invokevirtual 82, 3) := by decide +kernel
theorem dX5_keyAt_38 : decode cX5_keyAt 38 = .ok (.iload_n 2, 1) := by decide +kernel
theorem dX5_keyAt_39 : decode cX5_keyAt 39 = .ok (.iaload, 1) := by decide +kernel
theorem dX5_keyAt_40 : decode cX5_keyAt 40 = .ok (.ireturn, 1) := by decide +kernel
set_option maxRecDepth 20000 in
theorem ggX5_placeOf_X5_isOrder : GoodIn wsX5_placeOf wsX5_isOrder := goodIn_r _ [4] (by decide +kernel) (by decide +kernel)
set_option maxRecDepth 20000 in
theorem gX5_placeOf_X5_isOrder : GoodIn wsX5_placeOf (va_wsS RX5 108 yX5_isOrder wsX5_isOrder) := goodIn_app (goodIn_of _ (by decide +kernel)) ggX5_placeOf_X5_isOrder
set_option maxRecDepth 20000 in
theorem ggX5_placeOf_X5_no : GoodIn wsX5_placeOf wsX5_no := goodIn_r _ [8, 9, 21, 22, 23, 24, 25, 26, 27, 28, 29, 30, 31, 32, 33, 34, 35, 36, 37, 38, 39] (by decide +kernel) (by decide +kernel)
set_option maxRecDepth 20000 in
theorem gX5_placeOf_X5_no : GoodIn wsX5_placeOf (wsV RX5 94 RX5 yX5_no wsX5_no) := goodIn_app (goodIn_of _ (by decide +kernel)) ggX5_placeOf_X5_no
set_option maxRecDepth 20000 in
theorem ggX5_placeOf_X5_row : GoodIn wsX5_placeOf wsX5_row := goodIn_r _ [13, 14, 15, 21, 22, 23, 24, 25, 26, 27, 28, 29, 30, 31, 32, 33, 34, 35, 36, 37, 38, 39] (by decide +kernel) (by decide +kernel)
set_option maxRecDepth 20000 in
theorem gX5_placeOf_X5_row : GoodIn wsX5_placeOf (wsV RX5 82 RX5 yX5_row wsX5_row) := goodIn_app (goodIn_of _ (by decide +kernel)) ggX5_placeOf_X5_row
set_option maxRecDepth 20000 in
theorem ggX5_placeOf_X5_place : GoodIn wsX5_placeOf wsX5_place := goodIn_r _ [19, 20, 21, 22, 23, 24, 25, 26, 27, 28, 29, 30, 31, 32, 33, 34, 35, 36, 37, 38, 39] (by decide +kernel) (by decide +kernel)
set_option maxRecDepth 20000 in
theorem gX5_placeOf_X5_place : GoodIn wsX5_placeOf (wsV RX5 78 RX5 yX5_place wsX5_place) := goodIn_app (goodIn_of _ (by decide +kernel)) ggX5_placeOf_X5_place
theorem dX5_placeOf_0 : decode cX5_placeOf 0 = .ok (.aload_n 0, 1) := by decide +kernel
theorem dX5_placeOf_1 : decode cX5_placeOf 1 = .ok (.iload_n 1, 1) := by decide +kernel
theorem dX5_placeOf_2 : decode cX5_placeOf 2 = .ok (.invokestatic 108, 3) := by decide +kernel
theorem dX5_placeOf_5 : decode cX5_placeOf 5 = .ok (.iconst 1, 1) := by decide +kernel
theorem dX5_placeOf_6 : decode cX5_placeOf 6 = .ok (.invokevirtual 94, 3) := by decide +kernel
theorem dX5_placeOf_9 : decode cX5_placeOf 9 = .ok (.ifCond .eq 5, 3) := by decide +kernel
theorem dX5_placeOf_12 : decode cX5_placeOf 12 = .ok (.iconst 0, 1) := by decide +kernel
theorem dX5_placeOf_13 : decode cX5_placeOf 13 = .ok (.ireturn, 1) := by decide +kernel
theorem dX5_placeOf_14 : decode cX5_placeOf 14 = .ok (.aload_n 0, 1) := by decide +kernel
theorem dX5_placeOf_15 : decode cX5_placeOf 15 = .ok (.aload_n 0, 1) := by decide +kernel
theorem dX5_placeOf_16 : decode cX5_placeOf 16 = .ok (.iload_n 1, 1) := by decide +kernel
theorem dX5_placeOf_17 : decode cX5_placeOf 17 = .ok (.invokevirtual 82, 3) := by decide +kernel
theorem dX5_placeOf_20 : decode cX5_placeOf 20 = .ok (.iload_n 2, 1) := by decide +kernel
theorem dX5_placeOf_21 : decode cX5_placeOf 21 = .ok (.invokevirtual 78, 3) := by decide +kernel
theorem dX5_placeOf_24 : decode cX5_placeOf 24 = .ok (.istore_n 3, 1) := by decide +kernel
theorem dX5_placeOf_25 : decode cX5_placeOf 25 = .ok (.aload_n 0, 1) := by decide +kernel
theorem dX5_placeOf_26 : decode cX5_placeOf 26 = .ok (.iload_n 3, 1) := by decide +kernel
theorem dX5_placeOf_27 : decode cX5_placeOf 27 = .ok (.ifCond .lt 7, 3) := by decide +kernel
theorem dX5_placeOf_30 : decode cX5_placeOf 30 = .ok (.iconst 1, 1) := by decide +kernel
theorem dX5_placeOf_31 : decode cX5_placeOf 31 = .ok (.goto 4, 3) := by decide +kernel
theorem dX5_placeOf_34 : decode cX5_placeOf 34 = .ok (.iconst 0, 1) := by decide +kernel
theorem dX5_placeOf_35 : decode cX5_placeOf 35 = .ok (.iconst 2, 1) := by decide +kernel
theorem dX5_placeOf_36 : decode cX5_placeOf 36 = .ok (.invokevirtual 94, 3) := by decide +kernel
theorem dX5_placeOf_39 : decode cX5_placeOf 39 = .ok (.ifCond .eq 7, 3) := by decide +kernel
theorem dX5_placeOf_42 : decode cX5_placeOf 42 = .ok (.iconst 0, 1) := by decide +kernel
theorem dX5_placeOf_43 : decode cX5_placeOf 43 = .ok (.goto 4, 3) := by decide +kernel
theorem dX5_placeOf_46 : decode cX5_placeOf 46 = .ok (.iload_n 3, 1) := by decide +kernel
theorem dX5_placeOf_47 : decode cX5_placeOf 47 = .ok (.ireturn, 1) := by decide +kernel
set_option maxRecDepth 20000 in
theorem ggX5_setAt_X5_isOrder : GoodIn wsX5_setAt wsX5_isOrder := goodIn_r _ [7] (by decide +kernel) (by decide +kernel)
set_option maxRecDepth 20000 in
theorem gX5_setAt_X5_isOrder : GoodIn wsX5_setAt (va_wsS RX5 108 yX5_isOrder wsX5_isOrder) := goodIn_app (goodIn_of _ (by decide +kernel)) ggX5_setAt_X5_isOrder
set_option maxRecDepth 20000 in
theorem ggX5_setAt_X5_no : GoodIn wsX5_setAt wsX5_no := goodIn_r _ [11, 12, 50, 51, 52, 53, 54, 55, 56, 57, 58, 59, 60, 61, 62, 63, 64, 65, 66, 67, 68] (by decide +kernel) (by decide +kernel)
set_option maxRecDepth 20000 in
theorem gX5_setAt_X5_no : GoodIn wsX5_setAt (wsV RX5 94 RX5 yX5_no wsX5_no) := goodIn_app (goodIn_of _ (by decide +kernel)) ggX5_setAt_X5_no
set_option maxRecDepth 20000 in
theorem ggX5_setAt_X5_in : GoodIn wsX5_setAt wsX5_in := goodIn_r _ [15] (by decide +kernel) (by decide +kernel)
set_option maxRecDepth 20000 in
theorem gX5_setAt_X5_in : GoodIn wsX5_setAt (va_wsS RX5 90 yX5_in wsX5_in) := goodIn_app (goodIn_of _ (by decide +kernel)) ggX5_setAt_X5_in
set_option maxRecDepth 20000 in
theorem ggX5_setAt_X5_changes : GoodIn wsX5_setAt wsX5_changes := goodIn_r _ [19, 20, 21, 22, 23, 6, 24, 25, 2, 26, 3, 27, 28, 29, 30, 1, 31, 32, 33, 34, 35, 36, 37, 38, 39, 40, 41, 50, 51, 52, 53, 54, 55, 56, 57, 58, 59, 60, 61, 62, 63, 64, 65, 66, 67, 68] (by decide +kernel) (by decide +kernel)
set_option maxRecDepth 20000 in
theorem gX5_setAt_X5_changes : GoodIn wsX5_setAt (wsV RX5 98 RX5 yX5_changes wsX5_changes) := goodIn_app (goodIn_of _ (by decide +kernel)) ggX5_setAt_X5_changes
set_option maxRecDepth 20000 in
theorem ggX5_setAt_X5_row : GoodIn wsX5_setAt wsX5_row := goodIn_r _ [45, 2, 28, 50, 51, 52, 53, 54, 55, 56, 57, 58, 59, 60, 61, 62, 63, 64, 65, 66, 67, 68] (by decide +kernel) (by decide +kernel)
set_option maxRecDepth 20000 in
theorem gX5_setAt_X5_row : GoodIn wsX5_setAt (wsV RX5 82 RX5 yX5_row wsX5_row) := goodIn_app (goodIn_of _ (by decide +kernel)) ggX5_setAt_X5_row
set_option maxRecDepth 20000 in
theorem ggX5_setAt_X5_place : GoodIn wsX5_setAt wsX5_place := goodIn_r _ [49, 1, 50, 51, 52, 53, 54, 55, 56, 57, 58, 59, 60, 61, 62, 63, 64, 65, 66, 67, 68] (by decide +kernel) (by decide +kernel)
set_option maxRecDepth 20000 in
theorem gX5_setAt_X5_place : GoodIn wsX5_setAt (wsV RX5 78 RX5 yX5_place wsX5_place) := goodIn_app (goodIn_of _ (by decide +kernel)) ggX5_setAt_X5_place
theorem dX5_setAt_0 : decode cX5_setAt 0 = .ok (.aload_n 0, 1) := by decide +kernel
theorem dX5_setAt_1 : decode cX5_setAt 1 = .ok (.iload_n 1, 1) := by decide +kernel
theorem dX5_setAt_2 : decode cX5_setAt 2 = .ok (.invokestatic 108, 3) := by decide +kernel
theorem dX5_setAt_5 : decode cX5_setAt 5 = .ok (.iconst 1, 1) := by decide +kernel
theorem dX5_setAt_6 : decode cX5_setAt 6 = .ok (.invokevirtual 94, 3) := by decide +kernel
theorem dX5_setAt_9 : decode cX5_setAt 9 = .ok (.ifCond .ne 22, 3) := by decide +kernel
theorem dX5_setAt_12 : decode cX5_setAt 12 = .ok (.aload_n 0, 1) := by decide +kernel
theorem dX5_setAt_13 : decode cX5_setAt 13 = .ok (.iload_n 2, 1) := by decide +kernel
theorem dX5_setAt_14 : decode cX5_setAt 14 = .ok (.iconst 0, 1) := by decide +kernel
theorem dX5_setAt_15 : decode cX5_setAt 15 = .ok (.aload_n 0, 1) := by decide +kernel
theorem dX5_setAt_16 : decode cX5_setAt 16 = .ok (.getfield 57, 3) := by decide +kernel
theorem dX5_setAt_19 : decode cX5_setAt 19 = .ok (.iconst 1, 1) := by decide +kernel
theorem dX5_setAt_20 : decode cX5_setAt 20 = .ok (.isub, 1) := by decide +kernel
theorem dX5_setAt_21 : decode cX5_setAt 21 = .ok (.invokestatic 90, 3) := by decide +kernel
theorem dX5_setAt_24 : decode cX5_setAt 24 = .ok (.iconst 2, 1) := by decide +kernel
theorem dX5_setAt_25 : decode cX5_setAt 25 = .ok (.invokevirtual 94, 3) := by decide +kernel
theorem dX5_setAt_28 : decode cX5_setAt 28 = .ok (.ifCond .eq 5, 3) := by decide +kernel
theorem dX5_setAt_31 : decode cX5_setAt 31 = .ok (.iconst 0, 1) := by decide +kernel
theorem dX5_setAt_32 : decode cX5_setAt 32 = .ok (.ireturn, 1) := by decide +kernel
theorem dX5_setAt_33 : decode cX5_setAt 33 = .ok (.aload_n 0, 1) := by decide +kernel
theorem dX5_setAt_34 : decode cX5_setAt 34 = .ok (.invokevirtual 98, 3) := by decide +kernel
theorem dX5_setAt_37 : decode cX5_setAt 37 = .ok (.aload_n 0, 1) := by decide +kernel
theorem dX5_setAt_38 : decode cX5_setAt 38 = .ok (.aload_n 0, 1) := by decide +kernel
theorem dX5_setAt_39 : decode cX5_setAt 39 = .ok (.getfield 9, 3) := by decide +kernel
theorem dX5_setAt_42 : decode cX5_setAt 42 = .ok (.aload_n 0, 1) := by decide +kernel
theorem dX5_setAt_43 : decode cX5_setAt 43 = .ok (.iload_n 1, 1) := by decide +kernel
theorem dX5_setAt_44 : decode cX5_setAt 44 = .ok (.invokevirtual 82, 3) := by decide +kernel
theorem dX5_setAt_47 : decode cX5_setAt 47 = .ok (.iload_n 2, 1) := by decide +kernel
theorem dX5_setAt_48 : decode cX5_setAt 48 = .ok (.iaload, 1) := by decide +kernel
theorem dX5_setAt_49 : decode cX5_setAt 49 = .ok (.invokevirtual 78, 3) := by decide +kernel
theorem dX5_setAt_52 : decode cX5_setAt 52 = .ok (.istore 4, 2) := by decide +kernel
theorem dX5_setAt_54 : decode cX5_setAt 54 = .ok (.aload_n 0, 1) := by decide +kernel
theorem dX5_setAt_55 : decode cX5_setAt 55 = .ok (.getfield 13, 3) := by decide +kernel
theorem dX5_setAt_58 : decode cX5_setAt 58 = .ok (.iload 4, 2) := by decide +kernel
theorem dX5_setAt_60 : decode cX5_setAt 60 = .ok (.iaload, 1) := by decide +kernel
theorem dX5_setAt_61 : decode cX5_setAt 61 = .ok (.istore 5, 2) := by decide +kernel
theorem dX5_setAt_63 : decode cX5_setAt 63 = .ok (.aload_n 0, 1) := by decide +kernel
theorem dX5_setAt_64 : decode cX5_setAt 64 = .ok (.getfield 13, 3) := by decide +kernel
theorem dX5_setAt_67 : decode cX5_setAt 67 = .ok (.iload 4, 2) := by decide +kernel
theorem dX5_setAt_69 : decode cX5_setAt 69 = .ok (.iload_n 3, 1) := by decide +kernel
theorem dX5_setAt_70 : decode cX5_setAt 70 = .ok (.iastore, 1) := by decide +kernel
theorem dX5_setAt_71 : decode cX5_setAt 71 = .ok (.iload 5, 2) := by decide +kernel
theorem dX5_setAt_73 : decode cX5_setAt 73 = .ok (.ireturn, 1) := by decide +kernel
set_option maxRecDepth 20000 in
theorem ggX5_removeAt_X5_isOrder : GoodIn wsX5_removeAt wsX5_isOrder := goodIn_r _ [5] (by decide +kernel) (by decide +kernel)
set_option maxRecDepth 20000 in
theorem gX5_removeAt_X5_isOrder : GoodIn wsX5_removeAt (va_wsS RX5 108 yX5_isOrder wsX5_isOrder) := goodIn_app (goodIn_of _ (by decide +kernel)) ggX5_removeAt_X5_isOrder
set_option maxRecDepth 20000 in
theorem ggX5_removeAt_X5_no : GoodIn wsX5_removeAt wsX5_no := goodIn_r _ [9, 10, 54, 55, 56, 57, 58, 59, 60, 61, 62, 63, 64, 65, 66, 67, 68, 69, 70, 71, 72] (by decide +kernel) (by decide +kernel)
set_option maxRecDepth 20000 in
theorem gX5_removeAt_X5_no : GoodIn wsX5_removeAt (wsV RX5 94 RX5 yX5_no wsX5_no) := goodIn_app (goodIn_of _ (by decide +kernel)) ggX5_removeAt_X5_no
set_option maxRecDepth 20000 in
theorem ggX5_removeAt_X5_in : GoodIn wsX5_removeAt wsX5_in := goodIn_r _ [13] (by decide +kernel) (by decide +kernel)
set_option maxRecDepth 20000 in
theorem gX5_removeAt_X5_in : GoodIn wsX5_removeAt (va_wsS RX5 90 yX5_in wsX5_in) := goodIn_app (goodIn_of _ (by decide +kernel)) ggX5_removeAt_X5_in
set_option maxRecDepth 20000 in
theorem ggX5_removeAt_X5_changes : GoodIn wsX5_removeAt wsX5_changes := goodIn_r _ [17, 18, 19, 20, 21, 4, 22, 23, 24, 25, 26, 27, 28, 29, 30, 1, 31, 32, 33, 34, 35, 36, 37, 38, 39, 40, 41, 54, 55, 56, 57, 58, 59, 60, 61, 62, 63, 64, 65, 66, 67, 68, 69, 70, 71, 72] (by decide +kernel) (by decide +kernel)
set_option maxRecDepth 20000 in
theorem gX5_removeAt_X5_changes : GoodIn wsX5_removeAt (wsV RX5 98 RX5 yX5_changes wsX5_changes) := goodIn_app (goodIn_of _ (by decide +kernel)) ggX5_removeAt_X5_changes
set_option maxRecDepth 20000 in
theorem ggX5_removeAt_X5_row : GoodIn wsX5_removeAt wsX5_row := goodIn_r _ [45, 24, 28, 54, 55, 56, 57, 58, 59, 60, 61, 62, 63, 64, 65, 66, 67, 68, 69, 70, 71, 72] (by decide +kernel) (by decide +kernel)
set_option maxRecDepth 20000 in
theorem gX5_removeAt_X5_row : GoodIn wsX5_removeAt (wsV RX5 82 RX5 yX5_row wsX5_row) := goodIn_app (goodIn_of _ (by decide +kernel)) ggX5_removeAt_X5_row
set_option maxRecDepth 20000 in
theorem ggX5_removeAt_X5_out : GoodIn wsX5_removeAt wsX5_out := goodIn_r _ [49, 24, 1, 26, 28, 50, 51, 52, 4, 53, 54, 55, 56, 57, 58, 59, 60, 61, 62, 63, 64, 65, 66, 67, 68, 69, 70, 71, 72] (by decide +kernel) (by decide +kernel)
set_option maxRecDepth 20000 in
theorem gX5_removeAt_X5_out : GoodIn wsX5_removeAt (wsV RX5 86 RX5 yX5_out wsX5_out) := goodIn_app (goodIn_of _ (by decide +kernel)) ggX5_removeAt_X5_out
theorem dX5_removeAt_0 : decode cX5_removeAt 0 = .ok (.aload_n 0, 1) := by decide +kernel
theorem dX5_removeAt_1 : decode cX5_removeAt 1 = .ok (.iload_n 1, 1) := by decide +kernel
theorem dX5_removeAt_2 : decode cX5_removeAt 2 = .ok (.invokestatic 108, 3) := by decide +kernel
theorem dX5_removeAt_5 : decode cX5_removeAt 5 = .ok (.iconst 1, 1) := by decide +kernel
theorem dX5_removeAt_6 : decode cX5_removeAt 6 = .ok (.invokevirtual 94, 3) := by decide +kernel
theorem dX5_removeAt_9 : decode cX5_removeAt 9 = .ok (.ifCond .ne 22, 3) := by decide +kernel
theorem dX5_removeAt_12 : decode cX5_removeAt 12 = .ok (.aload_n 0, 1) := by decide +kernel
theorem dX5_removeAt_13 : decode cX5_removeAt 13 = .ok (.iload_n 2, 1) := by decide +kernel
theorem dX5_removeAt_14 : decode cX5_removeAt 14 = .ok (.iconst 0, 1) := by decide +kernel
theorem dX5_removeAt_15 : decode cX5_removeAt 15 = .ok (.aload_n 0, 1) := by decide +kernel
theorem dX5_removeAt_16 : decode cX5_removeAt 16 = .ok (.getfield 57, 3) := by decide +kernel
theorem dX5_removeAt_19 : decode cX5_removeAt 19 = .ok (.iconst 1, 1) := by decide +kernel
theorem dX5_removeAt_20 : decode cX5_removeAt 20 = .ok (.isub, 1) := by decide +kernel
theorem dX5_removeAt_21 : decode cX5_removeAt 21 = .ok (.invokestatic 90, 3) := by decide +kernel
theorem dX5_removeAt_24 : decode cX5_removeAt 24 = .ok (.iconst 2, 1) := by decide +kernel
theorem dX5_removeAt_25 : decode cX5_removeAt 25 = .ok (.invokevirtual 94, 3) := by decide +kernel
theorem dX5_removeAt_28 : decode cX5_removeAt 28 = .ok (.ifCond .eq 5, 3) := by decide +kernel
theorem dX5_removeAt_31 : decode cX5_removeAt 31 = .ok (.iconst 0, 1) := by decide +kernel
theorem dX5_removeAt_32 : decode cX5_removeAt 32 = .ok (.ireturn, 1) := by decide +kernel
theorem dX5_removeAt_33 : decode cX5_removeAt 33 = .ok (.aload_n 0, 1) := by decide +kernel
theorem dX5_removeAt_34 : decode cX5_removeAt 34 = .ok (.invokevirtual 98, 3) := by decide +kernel
theorem dX5_removeAt_37 : decode cX5_removeAt 37 = .ok (.aload_n 0, 1) := by decide +kernel
theorem dX5_removeAt_38 : decode cX5_removeAt 38 = .ok (.iload_n 1, 1) := by decide +kernel
theorem dX5_removeAt_39 : decode cX5_removeAt 39 = .ok (.invokevirtual 82, 3) := by decide +kernel
theorem dX5_removeAt_42 : decode cX5_removeAt 42 = .ok (.iload_n 2, 1) := by decide +kernel
theorem dX5_removeAt_43 : decode cX5_removeAt 43 = .ok (.iaload, 1) := by decide +kernel
theorem dX5_removeAt_44 : decode cX5_removeAt 44 = .ok (.istore_n 3, 1) := by decide +kernel
theorem dX5_removeAt_45 : decode cX5_removeAt 45 = .ok (.aload_n 0, 1) := by decide +kernel
theorem dX5_removeAt_46 : decode cX5_removeAt 46 = .ok (.iload_n 3, 1) := by decide +kernel
theorem dX5_removeAt_47 : decode cX5_removeAt 47 = .ok (.invokevirtual 86, 3) := by decide +kernel
theorem dX5_removeAt_50 : decode cX5_removeAt 50 = .ok (.iload_n 3, 1) := by decide +kernel
theorem dX5_removeAt_51 : decode cX5_removeAt 51 = .ok (.ireturn, 1) := by decide +kernel
set_option maxRecDepth 20000 in
theorem ggX5_thin_X5_isOrder : GoodIn wsX5_thin wsX5_isOrder := goodIn_r _ [5] (by decide +kernel) (by decide +kernel)
set_option maxRecDepth 20000 in
theorem gX5_thin_X5_isOrder : GoodIn wsX5_thin (va_wsS RX5 108 yX5_isOrder wsX5_isOrder) := goodIn_app (goodIn_of _ (by decide +kernel)) ggX5_thin_X5_isOrder
set_option maxRecDepth 20000 in
theorem ggX5_thin_X5_in : GoodIn wsX5_thin wsX5_in := goodIn_r _ [8] (by decide +kernel) (by decide +kernel)
set_option maxRecDepth 20000 in
theorem gX5_thin_X5_in : GoodIn wsX5_thin (va_wsS RX5 90 yX5_in wsX5_in) := goodIn_app (goodIn_of _ (by decide +kernel)) ggX5_thin_X5_in
set_option maxRecDepth 20000 in
theorem ggX5_thin_X5_no : GoodIn wsX5_thin wsX5_no := goodIn_r _ [12, 13, 54, 55, 56, 57, 58, 59, 60, 61, 62, 63, 64, 65, 66, 67, 68, 69, 70, 71, 72] (by decide +kernel) (by decide +kernel)
set_option maxRecDepth 20000 in
theorem gX5_thin_X5_no : GoodIn wsX5_thin (wsV RX5 94 RX5 yX5_no wsX5_no) := goodIn_app (goodIn_of _ (by decide +kernel)) ggX5_thin_X5_no
set_option maxRecDepth 20000 in
theorem ggX5_thin_X5_changes : GoodIn wsX5_thin wsX5_changes := goodIn_r _ [17, 18, 19, 20, 21, 4, 22, 23, 24, 25, 26, 27, 28, 29, 30, 1, 31, 32, 33, 34, 35, 36, 37, 38, 39, 40, 41, 54, 55, 56, 57, 58, 59, 60, 61, 62, 63, 64, 65, 66, 67, 68, 69, 70, 71, 72] (by decide +kernel) (by decide +kernel)
set_option maxRecDepth 20000 in
theorem gX5_thin_X5_changes : GoodIn wsX5_thin (wsV RX5 98 RX5 yX5_changes wsX5_changes) := goodIn_app (goodIn_of _ (by decide +kernel)) ggX5_thin_X5_changes
set_option maxRecDepth 20000 in
theorem ggX5_thin_X5_row : GoodIn wsX5_thin wsX5_row := goodIn_r _ [45, 24, 28, 54, 55, 56, 57, 58, 59, 60, 61, 62, 63, 64, 65, 66, 67, 68, 69, 70, 71, 72] (by decide +kernel) (by decide +kernel)
set_option maxRecDepth 20000 in
theorem gX5_thin_X5_row : GoodIn wsX5_thin (wsV RX5 82 RX5 yX5_row wsX5_row) := goodIn_app (goodIn_of _ (by decide +kernel)) ggX5_thin_X5_row
set_option maxRecDepth 20000 in
theorem ggX5_thin_X5_out : GoodIn wsX5_thin wsX5_out := goodIn_r _ [49, 24, 1, 26, 28, 50, 51, 52, 4, 53, 54, 55, 56, 57, 58, 59, 60, 61, 62, 63, 64, 65, 66, 67, 68, 69, 70, 71, 72] (by decide +kernel) (by decide +kernel)
set_option maxRecDepth 20000 in
theorem gX5_thin_X5_out : GoodIn wsX5_thin (wsV RX5 86 RX5 yX5_out wsX5_out) := goodIn_app (goodIn_of _ (by decide +kernel)) ggX5_thin_X5_out
theorem dX5_thin_0 : decode cX5_thin 0 = .ok (.aload_n 0, 1) := by decide +kernel
theorem dX5_thin_1 : decode cX5_thin 1 = .ok (.iload_n 1, 1) := by decide +kernel
theorem dX5_thin_2 : decode cX5_thin 2 = .ok (.invokestatic 108, 3) := by decide +kernel
theorem dX5_thin_5 : decode cX5_thin 5 = .ok (.ifCond .eq 17, 3) := by decide +kernel
theorem dX5_thin_8 : decode cX5_thin 8 = .ok (.iload_n 2, 1) := by decide +kernel
theorem dX5_thin_9 : decode cX5_thin 9 = .ok (.iconst 1, 1) := by decide +kernel
theorem dX5_thin_10 : decode cX5_thin 10 = .ok (.bipush 12, 2) := by decide +kernel
theorem dX5_thin_12 : decode cX5_thin 12 = .ok (.invokestatic 90, 3) := by decide +kernel
theorem dX5_thin_15 : decode cX5_thin 15 = .ok (.ifCond .eq 7, 3) := by decide +kernel
theorem dX5_thin_18 : decode cX5_thin 18 = .ok (.iconst 1, 1) := by decide +kernel
theorem dX5_thin_19 : decode cX5_thin 19 = .ok (.goto 4, 3) := by decide +kernel
theorem dX5_thin_22 : decode cX5_thin 22 = .ok (.iconst 0, 1) := by decide +kernel
theorem dX5_thin_23 : decode cX5_thin 23 = .ok (.iconst 1, 1) := by decide +kernel
theorem dX5_thin_24 : decode cX5_thin 24 = .ok (.invokevirtual 94, 3) := by decide +kernel
theorem dX5_thin_27 : decode cX5_thin 27 = .ok (.ifCond .eq 5, 3) := by decide +kernel
theorem dX5_thin_30 : decode cX5_thin 30 = .ok (.iconst 0, 1) := by decide +kernel
theorem dX5_thin_31 : decode cX5_thin 31 = .ok (.ireturn, 1) := by decide +kernel
theorem dX5_thin_32 : decode cX5_thin 32 = .ok (.aload_n 0, 1) := by decide +kernel
theorem dX5_thin_33 : decode cX5_thin 33 = .ok (.getfield 57, 3) := by decide +kernel
theorem dX5_thin_36 : decode cX5_thin 36 = .ok (.iload_n 2, 1) := by decide +kernel
theorem dX5_thin_37 : decode cX5_thin 37 = .ok (.idiv, 1) := by decide +kernel
theorem dX5_thin_38 : decode cX5_thin 38 = .ok (.istore_n 3, 1) := by decide +kernel
theorem dX5_thin_39 : decode cX5_thin 39 = .ok (.iload_n 3, 1) := by decide +kernel
theorem dX5_thin_40 : decode cX5_thin 40 = .ok (.ifCond .le 7, 3) := by decide +kernel
theorem dX5_thin_43 : decode cX5_thin 43 = .ok (.aload_n 0, 1) := by decide +kernel
theorem dX5_thin_44 : decode cX5_thin 44 = .ok (.invokevirtual 98, 3) := by decide +kernel
theorem dX5_thin_47 : decode cX5_thin 47 = .ok (.iload_n 3, 1) := by decide +kernel
theorem dX5_thin_48 : decode cX5_thin 48 = .ok (.istore 4, 2) := by decide +kernel
theorem dX5_thin_50 : decode cX5_thin 50 = .ok (.iload 4, 2) := by decide +kernel
theorem dX5_thin_52 : decode cX5_thin 52 = .ok (.ifCond .le 25, 3) := by decide +kernel
theorem dX5_thin_55 : decode cX5_thin 55 = .ok (.aload_n 0, 1) := by decide +kernel
theorem dX5_thin_56 : decode cX5_thin 56 = .ok (.aload_n 0, 1) := by decide +kernel
theorem dX5_thin_57 : decode cX5_thin 57 = .ok (.iload_n 1, 1) := by decide +kernel
theorem dX5_thin_58 : decode cX5_thin 58 = .ok (.invokevirtual 82, 3) := by decide +kernel
theorem dX5_thin_61 : decode cX5_thin 61 = .ok (.iload 4, 2) := by decide +kernel
theorem dX5_thin_63 : decode cX5_thin 63 = .ok (.iload_n 2, 1) := by decide +kernel
theorem dX5_thin_64 : decode cX5_thin 64 = .ok (.imul, 1) := by decide +kernel
theorem dX5_thin_65 : decode cX5_thin 65 = .ok (.iconst 1, 1) := by decide +kernel
theorem dX5_thin_66 : decode cX5_thin 66 = .ok (.isub, 1) := by decide +kernel
theorem dX5_thin_67 : decode cX5_thin 67 = .ok (.iaload, 1) := by decide +kernel
theorem dX5_thin_68 : decode cX5_thin 68 = .ok (.invokevirtual 86, 3) := by decide +kernel
theorem dX5_thin_71 : decode cX5_thin 71 = .ok (.iinc 4 (-1), 3) := by decide +kernel
theorem dX5_thin_74 : decode cX5_thin 74 = .ok (.goto (-24), 3) := by decide +kernel
theorem dX5_thin_77 : decode cX5_thin 77 = .ok (.iload_n 3, 1) := by decide +kernel
theorem dX5_thin_78 : decode cX5_thin 78 = .ok (.ireturn, 1) := by decide +kernel
set_option maxRecDepth 20000 in
theorem ggX5_walk_X5_isOrder : GoodIn wsX5_walk wsX5_isOrder := goodIn_r _ [10] (by decide +kernel) (by decide +kernel)
set_option maxRecDepth 20000 in
theorem gX5_walk_X5_isOrder : GoodIn wsX5_walk (va_wsS RX5 108 yX5_isOrder wsX5_isOrder) := goodIn_app (goodIn_of _ (by decide +kernel)) ggX5_walk_X5_isOrder
set_option maxRecDepth 20000 in
theorem ggX5_walk_X5_no : GoodIn wsX5_walk wsX5_no := goodIn_r _ [14, 15, 25, 26, 27, 28, 29, 30, 31, 32, 33, 34, 35, 36, 37, 38, 39, 40, 41, 42, 43] (by decide +kernel) (by decide +kernel)
set_option maxRecDepth 20000 in
theorem gX5_walk_X5_no : GoodIn wsX5_walk (wsV RX5 94 RX5 yX5_no wsX5_no) := goodIn_app (goodIn_of _ (by decide +kernel)) ggX5_walk_X5_no
set_option maxRecDepth 20000 in
theorem ggX5_walk_X5_row : GoodIn wsX5_walk wsX5_row := goodIn_r _ [19, 20, 21, 25, 26, 27, 28, 29, 30, 31, 32, 33, 34, 35, 36, 37, 38, 39, 40, 41, 42, 43] (by decide +kernel) (by decide +kernel)
set_option maxRecDepth 20000 in
theorem gX5_walk_X5_row : GoodIn wsX5_walk (wsV RX5 82 RX5 yX5_row wsX5_row) := goodIn_app (goodIn_of _ (by decide +kernel)) ggX5_walk_X5_row
set_option maxRecDepth 20000 in
theorem ggX5_walk_X5_copied : GoodIn wsX5_walk wsX5_copied := goodIn_r _ [24] (by decide +kernel) (by decide +kernel)
set_option maxRecDepth 20000 in
theorem gX5_walk_X5_copied : GoodIn wsX5_walk (va_wsS RX5 60 yX5_copied wsX5_copied) := goodIn_app (goodIn_of _ (by decide +kernel)) ggX5_walk_X5_copied
theorem dX5_walk_0 : decode cX5_walk 0 = .ok (.aload_n 0, 1) := by decide +kernel
theorem dX5_walk_1 : decode cX5_walk 1 = .ok (.iload_n 1, 1) := by decide +kernel
theorem dX5_walk_2 : decode cX5_walk 2 = .ok (.invokestatic 108, 3) := by decide +kernel
theorem dX5_walk_5 : decode cX5_walk 5 = .ok (.iconst 1, 1) := by decide +kernel
theorem dX5_walk_6 : decode cX5_walk 6 = .ok (.invokevirtual 94, 3) := by decide +kernel
theorem dX5_walk_9 : decode cX5_walk 9 = .ok (.ifCond .eq 5, 3) := by decide +kernel
theorem dX5_walk_12 : decode cX5_walk 12 = .ok (.iconst 0, 1) := by decide +kernel
theorem dX5_walk_13 : decode cX5_walk 13 = .ok (.ireturn, 1) := by decide +kernel
theorem dX5_walk_14 : decode cX5_walk 14 = .ok (.aload_n 0, 1) := by decide +kernel
theorem dX5_walk_15 : decode cX5_walk 15 = .ok (.iconst 1, 1) := by decide +kernel
theorem dX5_walk_16 : decode cX5_walk 16 = .ok (.putfield 74, 3) := by decide +kernel
theorem dX5_walk_19 : decode cX5_walk 19 = .ok (.aload_n 0, 1) := by decide +kernel
theorem dX5_walk_20 : decode cX5_walk 20 = .ok (.iload_n 1, 1) := by decide +kernel
theorem dX5_walk_21 : decode cX5_walk 21 = .ok (.invokevirtual 82, 3) := by decide +kernel
theorem dX5_walk_24 : decode cX5_walk 24 = .ok (.aload_n 0, 1) := by decide +kernel
theorem dX5_walk_25 : decode cX5_walk 25 = .ok (.getfield 48, 3) := by decide +kernel
theorem dX5_walk_28 : decode cX5_walk 28 = .ok (.invokestatic 60, 3) := by decide +kernel
theorem dX5_walk_31 : decode cX5_walk 31 = .ok (.aload_n 0, 1) := by decide +kernel
theorem dX5_walk_32 : decode cX5_walk 32 = .ok (.aload_n 0, 1) := by decide +kernel
theorem dX5_walk_33 : decode cX5_walk 33 = .ok (.getfield 57, 3) := by decide +kernel
theorem dX5_walk_36 : decode cX5_walk 36 = .ok (.putfield 112, 3) := by decide +kernel
theorem dX5_walk_39 : decode cX5_walk 39 = .ok (.aload_n 0, 1) := by decide +kernel
theorem dX5_walk_40 : decode cX5_walk 40 = .ok (.iconst 0, 1) := by decide +kernel
theorem dX5_walk_41 : decode cX5_walk 41 = .ok (.putfield 115, 3) := by decide +kernel
theorem dX5_walk_44 : decode cX5_walk 44 = .ok (.aload_n 0, 1) := by decide +kernel
theorem dX5_walk_45 : decode cX5_walk 45 = .ok (.iconst (-1), 1) := by decide +kernel
theorem dX5_walk_46 : decode cX5_walk 46 = .ok (.putfield 51, 3) := by decide +kernel
theorem dX5_walk_49 : decode cX5_walk 49 = .ok (.aload_n 0, 1) := by decide +kernel
theorem dX5_walk_50 : decode cX5_walk 50 = .ok (.getfield 57, 3) := by decide +kernel
theorem dX5_walk_53 : decode cX5_walk 53 = .ok (.ireturn, 1) := by decide +kernel
set_option maxRecDepth 20000 in
theorem ggX5_step_X5_no : GoodIn wsX5_step wsX5_no := goodIn_r _ [10, 11, 12, 13, 14, 15, 16, 17, 18, 19, 20, 21, 22, 23, 24, 25, 26, 27, 28, 29, 30] (by decide +kernel) (by decide +kernel)
set_option maxRecDepth 20000 in
theorem gX5_step_X5_no : GoodIn wsX5_step (wsV RX5 94 RX5 yX5_no wsX5_no) := goodIn_app (goodIn_of _ (by decide +kernel)) ggX5_step_X5_no
theorem dX5_step_0 : decode cX5_step 0 = .ok (.aload_n 0, 1) := by decide +kernel
theorem dX5_step_1 : decode cX5_step 1 = .ok (.aload_n 0, 1) := by decide +kernel
theorem dX5_step_2 : decode cX5_step 2 = .ok (.getfield 74, 3) := by decide +kernel
theorem dX5_step_5 : decode cX5_step 5 = .ok (.iconst 1, 1) := by decide +kernel
theorem dX5_step_6 : decode cX5_step 6 = .ok (.invokevirtual 94, 3) := by decide +kernel
theorem dX5_step_9 : decode cX5_step 9 = .ok (.ifCond .ne 27, 3) := by decide +kernel
theorem dX5_step_12 : decode cX5_step 12 = .ok (.aload_n 0, 1) := by decide +kernel
theorem dX5_step_13 : decode cX5_step 13 = .ok (.aload_n 0, 1) := by decide +kernel
theorem dX5_step_14 : decode cX5_step 14 = .ok (.getfield 115, 3) := by decide +kernel
theorem dX5_step_17 : decode cX5_step 17 = .ok (.aload_n 0, 1) := by decide +kernel
theorem dX5_step_18 : decode cX5_step 18 = .ok (.getfield 112, 3) := by decide +kernel
theorem dX5_step_21 : decode cX5_step 21 = .ok (.if_icmp .ge 7, 3) := by decide +kernel
theorem dX5_step_24 : decode cX5_step 24 = .ok (.iconst 1, 1) := by decide +kernel
theorem dX5_step_25 : decode cX5_step 25 = .ok (.goto 4, 3) := by decide +kernel
theorem dX5_step_28 : decode cX5_step 28 = .ok (.iconst 0, 1) := by decide +kernel
theorem dX5_step_29 : decode cX5_step 29 = .ok (.iconst 2, 1) := by decide +kernel
theorem dX5_step_30 : decode cX5_step 30 = .ok (.invokevirtual 94, 3) := by decide +kernel
theorem dX5_step_33 : decode cX5_step 33 = .ok (.ifCond .eq 5, 3) := by decide +kernel
theorem dX5_step_36 : decode cX5_step 36 = .ok (.iconst 0, 1) := by decide +kernel
theorem dX5_step_37 : decode cX5_step 37 = .ok (.ireturn, 1) := by decide +kernel
theorem dX5_step_38 : decode cX5_step 38 = .ok (.aload_n 0, 1) := by decide +kernel
theorem dX5_step_39 : decode cX5_step 39 = .ok (.aload_n 0, 1) := by decide +kernel
theorem dX5_step_40 : decode cX5_step 40 = .ok (.getfield 48, 3) := by decide +kernel
theorem dX5_step_43 : decode cX5_step 43 = .ok (.aload_n 0, 1) := by decide +kernel
theorem dX5_step_44 : decode cX5_step 44 = .ok (.getfield 115, 3) := by decide +kernel
theorem dX5_step_47 : decode cX5_step 47 = .ok (.iaload, 1) := by decide +kernel
theorem dX5_step_48 : decode cX5_step 48 = .ok (.putfield 51, 3) := by decide +kernel
theorem dX5_step_51 : decode cX5_step 51 = .ok (.aload_n 0, 1) := by decide +kernel
theorem dX5_step_52 : decode cX5_step 52 = .ok (.dup, 1) := by decide +kernel
theorem dX5_step_53 : decode cX5_step 53 = .ok (.getfield 115, 3) := by decide +kernel
theorem dX5_step_56 : decode cX5_step 56 = .ok (.iconst 1, 1) := by decide +kernel
theorem dX5_step_57 : decode cX5_step 57 = .ok (.iadd, 1) := by decide +kernel
theorem dX5_step_58 : decode cX5_step 58 = .ok (.putfield 115, 3) := by decide +kernel
theorem dX5_step_61 : decode cX5_step 61 = .ok (.aload_n 0, 1) := by decide +kernel
theorem dX5_step_62 : decode cX5_step 62 = .ok (.getfield 51, 3) := by decide +kernel
theorem dX5_step_65 : decode cX5_step 65 = .ok (.ireturn, 1) := by decide +kernel
set_option maxRecDepth 20000 in
theorem ggX5_cut_X5_no : GoodIn wsX5_cut wsX5_no := goodIn_r _ [8, 9, 41, 42, 43, 44, 45, 46, 47, 48, 49, 50, 51, 52, 53, 54, 55, 56, 57, 58, 59] (by decide +kernel) (by decide +kernel)
set_option maxRecDepth 20000 in
theorem gX5_cut_X5_no : GoodIn wsX5_cut (wsV RX5 94 RX5 yX5_no wsX5_no) := goodIn_app (goodIn_of _ (by decide +kernel)) ggX5_cut_X5_no
set_option maxRecDepth 20000 in
theorem ggX5_cut_X5_keeps : GoodIn wsX5_cut wsX5_keeps := goodIn_r _ [13, 14, 15, 16, 17, 18, 19, 20, 21, 3, 22, 23, 24, 25, 26, 27, 28, 7, 29, 30, 31, 32, 41, 42, 43, 44, 45, 46, 47, 48, 49, 50, 51, 52, 53, 54, 55, 56, 57, 58, 59] (by decide +kernel) (by decide +kernel)
set_option maxRecDepth 20000 in
theorem gX5_cut_X5_keeps : GoodIn wsX5_cut (wsV RX5 71 RX5 yX5_keeps wsX5_keeps) := goodIn_app (goodIn_of _ (by decide +kernel)) ggX5_cut_X5_keeps
set_option maxRecDepth 20000 in
theorem ggX5_cut_X5_out : GoodIn wsX5_cut wsX5_out := goodIn_r _ [36, 15, 3, 17, 19, 37, 38, 39, 7, 40, 41, 42, 43, 44, 45, 46, 47, 48, 49, 50, 51, 52, 53, 54, 55, 56, 57, 58, 59] (by decide +kernel) (by decide +kernel)
set_option maxRecDepth 20000 in
theorem gX5_cut_X5_out : GoodIn wsX5_cut (wsV RX5 86 RX5 yX5_out wsX5_out) := goodIn_app (goodIn_of _ (by decide +kernel)) ggX5_cut_X5_out
theorem dX5_cut_0 : decode cX5_cut 0 = .ok (.aload_n 0, 1) := by decide +kernel
theorem dX5_cut_1 : decode cX5_cut 1 = .ok (.aload_n 0, 1) := by decide +kernel
theorem dX5_cut_2 : decode cX5_cut 2 = .ok (.getfield 74, 3) := by decide +kernel
theorem dX5_cut_5 : decode cX5_cut 5 = .ok (.ifCond .eq 14, 3) := by decide +kernel
theorem dX5_cut_8 : decode cX5_cut 8 = .ok (.aload_n 0, 1) := by decide +kernel
theorem dX5_cut_9 : decode cX5_cut 9 = .ok (.getfield 51, 3) := by decide +kernel
theorem dX5_cut_12 : decode cX5_cut 12 = .ok (.ifCond .lt 7, 3) := by decide +kernel
theorem dX5_cut_15 : decode cX5_cut 15 = .ok (.iconst 1, 1) := by decide +kernel
theorem dX5_cut_16 : decode cX5_cut 16 = .ok (.goto 4, 3) := by decide +kernel
theorem dX5_cut_19 : decode cX5_cut 19 = .ok (.iconst 0, 1) := by decide +kernel
theorem dX5_cut_20 : decode cX5_cut 20 = .ok (.iconst 1, 1) := by decide +kernel
theorem dX5_cut_21 : decode cX5_cut 21 = .ok (.invokevirtual 94, 3) := by decide +kernel
theorem dX5_cut_24 : decode cX5_cut 24 = .ok (.ifCond .eq 5, 3) := by decide +kernel
theorem dX5_cut_27 : decode cX5_cut 27 = .ok (.iconst 0, 1) := by decide +kernel
theorem dX5_cut_28 : decode cX5_cut 28 = .ok (.ireturn, 1) := by decide +kernel
theorem dX5_cut_29 : decode cX5_cut 29 = .ok (.aload_n 0, 1) := by decide +kernel
theorem dX5_cut_30 : decode cX5_cut 30 = .ok (.invokevirtual 71, 3) := by decide +kernel
theorem dX5_cut_33 : decode cX5_cut 33 = .ok (.aload_n 0, 1) := by decide +kernel
theorem dX5_cut_34 : decode cX5_cut 34 = .ok (.aload_n 0, 1) := by decide +kernel
theorem dX5_cut_35 : decode cX5_cut 35 = .ok (.getfield 51, 3) := by decide +kernel
theorem dX5_cut_38 : decode cX5_cut 38 = .ok (.invokevirtual 86, 3) := by decide +kernel
theorem dX5_cut_41 : decode cX5_cut 41 = .ok (.aload_n 0, 1) := by decide +kernel
theorem dX5_cut_42 : decode cX5_cut 42 = .ok (.iconst (-1), 1) := by decide +kernel
theorem dX5_cut_43 : decode cX5_cut 43 = .ok (.putfield 51, 3) := by decide +kernel
theorem dX5_cut_46 : decode cX5_cut 46 = .ok (.aload_n 0, 1) := by decide +kernel
theorem dX5_cut_47 : decode cX5_cut 47 = .ok (.getfield 57, 3) := by decide +kernel
theorem dX5_cut_50 : decode cX5_cut 50 = .ok (.ireturn, 1) := by decide +kernel
set_option maxRecDepth 20000 in
theorem ggX5_staying_X5_place : GoodIn wsX5_staying wsX5_place := goodIn_r _ [8, 1, 9, 10, 11, 12, 13, 14, 15, 16, 17, 18, 19, 20, 21, 22, 23, 24, 25, 26, 27] (by decide +kernel) (by decide +kernel)
set_option maxRecDepth 20000 in
theorem gX5_staying_X5_place : GoodIn wsX5_staying (wsV RX5 78 RX5 yX5_place wsX5_place) := goodIn_app (goodIn_of _ (by decide +kernel)) ggX5_staying_X5_place
theorem dX5_staying_0 : decode cX5_staying 0 = .ok (.iconst 0, 1) := by decide +kernel
theorem dX5_staying_1 : decode cX5_staying 1 = .ok (.istore_n 1, 1) := by decide +kernel
theorem dX5_staying_2 : decode cX5_staying 2 = .ok (.iconst (-1), 1) := by decide +kernel
theorem dX5_staying_3 : decode cX5_staying 3 = .ok (.istore_n 2, 1) := by decide +kernel
theorem dX5_staying_4 : decode cX5_staying 4 = .ok (.iload_n 1, 1) := by decide +kernel
theorem dX5_staying_5 : decode cX5_staying 5 = .ok (.aload_n 0, 1) := by decide +kernel
theorem dX5_staying_6 : decode cX5_staying 6 = .ok (.getfield 57, 3) := by decide +kernel
theorem dX5_staying_9 : decode cX5_staying 9 = .ok (.if_icmp .ge 42, 3) := by decide +kernel
theorem dX5_staying_12 : decode cX5_staying 12 = .ok (.aload_n 0, 1) := by decide +kernel
theorem dX5_staying_13 : decode cX5_staying 13 = .ok (.aload_n 0, 1) := by decide +kernel
theorem dX5_staying_14 : decode cX5_staying 14 = .ok (.getfield 9, 3) := by decide +kernel
theorem dX5_staying_17 : decode cX5_staying 17 = .ok (.aload_n 0, 1) := by decide +kernel
theorem dX5_staying_18 : decode cX5_staying 18 = .ok (.getfield 16, 3) := by decide +kernel
theorem dX5_staying_21 : decode cX5_staying 21 = .ok (.iload_n 1, 1) := by decide +kernel
theorem dX5_staying_22 : decode cX5_staying 22 = .ok (.iaload, 1) := by decide +kernel
theorem dX5_staying_23 : decode cX5_staying 23 = .ok (.invokevirtual 78, 3) := by decide +kernel
theorem dX5_staying_26 : decode cX5_staying 26 = .ok (.iload_n 2, 1) := by decide +kernel
theorem dX5_staying_27 : decode cX5_staying 27 = .ok (.if_icmp .le 24, 3) := by decide +kernel
theorem dX5_staying_30 : decode cX5_staying 30 = .ok (.aload_n 0, 1) := by decide +kernel
theorem dX5_staying_31 : decode cX5_staying 31 = .ok (.aload_n 0, 1) := by decide +kernel
theorem dX5_staying_32 : decode cX5_staying 32 = .ok (.getfield 9, 3) := by decide +kernel
theorem dX5_staying_35 : decode cX5_staying 35 = .ok (.aload_n 0, 1) := by decide +kernel
theorem dX5_staying_36 : decode cX5_staying 36 = .ok (.getfield 16, 3) := by decide +kernel
theorem dX5_staying_39 : decode cX5_staying 39 = .ok (.iload_n 1, 1) := by decide +kernel
theorem dX5_staying_40 : decode cX5_staying 40 = .ok (.iaload, 1) := by decide +kernel
theorem dX5_staying_41 : decode cX5_staying 41 = .ok (.invokevirtual 78, 3) := by decide +kernel
theorem dX5_staying_44 : decode cX5_staying 44 = .ok (.istore_n 2, 1) := by decide +kernel
theorem dX5_staying_45 : decode cX5_staying 45 = .ok (.iinc 1 1, 3) := by decide +kernel
theorem dX5_staying_48 : decode cX5_staying 48 = .ok (.goto (-44), 3) := by decide +kernel
theorem dX5_staying_51 : decode cX5_staying 51 = .ok (.iload_n 1, 1) := by decide +kernel
theorem dX5_staying_52 : decode cX5_staying 52 = .ok (.ireturn, 1) := by decide +kernel
set_option maxRecDepth 20000 in
theorem ggX5_moves_X5_staying : GoodIn wsX5_moves wsX5_staying := goodIn_r _ [7, 2, 8, 9, 10, 11, 12, 6, 13, 14, 15, 16, 17, 18, 19, 20, 21, 22, 23, 24, 25, 26, 27, 28, 29, 30, 31, 32] (by decide +kernel) (by decide +kernel)
set_option maxRecDepth 20000 in
theorem gX5_moves_X5_staying : GoodIn wsX5_moves (wsV RX5 118 RX5 yX5_staying wsX5_staying) := goodIn_app (goodIn_of _ (by decide +kernel)) ggX5_moves_X5_staying
theorem dX5_moves_0 : decode cX5_moves 0 = .ok (.aload_n 0, 1) := by decide +kernel
theorem dX5_moves_1 : decode cX5_moves 1 = .ok (.iconst 0, 1) := by decide +kernel
theorem dX5_moves_2 : decode cX5_moves 2 = .ok (.putfield 54, 3) := by decide +kernel
theorem dX5_moves_5 : decode cX5_moves 5 = .ok (.aload_n 0, 1) := by decide +kernel
theorem dX5_moves_6 : decode cX5_moves 6 = .ok (.getfield 57, 3) := by decide +kernel
theorem dX5_moves_9 : decode cX5_moves 9 = .ok (.aload_n 0, 1) := by decide +kernel
theorem dX5_moves_10 : decode cX5_moves 10 = .ok (.invokevirtual 118, 3) := by decide +kernel
theorem dX5_moves_13 : decode cX5_moves 13 = .ok (.isub, 1) := by decide +kernel
theorem dX5_moves_14 : decode cX5_moves 14 = .ok (.ireturn, 1) := by decide +kernel
set_option maxRecDepth 20000 in
theorem ggX5_move_X5_staying : GoodIn wsX5_move wsX5_staying := goodIn_r _ [7, 1, 8, 2, 9, 10, 11, 6, 12, 21, 22, 23, 24, 25, 26, 27, 28, 29, 30, 31, 32, 33, 34, 35, 36, 37, 38, 39] (by decide +kernel) (by decide +kernel)
set_option maxRecDepth 20000 in
theorem gX5_move_X5_staying : GoodIn wsX5_move (wsV RX5 118 RX5 yX5_staying wsX5_staying) := goodIn_app (goodIn_of _ (by decide +kernel)) ggX5_move_X5_staying
set_option maxRecDepth 20000 in
theorem ggX5_move_X5_in : GoodIn wsX5_move wsX5_in := goodIn_r _ [15] (by decide +kernel) (by decide +kernel)
set_option maxRecDepth 20000 in
theorem gX5_move_X5_in : GoodIn wsX5_move (va_wsS RX5 90 yX5_in wsX5_in) := goodIn_app (goodIn_of _ (by decide +kernel)) ggX5_move_X5_in
set_option maxRecDepth 20000 in
theorem ggX5_move_X5_no : GoodIn wsX5_move wsX5_no := goodIn_r _ [19, 20, 21, 22, 23, 24, 25, 26, 27, 28, 29, 30, 31, 32, 33, 34, 35, 36, 37, 38, 39] (by decide +kernel) (by decide +kernel)
set_option maxRecDepth 20000 in
theorem gX5_move_X5_no : GoodIn wsX5_move (wsV RX5 94 RX5 yX5_no wsX5_no) := goodIn_app (goodIn_of _ (by decide +kernel)) ggX5_move_X5_no
theorem dX5_move_0 : decode cX5_move 0 = .ok (.aload_n 0, 1) := by decide +kernel
theorem dX5_move_1 : decode cX5_move 1 = .ok (.invokevirtual 118, 3) := by decide +kernel
theorem dX5_move_4 : decode cX5_move 4 = .ok (.istore_n 2, 1) := by decide +kernel
theorem dX5_move_5 : decode cX5_move 5 = .ok (.aload_n 0, 1) := by decide +kernel
theorem dX5_move_6 : decode cX5_move 6 = .ok (.iload_n 1, 1) := by decide +kernel
theorem dX5_move_7 : decode cX5_move 7 = .ok (.iconst 0, 1) := by decide +kernel
theorem dX5_move_8 : decode cX5_move 8 = .ok (.aload_n 0, 1) := by decide +kernel
theorem dX5_move_9 : decode cX5_move 9 = .ok (.getfield 57, 3) := by decide +kernel
theorem dX5_move_12 : decode cX5_move 12 = .ok (.iload_n 2, 1) := by decide +kernel
theorem dX5_move_13 : decode cX5_move 13 = .ok (.isub, 1) := by decide +kernel
theorem dX5_move_14 : decode cX5_move 14 = .ok (.iconst 1, 1) := by decide +kernel
theorem dX5_move_15 : decode cX5_move 15 = .ok (.isub, 1) := by decide +kernel
theorem dX5_move_16 : decode cX5_move 16 = .ok (.invokestatic 90, 3) := by decide +kernel
theorem dX5_move_19 : decode cX5_move 19 = .ok (.iconst 1, 1) := by decide +kernel
theorem dX5_move_20 : decode cX5_move 20 = .ok (.invokevirtual 94, 3) := by decide +kernel
theorem dX5_move_23 : decode cX5_move 23 = .ok (.ifCond .eq 7, 3) := by decide +kernel
theorem dX5_move_26 : decode cX5_move 26 = .ok (.iconst 0, 1) := by decide +kernel
theorem dX5_move_27 : decode cX5_move 27 = .ok (.goto 11, 3) := by decide +kernel
theorem dX5_move_30 : decode cX5_move 30 = .ok (.aload_n 0, 1) := by decide +kernel
theorem dX5_move_31 : decode cX5_move 31 = .ok (.getfield 16, 3) := by decide +kernel
theorem dX5_move_34 : decode cX5_move 34 = .ok (.iload_n 2, 1) := by decide +kernel
theorem dX5_move_35 : decode cX5_move 35 = .ok (.iload_n 1, 1) := by decide +kernel
theorem dX5_move_36 : decode cX5_move 36 = .ok (.iadd, 1) := by decide +kernel
theorem dX5_move_37 : decode cX5_move 37 = .ok (.iaload, 1) := by decide +kernel
theorem dX5_move_38 : decode cX5_move 38 = .ok (.ireturn, 1) := by decide +kernel
set_option maxRecDepth 20000 in
theorem ggX5_crossings_X5_place : GoodIn wsX5_crossings wsX5_place := goodIn_r _ [9, 2, 10, 11, 12, 13, 14, 15, 16, 17, 18, 19, 20, 21, 22, 23, 24, 25, 26, 27, 28] (by decide +kernel) (by decide +kernel)
set_option maxRecDepth 20000 in
theorem gX5_crossings_X5_place : GoodIn wsX5_crossings (wsV RX5 78 RX5 yX5_place wsX5_place) := goodIn_app (goodIn_of _ (by decide +kernel)) ggX5_crossings_X5_place
theorem dX5_crossings_0 : decode cX5_crossings 0 = .ok (.aload_n 0, 1) := by decide +kernel
theorem dX5_crossings_1 : decode cX5_crossings 1 = .ok (.iconst 0, 1) := by decide +kernel
theorem dX5_crossings_2 : decode cX5_crossings 2 = .ok (.putfield 54, 3) := by decide +kernel
theorem dX5_crossings_5 : decode cX5_crossings 5 = .ok (.iconst 0, 1) := by decide +kernel
theorem dX5_crossings_6 : decode cX5_crossings 6 = .ok (.istore_n 1, 1) := by decide +kernel
theorem dX5_crossings_7 : decode cX5_crossings 7 = .ok (.iconst 0, 1) := by decide +kernel
theorem dX5_crossings_8 : decode cX5_crossings 8 = .ok (.istore_n 2, 1) := by decide +kernel
theorem dX5_crossings_9 : decode cX5_crossings 9 = .ok (.iload_n 2, 1) := by decide +kernel
theorem dX5_crossings_10 : decode cX5_crossings 10 = .ok (.aload_n 0, 1) := by decide +kernel
theorem dX5_crossings_11 : decode cX5_crossings 11 = .ok (.getfield 57, 3) := by decide +kernel
theorem dX5_crossings_14 : decode cX5_crossings 14 = .ok (.if_icmp .ge 61, 3) := by decide +kernel
theorem dX5_crossings_17 : decode cX5_crossings 17 = .ok (.iconst 0, 1) := by decide +kernel
theorem dX5_crossings_18 : decode cX5_crossings 18 = .ok (.istore_n 3, 1) := by decide +kernel
theorem dX5_crossings_19 : decode cX5_crossings 19 = .ok (.iload_n 3, 1) := by decide +kernel
theorem dX5_crossings_20 : decode cX5_crossings 20 = .ok (.iload_n 2, 1) := by decide +kernel
theorem dX5_crossings_21 : decode cX5_crossings 21 = .ok (.if_icmp .ge 48, 3) := by decide +kernel
theorem dX5_crossings_24 : decode cX5_crossings 24 = .ok (.iload_n 1, 1) := by decide +kernel
theorem dX5_crossings_25 : decode cX5_crossings 25 = .ok (.aload_n 0, 1) := by decide +kernel
theorem dX5_crossings_26 : decode cX5_crossings 26 = .ok (.aload_n 0, 1) := by decide +kernel
theorem dX5_crossings_27 : decode cX5_crossings 27 = .ok (.getfield 16, 3) := by decide +kernel
theorem dX5_crossings_30 : decode cX5_crossings 30 = .ok (.aload_n 0, 1) := by decide +kernel
theorem dX5_crossings_31 : decode cX5_crossings 31 = .ok (.getfield 9, 3) := by decide +kernel
theorem dX5_crossings_34 : decode cX5_crossings 34 = .ok (.iload_n 3, 1) := by decide +kernel
theorem dX5_crossings_35 : decode cX5_crossings 35 = .ok (.iaload, 1) := by decide +kernel
theorem dX5_crossings_36 : decode cX5_crossings 36 = .ok (.invokevirtual 78, 3) := by decide +kernel
theorem dX5_crossings_39 : decode cX5_crossings 39 = .ok (.aload_n 0, 1) := by decide +kernel
theorem dX5_crossings_40 : decode cX5_crossings 40 = .ok (.aload_n 0, 1) := by decide +kernel
theorem dX5_crossings_41 : decode cX5_crossings 41 = .ok (.getfield 16, 3) := by decide +kernel
theorem dX5_crossings_44 : decode cX5_crossings 44 = .ok (.aload_n 0, 1) := by decide +kernel
theorem dX5_crossings_45 : decode cX5_crossings 45 = .ok (.getfield 9, 3) := by decide +kernel
theorem dX5_crossings_48 : decode cX5_crossings 48 = .ok (.iload_n 2, 1) := by decide +kernel
theorem dX5_crossings_49 : decode cX5_crossings 49 = .ok (.iaload, 1) := by decide +kernel
theorem dX5_crossings_50 : decode cX5_crossings 50 = .ok (.invokevirtual 78, 3) := by decide +kernel
theorem dX5_crossings_53 : decode cX5_crossings 53 = .ok (.if_icmp .le 7, 3) := by decide +kernel
theorem dX5_crossings_56 : decode cX5_crossings 56 = .ok (.iconst 1, 1) := by decide +kernel
theorem dX5_crossings_57 : decode cX5_crossings 57 = .ok (.goto 4, 3) := by decide +kernel
theorem dX5_crossings_60 : decode cX5_crossings 60 = .ok (.iconst 0, 1) := by decide +kernel
theorem dX5_crossings_61 : decode cX5_crossings 61 = .ok (.iadd, 1) := by decide +kernel
theorem dX5_crossings_62 : decode cX5_crossings 62 = .ok (.istore_n 1, 1) := by decide +kernel
theorem dX5_crossings_63 : decode cX5_crossings 63 = .ok (.iinc 3 1, 3) := by decide +kernel
theorem dX5_crossings_66 : decode cX5_crossings 66 = .ok (.goto (-47), 3) := by decide +kernel
theorem dX5_crossings_69 : decode cX5_crossings 69 = .ok (.iinc 2 1, 3) := by decide +kernel
theorem dX5_crossings_72 : decode cX5_crossings 72 = .ok (.goto (-63), 3) := by decide +kernel
theorem dX5_crossings_75 : decode cX5_crossings 75 = .ok (.iload_n 1, 1) := by decide +kernel
theorem dX5_crossings_76 : decode cX5_crossings 76 = .ok (.ireturn, 1) := by decide +kernel
set_option maxRecDepth 20000 in
theorem ggX5_undo_X5_no : GoodIn wsX5_undo wsX5_no := goodIn_r _ [19, 20, 24, 25, 26, 27, 28, 29, 30, 31, 32, 33, 34, 35, 36, 37, 38, 39, 40, 41, 42] (by decide +kernel) (by decide +kernel)
set_option maxRecDepth 20000 in
theorem gX5_undo_X5_no : GoodIn wsX5_undo (wsV RX5 94 RX5 yX5_no wsX5_no) := goodIn_app (goodIn_of _ (by decide +kernel)) ggX5_undo_X5_no
set_option maxRecDepth 20000 in
theorem ggX5_undo_X5_copied : GoodIn wsX5_undo wsX5_copied := goodIn_r _ [23] (by decide +kernel) (by decide +kernel)
set_option maxRecDepth 20000 in
theorem gX5_undo_X5_copied : GoodIn wsX5_undo (va_wsS RX5 60 yX5_copied wsX5_copied) := goodIn_app (goodIn_of _ (by decide +kernel)) ggX5_undo_X5_copied
theorem dX5_undo_0 : decode cX5_undo 0 = .ok (.aload_n 0, 1) := by decide +kernel
theorem dX5_undo_1 : decode cX5_undo 1 = .ok (.aload_n 0, 1) := by decide +kernel
theorem dX5_undo_2 : decode cX5_undo 2 = .ok (.getfield 64, 3) := by decide +kernel
theorem dX5_undo_5 : decode cX5_undo 5 = .ok (.ifCond .le 7, 3) := by decide +kernel
theorem dX5_undo_8 : decode cX5_undo 8 = .ok (.iconst 1, 1) := by decide +kernel
theorem dX5_undo_9 : decode cX5_undo 9 = .ok (.goto 4, 3) := by decide +kernel
theorem dX5_undo_12 : decode cX5_undo 12 = .ok (.iconst 0, 1) := by decide +kernel
theorem dX5_undo_13 : decode cX5_undo 13 = .ok (.iconst 1, 1) := by decide +kernel
theorem dX5_undo_14 : decode cX5_undo 14 = .ok (.invokevirtual 94, 3) := by decide +kernel
theorem dX5_undo_17 : decode cX5_undo 17 = .ok (.ifCond .eq 5, 3) := by decide +kernel
theorem dX5_undo_20 : decode cX5_undo 20 = .ok (.iconst 0, 1) := by decide +kernel
theorem dX5_undo_21 : decode cX5_undo 21 = .ok (.ireturn, 1) := by decide +kernel
theorem dX5_undo_22 : decode cX5_undo 22 = .ok (.aload_n 0, 1) := by decide +kernel
theorem dX5_undo_23 : decode cX5_undo 23 = .ok (.dup, 1) := by decide +kernel
theorem dX5_undo_24 : decode cX5_undo 24 = .ok (.getfield 64, 3) := by decide +kernel
theorem dX5_undo_27 : decode cX5_undo 27 = .ok (.iconst 1, 1) := by decide +kernel
theorem dX5_undo_28 : decode cX5_undo 28 = .ok (.isub, 1) := by decide +kernel
theorem dX5_undo_29 : decode cX5_undo 29 = .ok (.putfield 64, 3) := by decide +kernel
theorem dX5_undo_32 : decode cX5_undo 32 = .ok (.aload_n 0, 1) := by decide +kernel
theorem dX5_undo_33 : decode cX5_undo 33 = .ok (.getfield 29, 3) := by decide +kernel
theorem dX5_undo_36 : decode cX5_undo 36 = .ok (.aload_n 0, 1) := by decide +kernel
theorem dX5_undo_37 : decode cX5_undo 37 = .ok (.getfield 64, 3) := by decide +kernel
theorem dX5_undo_40 : decode cX5_undo 40 = .ok (.aaload, 1) := by decide +kernel
theorem dX5_undo_41 : decode cX5_undo 41 = .ok (.aload_n 0, 1) := by decide +kernel
theorem dX5_undo_42 : decode cX5_undo 42 = .ok (.getfield 9, 3) := by decide +kernel
theorem dX5_undo_45 : decode cX5_undo 45 = .ok (.invokestatic 60, 3) := by decide +kernel
theorem dX5_undo_48 : decode cX5_undo 48 = .ok (.aload_n 0, 1) := by decide +kernel
theorem dX5_undo_49 : decode cX5_undo 49 = .ok (.getfield 32, 3) := by decide +kernel
theorem dX5_undo_52 : decode cX5_undo 52 = .ok (.aload_n 0, 1) := by decide +kernel
theorem dX5_undo_53 : decode cX5_undo 53 = .ok (.getfield 64, 3) := by decide +kernel
theorem dX5_undo_56 : decode cX5_undo 56 = .ok (.aaload, 1) := by decide +kernel
theorem dX5_undo_57 : decode cX5_undo 57 = .ok (.aload_n 0, 1) := by decide +kernel
theorem dX5_undo_58 : decode cX5_undo 58 = .ok (.getfield 13, 3) := by decide +kernel
theorem dX5_undo_61 : decode cX5_undo 61 = .ok (.invokestatic 60, 3) := by decide +kernel
theorem dX5_undo_64 : decode cX5_undo 64 = .ok (.aload_n 0, 1) := by decide +kernel
theorem dX5_undo_65 : decode cX5_undo 65 = .ok (.getfield 35, 3) := by decide +kernel
theorem dX5_undo_68 : decode cX5_undo 68 = .ok (.aload_n 0, 1) := by decide +kernel
theorem dX5_undo_69 : decode cX5_undo 69 = .ok (.getfield 64, 3) := by decide +kernel
theorem dX5_undo_72 : decode cX5_undo 72 = .ok (.aaload, 1) := by decide +kernel
theorem dX5_undo_73 : decode cX5_undo 73 = .ok (.aload_n 0, 1) := by decide +kernel
theorem dX5_undo_74 : decode cX5_undo 74 = .ok (.getfield 16, 3) := by decide +kernel
theorem dX5_undo_77 : decode cX5_undo 77 = .ok (.invokestatic 60, 3) := by decide +kernel
theorem dX5_undo_80 : decode cX5_undo 80 = .ok (.aload_n 0, 1) := by decide +kernel
theorem dX5_undo_81 : decode cX5_undo 81 = .ok (.aload_n 0, 1) := by decide +kernel
theorem dX5_undo_82 : decode cX5_undo 82 = .ok (.getfield 38, 3) := by decide +kernel
theorem dX5_undo_85 : decode cX5_undo 85 = .ok (.aload_n 0, 1) := by decide +kernel
theorem dX5_undo_86 : decode cX5_undo 86 = .ok (.getfield 64, 3) := by decide +kernel
theorem dX5_undo_89 : decode cX5_undo 89 = .ok (.iaload, 1) := by decide +kernel
theorem dX5_undo_90 : decode cX5_undo 90 = .ok (.putfield 57, 3) := by decide +kernel
theorem dX5_undo_93 : decode cX5_undo 93 = .ok (.aload_n 0, 1) := by decide +kernel
theorem dX5_undo_94 : decode cX5_undo 94 = .ok (.aload_n 0, 1) := by decide +kernel
theorem dX5_undo_95 : decode cX5_undo 95 = .ok (.getfield 41, 3) := by decide +kernel
theorem dX5_undo_98 : decode cX5_undo 98 = .ok (.aload_n 0, 1) := by decide +kernel
theorem dX5_undo_99 : decode cX5_undo 99 = .ok (.getfield 64, 3) := by decide +kernel
theorem dX5_undo_102 : decode cX5_undo 102 = .ok (.iaload, 1) := by decide +kernel
theorem dX5_undo_103 : decode cX5_undo 103 = .ok (.putfield 19, 3) := by decide +kernel
theorem dX5_undo_106 : decode cX5_undo 106 = .ok (.aload_n 0, 1) := by decide +kernel
theorem dX5_undo_107 : decode cX5_undo 107 = .ok (.aload_n 0, 1) := by decide +kernel
theorem dX5_undo_108 : decode cX5_undo 108 = .ok (.getfield 44, 3) := by decide +kernel
theorem dX5_undo_111 : decode cX5_undo 111 = .ok (.aload_n 0, 1) := by decide +kernel
theorem dX5_undo_112 : decode cX5_undo 112 = .ok (.getfield 64, 3) := by decide +kernel
theorem dX5_undo_115 : decode cX5_undo 115 = .ok (.caload, 1) := by decide +kernel
theorem dX5_undo_116 : decode cX5_undo 116 = .ok (.putfield 23, 3) := by decide +kernel
theorem dX5_undo_119 : decode cX5_undo 119 = .ok (.aload_n 0, 1) := by decide +kernel
theorem dX5_undo_120 : decode cX5_undo 120 = .ok (.iconst 0, 1) := by decide +kernel
theorem dX5_undo_121 : decode cX5_undo 121 = .ok (.putfield 74, 3) := by decide +kernel
theorem dX5_undo_124 : decode cX5_undo 124 = .ok (.aload_n 0, 1) := by decide +kernel
theorem dX5_undo_125 : decode cX5_undo 125 = .ok (.getfield 64, 3) := by decide +kernel
theorem dX5_undo_128 : decode cX5_undo 128 = .ok (.ireturn, 1) := by decide +kernel
theorem dX5_isTrue_0 : decode cX5_isTrue 0 = .ok (.aload_n 0, 1) := by decide +kernel
theorem dX5_isTrue_1 : decode cX5_isTrue 1 = .ok (.iconst 0, 1) := by decide +kernel
theorem dX5_isTrue_2 : decode cX5_isTrue 2 = .ok (.putfield 54, 3) := by decide +kernel
theorem dX5_isTrue_5 : decode cX5_isTrue 5 = .ok (.iconst 1, 1) := by decide +kernel
theorem dX5_isTrue_6 : decode cX5_isTrue 6 = .ok (.ireturn, 1) := by decide +kernel
theorem dX5_checksum_0 : decode cX5_checksum 0 = .ok (.aload_n 0, 1) := by decide +kernel
theorem dX5_checksum_1 : decode cX5_checksum 1 = .ok (.iconst 0, 1) := by decide +kernel
theorem dX5_checksum_2 : decode cX5_checksum 2 = .ok (.putfield 54, 3) := by decide +kernel
theorem dX5_checksum_5 : decode cX5_checksum 5 = .ok (.ldc2_w 122, 3) := by decide +kernel
theorem dX5_checksum_8 : decode cX5_checksum 8 = .ok (.lstore_n 1, 1) := by decide +kernel
theorem dX5_checksum_9 : decode cX5_checksum 9 = .ok (.iconst 0, 1) := by decide +kernel
theorem dX5_checksum_10 : decode cX5_checksum 10 = .ok (.istore_n 3, 1) := by decide +kernel
theorem dX5_checksum_11 : decode cX5_checksum 11 = .ok (.iload_n 3, 1) := by decide +kernel
theorem dX5_checksum_12 : decode cX5_checksum 12 = .ok (.aload_n 0, 1) := by decide +kernel
theorem dX5_checksum_13 : decode cX5_checksum 13 = .ok (.getfield 57, 3) := by decide +kernel
theorem dX5_checksum_16 : decode cX5_checksum 16 = .ok (.if_icmp .ge 35, 3) := by decide +kernel
theorem dX5_checksum_19 : decode cX5_checksum 19 = .ok (.ldc2_w 124, 3) := by decide +kernel
theorem dX5_checksum_22 : decode cX5_checksum 22 = .ok (.ldc2_w 124, 3) := by decide +kernel
theorem dX5_checksum_25 : decode cX5_checksum 25 = .ok (.lload_n 1, 1) := by decide +kernel
theorem dX5_checksum_26 : decode cX5_checksum 26 = .ok (.lmul, 1) := by decide +kernel
theorem dX5_checksum_27 : decode cX5_checksum 27 = .ok (.aload_n 0, 1) := by decide +kernel
theorem dX5_checksum_28 : decode cX5_checksum 28 = .ok (.getfield 9, 3) := by decide +kernel
theorem dX5_checksum_31 : decode cX5_checksum 31 = .ok (.iload_n 3, 1) := by decide +kernel
theorem dX5_checksum_32 : decode cX5_checksum 32 = .ok (.iaload, 1) := by decide +kernel
theorem dX5_checksum_33 : decode cX5_checksum 33 = .ok (.i2l, 1) := by decide +kernel
theorem dX5_checksum_34 : decode cX5_checksum 34 = .ok (.ladd, 1) := by decide +kernel
theorem dX5_checksum_35 : decode cX5_checksum 35 = .ok (.lmul, 1) := by decide +kernel
theorem dX5_checksum_36 : decode cX5_checksum 36 = .ok (.aload_n 0, 1) := by decide +kernel
theorem dX5_checksum_37 : decode cX5_checksum 37 = .ok (.getfield 13, 3) := by decide +kernel
theorem dX5_checksum_40 : decode cX5_checksum 40 = .ok (.iload_n 3, 1) := by decide +kernel
theorem dX5_checksum_41 : decode cX5_checksum 41 = .ok (.iaload, 1) := by decide +kernel
theorem dX5_checksum_42 : decode cX5_checksum 42 = .ok (.i2l, 1) := by decide +kernel
theorem dX5_checksum_43 : decode cX5_checksum 43 = .ok (.ladd, 1) := by decide +kernel
theorem dX5_checksum_44 : decode cX5_checksum 44 = .ok (.lstore_n 1, 1) := by decide +kernel
theorem dX5_checksum_45 : decode cX5_checksum 45 = .ok (.iinc 3 1, 3) := by decide +kernel
theorem dX5_checksum_48 : decode cX5_checksum 48 = .ok (.goto (-37), 3) := by decide +kernel
theorem dX5_checksum_51 : decode cX5_checksum 51 = .ok (.iconst 0, 1) := by decide +kernel
theorem dX5_checksum_52 : decode cX5_checksum 52 = .ok (.istore_n 3, 1) := by decide +kernel
theorem dX5_checksum_53 : decode cX5_checksum 53 = .ok (.iload_n 3, 1) := by decide +kernel
theorem dX5_checksum_54 : decode cX5_checksum 54 = .ok (.aload_n 0, 1) := by decide +kernel
theorem dX5_checksum_55 : decode cX5_checksum 55 = .ok (.getfield 57, 3) := by decide +kernel
theorem dX5_checksum_58 : decode cX5_checksum 58 = .ok (.if_icmp .ge 23, 3) := by decide +kernel
theorem dX5_checksum_61 : decode cX5_checksum 61 = .ok (.ldc2_w 124, 3) := by decide +kernel
theorem dX5_checksum_64 : decode cX5_checksum 64 = .ok (.lload_n 1, 1) := by decide +kernel
theorem dX5_checksum_65 : decode cX5_checksum 65 = .ok (.lmul, 1) := by decide +kernel
theorem dX5_checksum_66 : decode cX5_checksum 66 = .ok (.aload_n 0, 1) := by decide +kernel
theorem dX5_checksum_67 : decode cX5_checksum 67 = .ok (.getfield 16, 3) := by decide +kernel
theorem dX5_checksum_70 : decode cX5_checksum 70 = .ok (.iload_n 3, 1) := by decide +kernel
theorem dX5_checksum_71 : decode cX5_checksum 71 = .ok (.iaload, 1) := by decide +kernel
theorem dX5_checksum_72 : decode cX5_checksum 72 = .ok (.i2l, 1) := by decide +kernel
theorem dX5_checksum_73 : decode cX5_checksum 73 = .ok (.ladd, 1) := by decide +kernel
theorem dX5_checksum_74 : decode cX5_checksum 74 = .ok (.lstore_n 1, 1) := by decide +kernel
theorem dX5_checksum_75 : decode cX5_checksum 75 = .ok (.iinc 3 1, 3) := by decide +kernel
theorem dX5_checksum_78 : decode cX5_checksum 78 = .ok (.goto (-25), 3) := by decide +kernel
theorem dX5_checksum_81 : decode cX5_checksum 81 = .ok (.ldc2_w 124, 3) := by decide +kernel
theorem dX5_checksum_84 : decode cX5_checksum 84 = .ok (.lload_n 1, 1) := by decide +kernel
theorem dX5_checksum_85 : decode cX5_checksum 85 = .ok (.lmul, 1) := by decide +kernel
theorem dX5_checksum_86 : decode cX5_checksum 86 = .ok (.aload_n 0, 1) := by decide +kernel
theorem dX5_checksum_87 : decode cX5_checksum 87 = .ok (.getfield 19, 3) := by decide +kernel
theorem dX5_checksum_90 : decode cX5_checksum 90 = .ok (.i2l, 1) := by decide +kernel
theorem dX5_checksum_91 : decode cX5_checksum 91 = .ok (.ladd, 1) := by decide +kernel
theorem dX5_checksum_92 : decode cX5_checksum 92 = .ok (.lstore_n 1, 1) := by decide +kernel
theorem dX5_checksum_93 : decode cX5_checksum 93 = .ok (.ldc2_w 124, 3) := by decide +kernel
theorem dX5_checksum_96 : decode cX5_checksum 96 = .ok (.lload_n 1, 1) := by decide +kernel
theorem dX5_checksum_97 : decode cX5_checksum 97 = .ok (.lmul, 1) := by decide +kernel
theorem dX5_checksum_98 : decode cX5_checksum 98 = .ok (.aload_n 0, 1) := by decide +kernel
theorem dX5_checksum_99 : decode cX5_checksum 99 = .ok (.getfield 23, 3) := by decide +kernel
theorem dX5_checksum_102 : decode cX5_checksum 102 = .ok (.i2l, 1) := by decide +kernel
theorem dX5_checksum_103 : decode cX5_checksum 103 = .ok (.ladd, 1) := by decide +kernel
theorem dX5_checksum_104 : decode cX5_checksum 104 = .ok (.lstore_n 1, 1) := by decide +kernel
theorem dX5_checksum_105 : decode cX5_checksum 105 = .ok (.ldc2_w 124, 3) := by decide +kernel
theorem dX5_checksum_108 : decode cX5_checksum 108 = .ok (.lload_n 1, 1) := by decide +kernel
theorem dX5_checksum_109 : decode cX5_checksum 109 = .ok (.lmul, 1) := by decide +kernel
theorem dX5_checksum_110 : decode cX5_checksum 110 = .ok (.aload_n 0, 1) := by decide +kernel
theorem dX5_checksum_111 : decode cX5_checksum 111 = .ok (.getfield 64, 3) := by decide +kernel
theorem dX5_checksum_114 : decode cX5_checksum 114 = .ok (.i2l, 1) := by decide +kernel
theorem dX5_checksum_115 : decode cX5_checksum 115 = .ok (.ladd, 1) := by decide +kernel
theorem dX5_checksum_116 : decode cX5_checksum 116 = .ok (.lreturn, 1) := by decide +kernel
theorem dJ9_max_7cf53_0 : decode cJ9_max_7cf53 0 = .ok (.iload_n 0, 1) := by decide +kernel
theorem dJ9_max_7cf53_1 : decode cJ9_max_7cf53 1 = .ok (.iload_n 1, 1) := by decide +kernel
theorem dJ9_max_7cf53_2 : decode cJ9_max_7cf53 2 = .ok (.if_icmp .lt 7, 3) := by decide +kernel
theorem dJ9_max_7cf53_5 : decode cJ9_max_7cf53 5 = .ok (.iload_n 0, 1) := by decide +kernel
theorem dJ9_max_7cf53_6 : decode cJ9_max_7cf53 6 = .ok (.goto 4, 3) := by decide +kernel
theorem dJ9_max_7cf53_9 : decode cJ9_max_7cf53 9 = .ok (.iload_n 1, 1) := by decide +kernel
theorem dJ9_max_7cf53_10 : decode cJ9_max_7cf53 10 = .ok (.ireturn, 1) := by decide +kernel
theorem dJ9_min_7cf53_0 : decode cJ9_min_7cf53 0 = .ok (.iload_n 0, 1) := by decide +kernel
theorem dJ9_min_7cf53_1 : decode cJ9_min_7cf53 1 = .ok (.iload_n 1, 1) := by decide +kernel
theorem dJ9_min_7cf53_2 : decode cJ9_min_7cf53 2 = .ok (.if_icmp .gt 7, 3) := by decide +kernel
theorem dJ9_min_7cf53_5 : decode cJ9_min_7cf53 5 = .ok (.iload_n 0, 1) := by decide +kernel
theorem dJ9_min_7cf53_6 : decode cJ9_min_7cf53 6 = .ok (.goto 4, 3) := by decide +kernel
theorem dJ9_min_7cf53_9 : decode cJ9_min_7cf53 9 = .ok (.iload_n 1, 1) := by decide +kernel
theorem dJ9_min_7cf53_10 : decode cJ9_min_7cf53 10 = .ok (.ireturn, 1) := by decide +kernel

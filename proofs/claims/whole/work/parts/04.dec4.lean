set_option maxRecDepth 20000 in
theorem ggX4_init_X0_init : GoodIn wsX4_init wsX0_init := goodIn_r _ [22, 23, 2, 3, 24, 17, 18, 25, 26, 27, 28, 29, 30, 31, 32, 33, 34, 35, 36, 70, 71, 72, 55, 56, 57, 58] (by decide +kernel) (by decide +kernel)
set_option maxRecDepth 20000 in
theorem gX4_init_X0_init : GoodIn wsX4_init (wsX0_init) := ggX4_init_X0_init
set_option maxRecDepth 20000 in
theorem ggX4_init_X1_init : GoodIn wsX4_init wsX1_init := goodIn_r _ [39, 40, 2, 3, 41, 42, 5, 6, 43, 44, 45, 21, 22, 23, 24, 17, 18, 25, 26, 27, 28, 29, 30, 31, 32, 33, 34, 35, 36, 63, 64, 65, 55, 56, 57, 58, 70, 71, 72] (by decide +kernel) (by decide +kernel)
set_option maxRecDepth 20000 in
theorem gX4_init_X1_init : GoodIn wsX4_init (wsX1_init) := ggX4_init_X1_init
set_option maxRecDepth 20000 in
theorem ggX4_init_X3_init : GoodIn wsX4_init wsX3_init := goodIn_r _ [48, 49, 2, 3, 50, 51, 52, 53, 66, 67, 68, 69] (by decide +kernel) (by decide +kernel)
set_option maxRecDepth 20000 in
theorem gX4_init_X3_init : GoodIn wsX4_init (wsX3_init) := ggX4_init_X3_init
set_option maxRecDepth 20000 in
theorem ggX4_init_X2_init : GoodIn wsX4_init wsX2_init := goodIn_r _ [31, 32, 2, 3, 33, 34, 35, 36, 70, 71, 72] (by decide +kernel) (by decide +kernel)
set_option maxRecDepth 20000 in
theorem gX4_init_X2_init : GoodIn wsX4_init (wsX2_init) := ggX4_init_X2_init
theorem dX4_init_0 : decode cX4_init 0 = .ok (.aload_n 0, 1) := by decide +kernel
theorem dX4_init_1 : decode cX4_init 1 = .ok (.invokespecial 1, 3) := by decide +kernel
theorem dX4_init_4 : decode cX4_init 4 = .ok (.aload_n 0, 1) := by decide +kernel
theorem dX4_init_5 : decode cX4_init 5 = .ok (.new 7, 3) := by decide +kernel
theorem dX4_init_8 : decode cX4_init 8 = .ok (.dup, 1) := by decide +kernel
theorem dX4_init_9 : decode cX4_init 9 = .ok (.invokespecial 9, 3) := by decide +kernel
theorem dX4_init_12 : decode cX4_init 12 = .ok (.putfield 10, 3) := by decide +kernel
theorem dX4_init_15 : decode cX4_init 15 = .ok (.aload_n 0, 1) := by decide +kernel
theorem dX4_init_16 : decode cX4_init 16 = .ok (.new 16, 3) := by decide +kernel
theorem dX4_init_19 : decode cX4_init 19 = .ok (.dup, 1) := by decide +kernel
theorem dX4_init_20 : decode cX4_init 20 = .ok (.invokespecial 18, 3) := by decide +kernel
theorem dX4_init_23 : decode cX4_init 23 = .ok (.putfield 19, 3) := by decide +kernel
theorem dX4_init_26 : decode cX4_init 26 = .ok (.aload_n 0, 1) := by decide +kernel
theorem dX4_init_27 : decode cX4_init 27 = .ok (.new 23, 3) := by decide +kernel
theorem dX4_init_30 : decode cX4_init 30 = .ok (.dup, 1) := by decide +kernel
theorem dX4_init_31 : decode cX4_init 31 = .ok (.invokespecial 25, 3) := by decide +kernel
theorem dX4_init_34 : decode cX4_init 34 = .ok (.putfield 26, 3) := by decide +kernel
theorem dX4_init_37 : decode cX4_init 37 = .ok (.aload_n 0, 1) := by decide +kernel
theorem dX4_init_38 : decode cX4_init 38 = .ok (.new 30, 3) := by decide +kernel
theorem dX4_init_41 : decode cX4_init 41 = .ok (.dup, 1) := by decide +kernel
theorem dX4_init_42 : decode cX4_init 42 = .ok (.invokespecial 32, 3) := by decide +kernel
theorem dX4_init_45 : decode cX4_init 45 = .ok (.putfield 33, 3) := by decide +kernel
theorem dX4_init_48 : decode cX4_init 48 = .ok (.return_, 1) := by decide +kernel
set_option maxRecDepth 20000 in
theorem ggX4_put_X4_refuseKeyOutOfRange : GoodIn wsX4_put wsX4_refuseKeyOutOfRange := goodIn_ca (goodIn_r _ [6, 7, 8] (by decide +kernel) (by decide +kernel)) (goodIn_sub (fun _ h => List.mem_cons_of_mem _ (List.mem_append_right _ h)) (by decide +kernel))
set_option maxRecDepth 20000 in
theorem gX4_put_X4_refuseKeyOutOfRange : GoodIn wsX4_put (wsV RX4 37 RX4 yX4_refuseKeyOutOfRange wsX4_refuseKeyOutOfRange) := goodIn_app (goodIn_of _ (by decide +kernel)) ggX4_put_X4_refuseKeyOutOfRange
set_option maxRecDepth 20000 in
theorem ggX4_put_X4_beginChange : GoodIn wsX4_put wsX4_beginChange := goodIn_r _ [12, 13, 14, 1, 15, 16, 17, 18, 19, 20, 21, 22, 23, 24, 25, 26, 27, 28, 29, 30, 31, 32, 33, 34, 35, 36, 37, 38, 39, 40, 41, 42, 43, 44, 45, 46, 47, 48, 49, 50, 51, 52, 53, 54, 55, 56, 57, 58, 59, 60, 61, 62, 63, 64, 65, 117, 118, 119, 120, 121, 122, 123, 124, 125, 126, 127, 128, 129, 130, 131, 132, 133, 134] (by decide +kernel) (by decide +kernel)
set_option maxRecDepth 20000 in
theorem gX4_put_X4_beginChange : GoodIn wsX4_put (wsV RX4 41 RX4 yX4_beginChange wsX4_beginChange) := goodIn_app (goodIn_of _ (by decide +kernel)) ggX4_put_X4_beginChange
set_option maxRecDepth 20000 in
theorem ggX4_put_X0_holds : GoodIn wsX4_put wsX0_holds := goodIn_r _ [69, 38, 70, 71, 72, 45, 73, 47, 48, 49, 50, 51, 52, 53, 54, 55, 56, 128, 129, 130, 131, 132, 133, 134] (by decide +kernel) (by decide +kernel)
set_option maxRecDepth 20000 in
theorem gX4_put_X0_holds : GoodIn wsX4_put (wsV RX4 44 RX0 yX0_holds wsX0_holds) := goodIn_app (goodIn_of _ (by decide +kernel)) ggX4_put_X0_holds
set_option maxRecDepth 20000 in
theorem ggX4_put_X0_giveKey : GoodIn wsX4_put wsX0_giveKey := goodIn_r _ [77, 38, 39, 70, 71, 72, 45, 73, 47, 48, 49, 50, 51, 52, 53, 54, 55, 56, 78, 79, 80, 81, 61, 128, 129, 130, 131, 132, 133, 134] (by decide +kernel) (by decide +kernel)
set_option maxRecDepth 20000 in
theorem gX4_put_X0_giveKey : GoodIn wsX4_put (wsV RX4 48 RX0 yX0_giveKey wsX0_giveKey) := goodIn_app (goodIn_of _ (by decide +kernel)) ggX4_put_X0_giveKey
set_option maxRecDepth 20000 in
theorem ggX4_put_X0_touch : GoodIn wsX4_put wsX0_touch := goodIn_r _ [85, 39, 70, 71, 72, 45, 73, 47, 48, 49, 50, 51, 52, 53, 54, 55, 56, 86, 87, 88, 89, 61, 90, 91, 92, 93, 62, 63, 64, 65, 128, 129, 130, 131, 132, 133, 134] (by decide +kernel) (by decide +kernel)
set_option maxRecDepth 20000 in
theorem gX4_put_X0_touch : GoodIn wsX4_put (wsV RX4 52 RX0 yX0_touch wsX0_touch) := goodIn_app (goodIn_of _ (by decide +kernel)) ggX4_put_X0_touch
set_option maxRecDepth 20000 in
theorem ggX4_put_X0_letIn : GoodIn wsX4_put wsX0_letIn := goodIn_r _ [97, 38, 40, 39, 98, 99, 100, 45, 101, 47, 102, 103, 104, 36, 105, 41, 106, 107, 108, 109, 110, 49, 50, 51, 52, 53, 54, 55, 56, 111, 112, 113, 114, 70, 71, 72, 73, 48, 115, 91, 92, 93, 61, 116, 63, 64, 65, 128, 129, 130, 131, 132, 133, 134] (by decide +kernel) (by decide +kernel)
set_option maxRecDepth 20000 in
theorem gX4_put_X0_letIn : GoodIn wsX4_put (wsV RX4 55 RX0 yX0_letIn wsX0_letIn) := goodIn_app (goodIn_of _ (by decide +kernel)) ggX4_put_X0_letIn
theorem dX4_put_0 : decode cX4_put 0 = .ok (.aload_n 0, 1) := by decide +kernel
theorem dX4_put_1 : decode cX4_put 1 = .ok (.iload_n 1, 1) := by decide +kernel
theorem dX4_put_2 : decode cX4_put 2 = .ok (.invokevirtual 37, 3) := by decide +kernel
theorem dX4_put_5 : decode cX4_put 5 = .ok (.aload_n 0, 1) := by decide +kernel
theorem dX4_put_6 : decode cX4_put 6 = .ok (.invokevirtual 41, 3) := by decide +kernel
theorem dX4_put_9 : decode cX4_put 9 = .ok (.aload_n 0, 1) := by decide +kernel
theorem dX4_put_10 : decode cX4_put 10 = .ok (.getfield 10, 3) := by decide +kernel
theorem dX4_put_13 : decode cX4_put 13 = .ok (.iload_n 1, 1) := by decide +kernel
theorem dX4_put_14 : decode cX4_put 14 = .ok (.invokevirtual 44, 3) := by decide +kernel
theorem dX4_put_17 : decode cX4_put 17 = .ok (.ifCond .eq 22, 3) := by decide +kernel
theorem dX4_put_20 : decode cX4_put 20 = .ok (.aload_n 0, 1) := by decide +kernel
theorem dX4_put_21 : decode cX4_put 21 = .ok (.getfield 10, 3) := by decide +kernel
theorem dX4_put_24 : decode cX4_put 24 = .ok (.iload_n 1, 1) := by decide +kernel
theorem dX4_put_25 : decode cX4_put 25 = .ok (.iload_n 2, 1) := by decide +kernel
theorem dX4_put_26 : decode cX4_put 26 = .ok (.invokevirtual 48, 3) := by decide +kernel
theorem dX4_put_29 : decode cX4_put 29 = .ok (.aload_n 0, 1) := by decide +kernel
theorem dX4_put_30 : decode cX4_put 30 = .ok (.getfield 10, 3) := by decide +kernel
theorem dX4_put_33 : decode cX4_put 33 = .ok (.iload_n 1, 1) := by decide +kernel
theorem dX4_put_34 : decode cX4_put 34 = .ok (.invokevirtual 52, 3) := by decide +kernel
theorem dX4_put_37 : decode cX4_put 37 = .ok (.iconst (-1), 1) := by decide +kernel
theorem dX4_put_38 : decode cX4_put 38 = .ok (.ireturn, 1) := by decide +kernel
theorem dX4_put_39 : decode cX4_put 39 = .ok (.aload_n 0, 1) := by decide +kernel
theorem dX4_put_40 : decode cX4_put 40 = .ok (.getfield 10, 3) := by decide +kernel
theorem dX4_put_43 : decode cX4_put 43 = .ok (.iload_n 1, 1) := by decide +kernel
theorem dX4_put_44 : decode cX4_put 44 = .ok (.iload_n 2, 1) := by decide +kernel
theorem dX4_put_45 : decode cX4_put 45 = .ok (.invokevirtual 55, 3) := by decide +kernel
theorem dX4_put_48 : decode cX4_put 48 = .ok (.ireturn, 1) := by decide +kernel
set_option maxRecDepth 20000 in
theorem ggX4_putIfAbsent_X4_refuseKeyOutOfRange : GoodIn wsX4_putIfAbsent wsX4_refuseKeyOutOfRange := goodIn_ca (goodIn_r _ [6, 7, 8] (by decide +kernel) (by decide +kernel)) (goodIn_sub (fun _ h => List.mem_cons_of_mem _ (List.mem_append_right _ h)) (by decide +kernel))
set_option maxRecDepth 20000 in
theorem gX4_putIfAbsent_X4_refuseKeyOutOfRange : GoodIn wsX4_putIfAbsent (wsV RX4 37 RX4 yX4_refuseKeyOutOfRange wsX4_refuseKeyOutOfRange) := goodIn_app (goodIn_of _ (by decide +kernel)) ggX4_putIfAbsent_X4_refuseKeyOutOfRange
set_option maxRecDepth 20000 in
theorem ggX4_putIfAbsent_X4_beginChange : GoodIn wsX4_putIfAbsent wsX4_beginChange := goodIn_r _ [12, 13, 14, 1, 15, 16, 17, 18, 19, 20, 21, 22, 23, 24, 25, 26, 27, 28, 29, 30, 31, 32, 33, 34, 35, 36, 37, 38, 39, 40, 41, 42, 43, 44, 45, 46, 47, 48, 49, 50, 51, 52, 53, 54, 55, 56, 57, 58, 59, 60, 61, 62, 63, 64, 65, 109, 110, 111, 112, 113, 114, 115, 116, 117, 118, 119, 120, 121, 122, 123, 124, 125, 126] (by decide +kernel) (by decide +kernel)
set_option maxRecDepth 20000 in
theorem gX4_putIfAbsent_X4_beginChange : GoodIn wsX4_putIfAbsent (wsV RX4 41 RX4 yX4_beginChange wsX4_beginChange) := goodIn_app (goodIn_of _ (by decide +kernel)) ggX4_putIfAbsent_X4_beginChange
set_option maxRecDepth 20000 in
theorem ggX4_putIfAbsent_X0_holds : GoodIn wsX4_putIfAbsent wsX0_holds := goodIn_r _ [69, 38, 70, 71, 72, 45, 73, 47, 48, 49, 50, 51, 52, 53, 54, 55, 56, 120, 121, 122, 123, 124, 125, 126] (by decide +kernel) (by decide +kernel)
set_option maxRecDepth 20000 in
theorem gX4_putIfAbsent_X0_holds : GoodIn wsX4_putIfAbsent (wsV RX4 44 RX0 yX0_holds wsX0_holds) := goodIn_app (goodIn_of _ (by decide +kernel)) ggX4_putIfAbsent_X0_holds
set_option maxRecDepth 20000 in
theorem ggX4_putIfAbsent_X0_touch : GoodIn wsX4_putIfAbsent wsX0_touch := goodIn_r _ [77, 39, 70, 71, 72, 45, 73, 47, 48, 49, 50, 51, 52, 53, 54, 55, 56, 78, 79, 80, 81, 61, 82, 83, 84, 85, 62, 63, 64, 65, 120, 121, 122, 123, 124, 125, 126] (by decide +kernel) (by decide +kernel)
set_option maxRecDepth 20000 in
theorem gX4_putIfAbsent_X0_touch : GoodIn wsX4_putIfAbsent (wsV RX4 52 RX0 yX0_touch wsX0_touch) := goodIn_app (goodIn_of _ (by decide +kernel)) ggX4_putIfAbsent_X0_touch
set_option maxRecDepth 20000 in
theorem ggX4_putIfAbsent_X0_letIn : GoodIn wsX4_putIfAbsent wsX0_letIn := goodIn_r _ [89, 38, 40, 39, 90, 91, 92, 45, 93, 47, 94, 95, 96, 36, 97, 41, 98, 99, 100, 101, 102, 49, 50, 51, 52, 53, 54, 55, 56, 103, 104, 105, 106, 70, 71, 72, 73, 48, 107, 83, 84, 85, 61, 108, 63, 64, 65, 120, 121, 122, 123, 124, 125, 126] (by decide +kernel) (by decide +kernel)
set_option maxRecDepth 20000 in
theorem gX4_putIfAbsent_X0_letIn : GoodIn wsX4_putIfAbsent (wsV RX4 55 RX0 yX0_letIn wsX0_letIn) := goodIn_app (goodIn_of _ (by decide +kernel)) ggX4_putIfAbsent_X0_letIn
theorem dX4_putIfAbsent_0 : decode cX4_putIfAbsent 0 = .ok (.aload_n 0, 1) := by decide +kernel
theorem dX4_putIfAbsent_1 : decode cX4_putIfAbsent 1 = .ok (.iload_n 1, 1) := by decide +kernel
theorem dX4_putIfAbsent_2 : decode cX4_putIfAbsent 2 = .ok (.invokevirtual 37, 3) := by decide +kernel
theorem dX4_putIfAbsent_5 : decode cX4_putIfAbsent 5 = .ok (.aload_n 0, 1) := by decide +kernel
theorem dX4_putIfAbsent_6 : decode cX4_putIfAbsent 6 = .ok (.invokevirtual 41, 3) := by decide +kernel
theorem dX4_putIfAbsent_9 : decode cX4_putIfAbsent 9 = .ok (.aload_n 0, 1) := by decide +kernel
theorem dX4_putIfAbsent_10 : decode cX4_putIfAbsent 10 = .ok (.getfield 10, 3) := by decide +kernel
theorem dX4_putIfAbsent_13 : decode cX4_putIfAbsent 13 = .ok (.iload_n 1, 1) := by decide +kernel
theorem dX4_putIfAbsent_14 : decode cX4_putIfAbsent 14 = .ok (.invokevirtual 44, 3) := by decide +kernel
theorem dX4_putIfAbsent_17 : decode cX4_putIfAbsent 17 = .ok (.ifCond .eq 13, 3) := by decide +kernel
theorem dX4_putIfAbsent_20 : decode cX4_putIfAbsent 20 = .ok (.aload_n 0, 1) := by decide +kernel
theorem dX4_putIfAbsent_21 : decode cX4_putIfAbsent 21 = .ok (.getfield 10, 3) := by decide +kernel
theorem dX4_putIfAbsent_24 : decode cX4_putIfAbsent 24 = .ok (.iload_n 1, 1) := by decide +kernel
theorem dX4_putIfAbsent_25 : decode cX4_putIfAbsent 25 = .ok (.invokevirtual 52, 3) := by decide +kernel
theorem dX4_putIfAbsent_28 : decode cX4_putIfAbsent 28 = .ok (.iconst 0, 1) := by decide +kernel
theorem dX4_putIfAbsent_29 : decode cX4_putIfAbsent 29 = .ok (.ireturn, 1) := by decide +kernel
theorem dX4_putIfAbsent_30 : decode cX4_putIfAbsent 30 = .ok (.aload_n 0, 1) := by decide +kernel
theorem dX4_putIfAbsent_31 : decode cX4_putIfAbsent 31 = .ok (.getfield 10, 3) := by decide +kernel
theorem dX4_putIfAbsent_34 : decode cX4_putIfAbsent 34 = .ok (.iload_n 1, 1) := by decide +kernel
theorem dX4_putIfAbsent_35 : decode cX4_putIfAbsent 35 = .ok (.iload_n 2, 1) := by decide +kernel
theorem dX4_putIfAbsent_36 : decode cX4_putIfAbsent 36 = .ok (.invokevirtual 55, 3) := by decide +kernel
theorem dX4_putIfAbsent_39 : decode cX4_putIfAbsent 39 = .ok (.pop, 1) := by decide +kernel
theorem dX4_putIfAbsent_40 : decode cX4_putIfAbsent 40 = .ok (.iconst 1, 1) := by decide +kernel
theorem dX4_putIfAbsent_41 : decode cX4_putIfAbsent 41 = .ok (.ireturn, 1) := by decide +kernel
set_option maxRecDepth 20000 in
theorem ggX4_get_X4_refuseAbsentKey : GoodIn wsX4_get wsX4_refuseAbsentKey := goodIn_ca (goodIn_r _ [6, 7, 8, 1, 9, 10, 11, 12, 13, 14, 15, 16, 17, 18, 19, 20, 21, 22, 23, 24, 25, 26, 27, 28, 29, 91, 92, 93, 94, 95, 96, 97, 98, 99, 100, 101] (by decide +kernel) (by decide +kernel)) (goodIn_sub (fun _ h => List.mem_cons_of_mem _ (List.mem_append_right _ h)) (by decide +kernel))
set_option maxRecDepth 20000 in
theorem gX4_get_X4_refuseAbsentKey : GoodIn wsX4_get (wsV RX4 59 RX4 yX4_refuseAbsentKey wsX4_refuseAbsentKey) := goodIn_app (goodIn_of _ (by decide +kernel)) ggX4_get_X4_refuseAbsentKey
set_option maxRecDepth 20000 in
theorem ggX4_get_X4_beginChange : GoodIn wsX4_get wsX4_beginChange := goodIn_r _ [33, 34, 35, 1, 36, 37, 38, 39, 40, 41, 42, 43, 44, 45, 46, 47, 48, 49, 50, 51, 52, 53, 54, 55, 56, 12, 57, 14, 58, 59, 60, 61, 62, 63, 18, 64, 20, 21, 22, 23, 24, 25, 26, 27, 28, 29, 65, 66, 67, 68, 69, 70, 71, 72, 73, 91, 92, 93, 94, 102, 103, 104, 105, 106, 107, 108, 95, 96, 97, 98, 99, 100, 101] (by decide +kernel) (by decide +kernel)
set_option maxRecDepth 20000 in
theorem gX4_get_X4_beginChange : GoodIn wsX4_get (wsV RX4 41 RX4 yX4_beginChange wsX4_beginChange) := goodIn_app (goodIn_of _ (by decide +kernel)) ggX4_get_X4_beginChange
set_option maxRecDepth 20000 in
theorem ggX4_get_X0_touch : GoodIn wsX4_get wsX0_touch := goodIn_r _ [77, 58, 15, 16, 17, 18, 19, 20, 21, 22, 23, 24, 25, 26, 27, 28, 29, 78, 79, 80, 81, 69, 82, 83, 84, 85, 70, 71, 72, 73, 95, 96, 97, 98, 99, 100, 101] (by decide +kernel) (by decide +kernel)
set_option maxRecDepth 20000 in
theorem gX4_get_X0_touch : GoodIn wsX4_get (wsV RX4 52 RX0 yX0_touch wsX0_touch) := goodIn_app (goodIn_of _ (by decide +kernel)) ggX4_get_X0_touch
set_option maxRecDepth 20000 in
theorem ggX4_get_X0_valueOf : GoodIn wsX4_get wsX0_valueOf := goodIn_r _ [89, 14, 15, 16, 17, 18, 19, 20, 21, 22, 23, 24, 25, 26, 27, 28, 29, 90, 66, 67, 68, 69, 95, 96, 97, 98, 99, 100, 101] (by decide +kernel) (by decide +kernel)
set_option maxRecDepth 20000 in
theorem gX4_get_X0_valueOf : GoodIn wsX4_get (wsV RX4 62 RX0 yX0_valueOf wsX0_valueOf) := goodIn_app (goodIn_of _ (by decide +kernel)) ggX4_get_X0_valueOf
theorem dX4_get_0 : decode cX4_get 0 = .ok (.aload_n 0, 1) := by decide +kernel
theorem dX4_get_1 : decode cX4_get 1 = .ok (.iload_n 1, 1) := by decide +kernel
theorem dX4_get_2 : decode cX4_get 2 = .ok (.invokevirtual 59, 3) := by decide +kernel
theorem dX4_get_5 : decode cX4_get 5 = .ok (.aload_n 0, 1) := by decide +kernel
theorem dX4_get_6 : decode cX4_get 6 = .ok (.invokevirtual 41, 3) := by decide +kernel
theorem dX4_get_9 : decode cX4_get 9 = .ok (.aload_n 0, 1) := by decide +kernel
theorem dX4_get_10 : decode cX4_get 10 = .ok (.getfield 10, 3) := by decide +kernel
theorem dX4_get_13 : decode cX4_get 13 = .ok (.iload_n 1, 1) := by decide +kernel
theorem dX4_get_14 : decode cX4_get 14 = .ok (.invokevirtual 52, 3) := by decide +kernel
theorem dX4_get_17 : decode cX4_get 17 = .ok (.aload_n 0, 1) := by decide +kernel
theorem dX4_get_18 : decode cX4_get 18 = .ok (.getfield 10, 3) := by decide +kernel
theorem dX4_get_21 : decode cX4_get 21 = .ok (.iload_n 1, 1) := by decide +kernel
theorem dX4_get_22 : decode cX4_get 22 = .ok (.invokevirtual 62, 3) := by decide +kernel
theorem dX4_get_25 : decode cX4_get 25 = .ok (.ireturn, 1) := by decide +kernel
set_option maxRecDepth 20000 in
theorem ggX4_getOr_X0_holds : GoodIn wsX4_getOr wsX0_holds := goodIn_r _ [6, 7, 8, 9, 10, 11, 12, 13, 14, 15, 16, 17, 18, 19, 20, 21, 22, 89, 90, 91, 92, 93, 94, 95] (by decide +kernel) (by decide +kernel)
set_option maxRecDepth 20000 in
theorem gX4_getOr_X0_holds : GoodIn wsX4_getOr (wsV RX4 44 RX0 yX0_holds wsX0_holds) := goodIn_app (goodIn_of _ (by decide +kernel)) ggX4_getOr_X0_holds
set_option maxRecDepth 20000 in
theorem ggX4_getOr_X4_beginChange : GoodIn wsX4_getOr wsX4_beginChange := goodIn_r _ [27, 28, 29, 1, 30, 31, 32, 33, 34, 35, 36, 37, 38, 39, 40, 41, 42, 43, 44, 45, 46, 47, 48, 49, 50, 5, 51, 7, 52, 53, 54, 55, 56, 57, 11, 58, 13, 14, 15, 16, 17, 18, 19, 20, 21, 22, 59, 60, 61, 62, 63, 64, 65, 66, 67, 85, 86, 87, 88, 96, 97, 98, 99, 100, 101, 102, 89, 90, 91, 92, 93, 94, 95] (by decide +kernel) (by decide +kernel)
set_option maxRecDepth 20000 in
theorem gX4_getOr_X4_beginChange : GoodIn wsX4_getOr (wsV RX4 41 RX4 yX4_beginChange wsX4_beginChange) := goodIn_app (goodIn_of _ (by decide +kernel)) ggX4_getOr_X4_beginChange
set_option maxRecDepth 20000 in
theorem ggX4_getOr_X0_touch : GoodIn wsX4_getOr wsX0_touch := goodIn_r _ [71, 52, 8, 9, 10, 11, 12, 13, 14, 15, 16, 17, 18, 19, 20, 21, 22, 72, 73, 74, 75, 63, 76, 77, 78, 79, 64, 65, 66, 67, 89, 90, 91, 92, 93, 94, 95] (by decide +kernel) (by decide +kernel)
set_option maxRecDepth 20000 in
theorem gX4_getOr_X0_touch : GoodIn wsX4_getOr (wsV RX4 52 RX0 yX0_touch wsX0_touch) := goodIn_app (goodIn_of _ (by decide +kernel)) ggX4_getOr_X0_touch
set_option maxRecDepth 20000 in
theorem ggX4_getOr_X0_valueOf : GoodIn wsX4_getOr wsX0_valueOf := goodIn_r _ [83, 7, 8, 9, 10, 11, 12, 13, 14, 15, 16, 17, 18, 19, 20, 21, 22, 84, 60, 61, 62, 63, 89, 90, 91, 92, 93, 94, 95] (by decide +kernel) (by decide +kernel)
set_option maxRecDepth 20000 in
theorem gX4_getOr_X0_valueOf : GoodIn wsX4_getOr (wsV RX4 62 RX0 yX0_valueOf wsX0_valueOf) := goodIn_app (goodIn_of _ (by decide +kernel)) ggX4_getOr_X0_valueOf
theorem dX4_getOr_0 : decode cX4_getOr 0 = .ok (.aload_n 0, 1) := by decide +kernel
theorem dX4_getOr_1 : decode cX4_getOr 1 = .ok (.getfield 10, 3) := by decide +kernel
theorem dX4_getOr_4 : decode cX4_getOr 4 = .ok (.iload_n 1, 1) := by decide +kernel
theorem dX4_getOr_5 : decode cX4_getOr 5 = .ok (.invokevirtual 44, 3) := by decide +kernel
theorem dX4_getOr_8 : decode cX4_getOr 8 = .ok (.ifCond .ne 5, 3) := by decide +kernel
theorem dX4_getOr_11 : decode cX4_getOr 11 = .ok (.iload_n 2, 1) := by decide +kernel
theorem dX4_getOr_12 : decode cX4_getOr 12 = .ok (.ireturn, 1) := by decide +kernel
theorem dX4_getOr_13 : decode cX4_getOr 13 = .ok (.aload_n 0, 1) := by decide +kernel
theorem dX4_getOr_14 : decode cX4_getOr 14 = .ok (.invokevirtual 41, 3) := by decide +kernel
theorem dX4_getOr_17 : decode cX4_getOr 17 = .ok (.aload_n 0, 1) := by decide +kernel
theorem dX4_getOr_18 : decode cX4_getOr 18 = .ok (.getfield 10, 3) := by decide +kernel
theorem dX4_getOr_21 : decode cX4_getOr 21 = .ok (.iload_n 1, 1) := by decide +kernel
theorem dX4_getOr_22 : decode cX4_getOr 22 = .ok (.invokevirtual 52, 3) := by decide +kernel
theorem dX4_getOr_25 : decode cX4_getOr 25 = .ok (.aload_n 0, 1) := by decide +kernel
theorem dX4_getOr_26 : decode cX4_getOr 26 = .ok (.getfield 10, 3) := by decide +kernel
theorem dX4_getOr_29 : decode cX4_getOr 29 = .ok (.iload_n 1, 1) := by decide +kernel
theorem dX4_getOr_30 : decode cX4_getOr 30 = .ok (.invokevirtual 62, 3) := by decide +kernel
theorem dX4_getOr_33 : decode cX4_getOr 33 = .ok (.ireturn, 1) := by decide +kernel
set_option maxRecDepth 20000 in
theorem ggX4_replace_X0_holds : GoodIn wsX4_replace wsX0_holds := goodIn_r _ [6, 7, 8, 9, 10, 11, 12, 13, 14, 15, 16, 17, 18, 19, 20, 21, 22, 92, 93, 94, 95, 96, 97, 98] (by decide +kernel) (by decide +kernel)
set_option maxRecDepth 20000 in
theorem gX4_replace_X0_holds : GoodIn wsX4_replace (wsV RX4 44 RX0 yX0_holds wsX0_holds) := goodIn_app (goodIn_of _ (by decide +kernel)) ggX4_replace_X0_holds
set_option maxRecDepth 20000 in
theorem ggX4_replace_X4_beginChange : GoodIn wsX4_replace wsX4_beginChange := goodIn_r _ [27, 28, 29, 1, 30, 31, 32, 33, 34, 35, 36, 37, 38, 39, 40, 41, 42, 43, 44, 45, 46, 47, 48, 49, 50, 5, 51, 7, 52, 53, 54, 55, 56, 57, 11, 58, 13, 14, 15, 16, 17, 18, 19, 20, 21, 22, 59, 60, 61, 62, 63, 64, 65, 66, 67, 88, 89, 90, 91, 99, 100, 101, 102, 103, 104, 105, 92, 93, 94, 95, 96, 97, 98] (by decide +kernel) (by decide +kernel)
set_option maxRecDepth 20000 in
theorem gX4_replace_X4_beginChange : GoodIn wsX4_replace (wsV RX4 41 RX4 yX4_beginChange wsX4_beginChange) := goodIn_app (goodIn_of _ (by decide +kernel)) ggX4_replace_X4_beginChange
set_option maxRecDepth 20000 in
theorem ggX4_replace_X0_giveKey : GoodIn wsX4_replace wsX0_giveKey := goodIn_r _ [71, 7, 52, 8, 9, 10, 11, 12, 13, 14, 15, 16, 17, 18, 19, 20, 21, 22, 72, 73, 74, 75, 63, 92, 93, 94, 95, 96, 97, 98] (by decide +kernel) (by decide +kernel)
set_option maxRecDepth 20000 in
theorem gX4_replace_X0_giveKey : GoodIn wsX4_replace (wsV RX4 48 RX0 yX0_giveKey wsX0_giveKey) := goodIn_app (goodIn_of _ (by decide +kernel)) ggX4_replace_X0_giveKey
set_option maxRecDepth 20000 in
theorem ggX4_replace_X0_touch : GoodIn wsX4_replace wsX0_touch := goodIn_r _ [79, 52, 8, 9, 10, 11, 12, 13, 14, 15, 16, 17, 18, 19, 20, 21, 22, 80, 81, 82, 83, 63, 84, 85, 86, 87, 64, 65, 66, 67, 92, 93, 94, 95, 96, 97, 98] (by decide +kernel) (by decide +kernel)
set_option maxRecDepth 20000 in
theorem gX4_replace_X0_touch : GoodIn wsX4_replace (wsV RX4 52 RX0 yX0_touch wsX0_touch) := goodIn_app (goodIn_of _ (by decide +kernel)) ggX4_replace_X0_touch
theorem dX4_replace_0 : decode cX4_replace 0 = .ok (.aload_n 0, 1) := by decide +kernel
theorem dX4_replace_1 : decode cX4_replace 1 = .ok (.getfield 10, 3) := by decide +kernel
theorem dX4_replace_4 : decode cX4_replace 4 = .ok (.iload_n 1, 1) := by decide +kernel
theorem dX4_replace_5 : decode cX4_replace 5 = .ok (.invokevirtual 44, 3) := by decide +kernel
theorem dX4_replace_8 : decode cX4_replace 8 = .ok (.ifCond .ne 5, 3) := by decide +kernel
theorem dX4_replace_11 : decode cX4_replace 11 = .ok (.iconst 0, 1) := by decide +kernel
theorem dX4_replace_12 : decode cX4_replace 12 = .ok (.ireturn, 1) := by decide +kernel
theorem dX4_replace_13 : decode cX4_replace 13 = .ok (.aload_n 0, 1) := by decide +kernel
theorem dX4_replace_14 : decode cX4_replace 14 = .ok (.invokevirtual 41, 3) := by decide +kernel
theorem dX4_replace_17 : decode cX4_replace 17 = .ok (.aload_n 0, 1) := by decide +kernel
theorem dX4_replace_18 : decode cX4_replace 18 = .ok (.getfield 10, 3) := by decide +kernel
theorem dX4_replace_21 : decode cX4_replace 21 = .ok (.iload_n 1, 1) := by decide +kernel
theorem dX4_replace_22 : decode cX4_replace 22 = .ok (.iload_n 2, 1) := by decide +kernel
theorem dX4_replace_23 : decode cX4_replace 23 = .ok (.invokevirtual 48, 3) := by decide +kernel
theorem dX4_replace_26 : decode cX4_replace 26 = .ok (.aload_n 0, 1) := by decide +kernel
theorem dX4_replace_27 : decode cX4_replace 27 = .ok (.getfield 10, 3) := by decide +kernel
theorem dX4_replace_30 : decode cX4_replace 30 = .ok (.iload_n 1, 1) := by decide +kernel
theorem dX4_replace_31 : decode cX4_replace 31 = .ok (.invokevirtual 52, 3) := by decide +kernel
theorem dX4_replace_34 : decode cX4_replace 34 = .ok (.iconst 1, 1) := by decide +kernel
theorem dX4_replace_35 : decode cX4_replace 35 = .ok (.ireturn, 1) := by decide +kernel
set_option maxRecDepth 20000 in
theorem ggX4_replaceIf_X0_holds : GoodIn wsX4_replaceIf wsX0_holds := goodIn_r _ [6, 7, 8, 9, 10, 11, 12, 13, 14, 15, 16, 17, 18, 19, 20, 21, 22, 97, 98, 99, 100, 101, 102, 103] (by decide +kernel) (by decide +kernel)
set_option maxRecDepth 20000 in
theorem gX4_replaceIf_X0_holds : GoodIn wsX4_replaceIf (wsV RX4 44 RX0 yX0_holds wsX0_holds) := goodIn_app (goodIn_of _ (by decide +kernel)) ggX4_replaceIf_X0_holds
set_option maxRecDepth 20000 in
theorem ggX4_replaceIf_X0_valueOf : GoodIn wsX4_replaceIf wsX0_valueOf := goodIn_r _ [26, 7, 8, 9, 10, 11, 12, 13, 14, 15, 16, 17, 18, 19, 20, 21, 22, 27, 28, 29, 30, 31, 97, 98, 99, 100, 101, 102, 103] (by decide +kernel) (by decide +kernel)
set_option maxRecDepth 20000 in
theorem gX4_replaceIf_X0_valueOf : GoodIn wsX4_replaceIf (wsV RX4 62 RX0 yX0_valueOf wsX0_valueOf) := goodIn_app (goodIn_of _ (by decide +kernel)) ggX4_replaceIf_X0_valueOf
set_option maxRecDepth 20000 in
theorem ggX4_replaceIf_X4_beginChange : GoodIn wsX4_replaceIf wsX4_beginChange := goodIn_r _ [36, 37, 38, 1, 39, 40, 41, 42, 43, 44, 45, 46, 47, 48, 49, 50, 51, 52, 53, 54, 55, 56, 57, 58, 59, 5, 60, 7, 61, 62, 63, 64, 65, 66, 11, 67, 13, 14, 15, 16, 17, 18, 19, 20, 21, 22, 68, 28, 29, 30, 31, 69, 70, 71, 72, 93, 94, 95, 96, 104, 105, 106, 107, 108, 109, 110, 97, 98, 99, 100, 101, 102, 103] (by decide +kernel) (by decide +kernel)
set_option maxRecDepth 20000 in
theorem gX4_replaceIf_X4_beginChange : GoodIn wsX4_replaceIf (wsV RX4 41 RX4 yX4_beginChange wsX4_beginChange) := goodIn_app (goodIn_of _ (by decide +kernel)) ggX4_replaceIf_X4_beginChange
set_option maxRecDepth 20000 in
theorem ggX4_replaceIf_X0_giveKey : GoodIn wsX4_replaceIf wsX0_giveKey := goodIn_r _ [76, 7, 61, 8, 9, 10, 11, 12, 13, 14, 15, 16, 17, 18, 19, 20, 21, 22, 77, 78, 79, 80, 31, 97, 98, 99, 100, 101, 102, 103] (by decide +kernel) (by decide +kernel)
set_option maxRecDepth 20000 in
theorem gX4_replaceIf_X0_giveKey : GoodIn wsX4_replaceIf (wsV RX4 48 RX0 yX0_giveKey wsX0_giveKey) := goodIn_app (goodIn_of _ (by decide +kernel)) ggX4_replaceIf_X0_giveKey
set_option maxRecDepth 20000 in
theorem ggX4_replaceIf_X0_touch : GoodIn wsX4_replaceIf wsX0_touch := goodIn_r _ [84, 61, 8, 9, 10, 11, 12, 13, 14, 15, 16, 17, 18, 19, 20, 21, 22, 85, 86, 87, 88, 31, 89, 90, 91, 92, 69, 70, 71, 72, 97, 98, 99, 100, 101, 102, 103] (by decide +kernel) (by decide +kernel)
set_option maxRecDepth 20000 in
theorem gX4_replaceIf_X0_touch : GoodIn wsX4_replaceIf (wsV RX4 52 RX0 yX0_touch wsX0_touch) := goodIn_app (goodIn_of _ (by decide +kernel)) ggX4_replaceIf_X0_touch
theorem dX4_replaceIf_0 : decode cX4_replaceIf 0 = .ok (.aload_n 0, 1) := by decide +kernel
theorem dX4_replaceIf_1 : decode cX4_replaceIf 1 = .ok (.getfield 10, 3) := by decide +kernel
theorem dX4_replaceIf_4 : decode cX4_replaceIf 4 = .ok (.iload_n 1, 1) := by decide +kernel
theorem dX4_replaceIf_5 : decode cX4_replaceIf 5 = .ok (.invokevirtual 44, 3) := by decide +kernel
theorem dX4_replaceIf_8 : decode cX4_replaceIf 8 = .ok (.ifCond .eq 15, 3) := by decide +kernel
theorem dX4_replaceIf_11 : decode cX4_replaceIf 11 = .ok (.aload_n 0, 1) := by decide +kernel
theorem dX4_replaceIf_12 : decode cX4_replaceIf 12 = .ok (.getfield 10, 3) := by decide +kernel
theorem dX4_replaceIf_15 : decode cX4_replaceIf 15 = .ok (.iload_n 1, 1) := by decide +kernel
theorem dX4_replaceIf_16 : decode cX4_replaceIf 16 = .ok (.invokevirtual 62, 3) := by decide +kernel
theorem dX4_replaceIf_19 : decode cX4_replaceIf 19 = .ok (.iload_n 2, 1) := by decide +kernel
theorem dX4_replaceIf_20 : decode cX4_replaceIf 20 = .ok (.if_icmp .eq 5, 3) := by decide +kernel
theorem dX4_replaceIf_23 : decode cX4_replaceIf 23 = .ok (.iconst 0, 1) := by decide +kernel
theorem dX4_replaceIf_24 : decode cX4_replaceIf 24 = .ok (.ireturn, 1) := by decide +kernel
theorem dX4_replaceIf_25 : decode cX4_replaceIf 25 = .ok (.aload_n 0, 1) := by decide +kernel
theorem dX4_replaceIf_26 : decode cX4_replaceIf 26 = .ok (.invokevirtual 41, 3) := by decide +kernel
theorem dX4_replaceIf_29 : decode cX4_replaceIf 29 = .ok (.aload_n 0, 1) := by decide +kernel
theorem dX4_replaceIf_30 : decode cX4_replaceIf 30 = .ok (.getfield 10, 3) := by decide +kernel
theorem dX4_replaceIf_33 : decode cX4_replaceIf 33 = .ok (.iload_n 1, 1) := by decide +kernel
theorem dX4_replaceIf_34 : decode cX4_replaceIf 34 = .ok (.iload_n 3, 1) := by decide +kernel
theorem dX4_replaceIf_35 : decode cX4_replaceIf 35 = .ok (.invokevirtual 48, 3) := by decide +kernel
theorem dX4_replaceIf_38 : decode cX4_replaceIf 38 = .ok (.aload_n 0, 1) := by decide +kernel
theorem dX4_replaceIf_39 : decode cX4_replaceIf 39 = .ok (.getfield 10, 3) := by decide +kernel
theorem dX4_replaceIf_42 : decode cX4_replaceIf 42 = .ok (.iload_n 1, 1) := by decide +kernel
theorem dX4_replaceIf_43 : decode cX4_replaceIf 43 = .ok (.invokevirtual 52, 3) := by decide +kernel
theorem dX4_replaceIf_46 : decode cX4_replaceIf 46 = .ok (.iconst 1, 1) := by decide +kernel
theorem dX4_replaceIf_47 : decode cX4_replaceIf 47 = .ok (.ireturn, 1) := by decide +kernel
set_option maxRecDepth 20000 in
theorem ggX4_look_X4_refuseAbsentKey : GoodIn wsX4_look wsX4_refuseAbsentKey := goodIn_ca (goodIn_r _ [6, 7, 8, 1, 9, 10, 11, 12, 13, 14, 15, 16, 17, 18, 19, 20, 21, 22, 23, 24, 25, 26, 27, 28, 29, 39, 40, 41, 42, 43, 44, 45, 46, 47, 48, 49] (by decide +kernel) (by decide +kernel)) (goodIn_sub (fun _ h => List.mem_cons_of_mem _ (List.mem_append_right _ h)) (by decide +kernel))
set_option maxRecDepth 20000 in
theorem gX4_look_X4_refuseAbsentKey : GoodIn wsX4_look (wsV RX4 59 RX4 yX4_refuseAbsentKey wsX4_refuseAbsentKey) := goodIn_app (goodIn_of _ (by decide +kernel)) ggX4_look_X4_refuseAbsentKey
set_option maxRecDepth 20000 in
theorem ggX4_look_X0_valueOf : GoodIn wsX4_look wsX0_valueOf := goodIn_r _ [33, 14, 15, 16, 17, 18, 19, 20, 21, 22, 23, 24, 25, 26, 27, 28, 29, 34, 35, 36, 37, 38, 43, 44, 45, 46, 47, 48, 49] (by decide +kernel) (by decide +kernel)
set_option maxRecDepth 20000 in
theorem gX4_look_X0_valueOf : GoodIn wsX4_look (wsV RX4 62 RX0 yX0_valueOf wsX0_valueOf) := goodIn_app (goodIn_of _ (by decide +kernel)) ggX4_look_X0_valueOf
theorem dX4_look_0 : decode cX4_look 0 = .ok (.aload_n 0, 1) := by decide +kernel
theorem dX4_look_1 : decode cX4_look 1 = .ok (.iload_n 1, 1) := by decide +kernel
theorem dX4_look_2 : decode cX4_look 2 = .ok (.invokevirtual 59, 3) := by decide +kernel
theorem dX4_look_5 : decode cX4_look 5 = .ok (.aload_n 0, 1) := by decide +kernel
theorem dX4_look_6 : decode cX4_look 6 = .ok (.getfield 10, 3) := by decide +kernel
theorem dX4_look_9 : decode cX4_look 9 = .ok (.iload_n 1, 1) := by decide +kernel
theorem dX4_look_10 : decode cX4_look 10 = .ok (.invokevirtual 62, 3) := by decide +kernel
theorem dX4_look_13 : decode cX4_look 13 = .ok (.ireturn, 1) := by decide +kernel
set_option maxRecDepth 20000 in
theorem ggX4_has_X0_holds : GoodIn wsX4_has wsX0_holds := goodIn_r _ [6, 7, 8, 9, 10, 11, 12, 13, 14, 15, 16, 17, 18, 19, 20, 21, 22, 27, 28, 29, 30, 31, 32, 33] (by decide +kernel) (by decide +kernel)
set_option maxRecDepth 20000 in
theorem gX4_has_X0_holds : GoodIn wsX4_has (wsV RX4 44 RX0 yX0_holds wsX0_holds) := goodIn_app (goodIn_of _ (by decide +kernel)) ggX4_has_X0_holds
theorem dX4_has_0 : decode cX4_has 0 = .ok (.aload_n 0, 1) := by decide +kernel
theorem dX4_has_1 : decode cX4_has 1 = .ok (.getfield 10, 3) := by decide +kernel
theorem dX4_has_4 : decode cX4_has 4 = .ok (.iload_n 1, 1) := by decide +kernel
theorem dX4_has_5 : decode cX4_has 5 = .ok (.invokevirtual 44, 3) := by decide +kernel
theorem dX4_has_8 : decode cX4_has 8 = .ok (.ireturn, 1) := by decide +kernel
set_option maxRecDepth 20000 in
theorem ggX4_remove_X4_refuseAbsentKey : GoodIn wsX4_remove wsX4_refuseAbsentKey := goodIn_ca (goodIn_r _ [6, 7, 8, 1, 9, 10, 11, 12, 13, 14, 15, 16, 17, 18, 19, 20, 21, 22, 23, 24, 25, 26, 27, 28, 29, 87, 88, 89, 90, 91, 92, 93, 94, 95, 96, 97] (by decide +kernel) (by decide +kernel)) (goodIn_sub (fun _ h => List.mem_cons_of_mem _ (List.mem_append_right _ h)) (by decide +kernel))
set_option maxRecDepth 20000 in
theorem gX4_remove_X4_refuseAbsentKey : GoodIn wsX4_remove (wsV RX4 59 RX4 yX4_refuseAbsentKey wsX4_refuseAbsentKey) := goodIn_app (goodIn_of _ (by decide +kernel)) ggX4_remove_X4_refuseAbsentKey
set_option maxRecDepth 20000 in
theorem ggX4_remove_X0_valueOf : GoodIn wsX4_remove wsX0_valueOf := goodIn_r _ [33, 14, 15, 16, 17, 18, 19, 20, 21, 22, 23, 24, 25, 26, 27, 28, 29, 34, 35, 36, 37, 38, 91, 92, 93, 94, 95, 96, 97] (by decide +kernel) (by decide +kernel)
set_option maxRecDepth 20000 in
theorem gX4_remove_X0_valueOf : GoodIn wsX4_remove (wsV RX4 62 RX0 yX0_valueOf wsX0_valueOf) := goodIn_app (goodIn_of _ (by decide +kernel)) ggX4_remove_X0_valueOf
set_option maxRecDepth 20000 in
theorem ggX4_remove_X4_beginChange : GoodIn wsX4_remove wsX4_beginChange := goodIn_r _ [42, 43, 44, 1, 45, 46, 47, 48, 49, 50, 51, 52, 53, 54, 55, 56, 57, 58, 59, 60, 61, 62, 63, 64, 65, 12, 66, 14, 67, 68, 69, 70, 71, 72, 18, 73, 20, 21, 22, 23, 24, 25, 26, 27, 28, 29, 74, 35, 36, 37, 38, 75, 76, 77, 78, 87, 88, 89, 90, 98, 99, 100, 101, 102, 103, 104, 91, 92, 93, 94, 95, 96, 97] (by decide +kernel) (by decide +kernel)
set_option maxRecDepth 20000 in
theorem gX4_remove_X4_beginChange : GoodIn wsX4_remove (wsV RX4 41 RX4 yX4_beginChange wsX4_beginChange) := goodIn_app (goodIn_of _ (by decide +kernel)) ggX4_remove_X4_beginChange
set_option maxRecDepth 20000 in
theorem ggX4_remove_X0_takeOut : GoodIn wsX4_remove wsX0_takeOut := goodIn_r _ [82, 14, 67, 15, 16, 17, 18, 19, 20, 21, 22, 23, 24, 25, 26, 27, 28, 29, 83, 84, 85, 86, 38, 91, 92, 93, 94, 95, 96, 97] (by decide +kernel) (by decide +kernel)
set_option maxRecDepth 20000 in
theorem gX4_remove_X0_takeOut : GoodIn wsX4_remove (wsV RX4 66 RX0 yX0_takeOut wsX0_takeOut) := goodIn_app (goodIn_of _ (by decide +kernel)) ggX4_remove_X0_takeOut
theorem dX4_remove_0 : decode cX4_remove 0 = .ok (.aload_n 0, 1) := by decide +kernel
theorem dX4_remove_1 : decode cX4_remove 1 = .ok (.iload_n 1, 1) := by decide +kernel
theorem dX4_remove_2 : decode cX4_remove 2 = .ok (.invokevirtual 59, 3) := by decide +kernel
theorem dX4_remove_5 : decode cX4_remove 5 = .ok (.aload_n 0, 1) := by decide +kernel
theorem dX4_remove_6 : decode cX4_remove 6 = .ok (.getfield 10, 3) := by decide +kernel
theorem dX4_remove_9 : decode cX4_remove 9 = .ok (.iload_n 1, 1) := by decide +kernel
theorem dX4_remove_10 : decode cX4_remove 10 = .ok (.invokevirtual 62, 3) := by decide +kernel
theorem dX4_remove_13 : decode cX4_remove 13 = .ok (.istore_n 2, 1) := by decide +kernel
theorem dX4_remove_14 : decode cX4_remove 14 = .ok (.aload_n 0, 1) := by decide +kernel
theorem dX4_remove_15 : decode cX4_remove 15 = .ok (.invokevirtual 41, 3) := by decide +kernel
theorem dX4_remove_18 : decode cX4_remove 18 = .ok (.aload_n 0, 1) := by decide +kernel
theorem dX4_remove_19 : decode cX4_remove 19 = .ok (.getfield 10, 3) := by decide +kernel
theorem dX4_remove_22 : decode cX4_remove 22 = .ok (.iload_n 1, 1) := by decide +kernel
theorem dX4_remove_23 : decode cX4_remove 23 = .ok (.invokevirtual 66, 3) := by decide +kernel
theorem dX4_remove_26 : decode cX4_remove 26 = .ok (.iload_n 2, 1) := by decide +kernel
theorem dX4_remove_27 : decode cX4_remove 27 = .ok (.ireturn, 1) := by decide +kernel
set_option maxRecDepth 20000 in
theorem ggX4_size_X2_count : GoodIn wsX4_size wsX2_count := goodIn_r _ [6, 7, 16, 17, 18] (by decide +kernel) (by decide +kernel)
set_option maxRecDepth 20000 in
theorem gX4_size_X2_count : GoodIn wsX4_size (wsV RX4 72 RX2 yX2_count wsX2_count) := goodIn_app (goodIn_of _ (by decide +kernel)) ggX4_size_X2_count
theorem dX4_size_0 : decode cX4_size 0 = .ok (.aload_n 0, 1) := by decide +kernel
theorem dX4_size_1 : decode cX4_size 1 = .ok (.getfield 10, 3) := by decide +kernel
theorem dX4_size_4 : decode cX4_size 4 = .ok (.getfield 69, 3) := by decide +kernel
theorem dX4_size_7 : decode cX4_size 7 = .ok (.invokevirtual 72, 3) := by decide +kernel
theorem dX4_size_10 : decode cX4_size 10 = .ok (.ireturn, 1) := by decide +kernel
set_option maxRecDepth 20000 in
theorem ggX4_limit_X4_beginChange : GoodIn wsX4_limit wsX4_beginChange := goodIn_r _ [8, 9, 10, 3, 11, 12, 13, 14, 15, 16, 17, 18, 19, 20, 21, 22, 23, 24, 25, 26, 27, 28, 29, 30, 31, 32, 33, 34, 35, 36, 37, 38, 39, 40, 41, 42, 43, 44, 45, 46, 47, 48, 49, 50, 51, 52, 53, 54, 55, 56, 57, 58, 59, 60, 61, 94, 95, 96, 97, 102, 103, 104, 105, 106, 107, 108, 98, 99, 100, 101, 109, 110, 111] (by decide +kernel) (by decide +kernel)
set_option maxRecDepth 20000 in
theorem gX4_limit_X4_beginChange : GoodIn wsX4_limit (wsV RX4 41 RX4 yX4_beginChange wsX4_beginChange) := goodIn_app (goodIn_of _ (by decide +kernel)) ggX4_limit_X4_beginChange
set_option maxRecDepth 20000 in
theorem ggX4_limit_X0_dropWhatIsOver : GoodIn wsX4_limit wsX0_dropWhatIsOver := goodIn_r _ [65, 34, 36, 66, 67, 27, 68, 69, 70, 71, 41, 72, 43, 73, 74, 75, 32, 76, 37, 77, 78, 79, 80, 35, 81, 45, 46, 47, 48, 49, 50, 51, 52, 82, 83, 84, 85, 86, 87, 88, 89, 44, 90, 91, 92, 93, 57, 98, 99, 100, 101, 109, 110, 111] (by decide +kernel) (by decide +kernel)
set_option maxRecDepth 20000 in
theorem gX4_limit_X0_dropWhatIsOver : GoodIn wsX4_limit (wsV RX4 87 RX0 yX0_dropWhatIsOver wsX0_dropWhatIsOver) := goodIn_app (goodIn_of _ (by decide +kernel)) ggX4_limit_X0_dropWhatIsOver
theorem dX4_limit_0 : decode cX4_limit 0 = .ok (.iload_n 1, 1) := by decide +kernel
theorem dX4_limit_1 : decode cX4_limit 1 = .ok (.iconst 1, 1) := by decide +kernel
theorem dX4_limit_2 : decode cX4_limit 2 = .ok (.if_icmp .lt 9, 3) := by decide +kernel
theorem dX4_limit_5 : decode cX4_limit 5 = .ok (.iload_n 1, 1) := by decide +kernel
theorem dX4_limit_6 : decode cX4_limit 6 = .ok (.bipush 12, 2) := by decide +kernel
theorem dX4_limit_8 : decode cX4_limit 8 = .ok (.if_icmp .le 13, 3) := by decide +kernel
theorem dX4_limit_11 : decode cX4_limit 11 = .ok (.new 76, 3) := by decide +kernel
theorem dX4_limit_14 : decode cX4_limit 14 = .ok (.dup, 1) := by decide +kernel
theorem dX4_limit_15 : decode cX4_limit 15 = .ok (.ldc 78, 2) := by decide +kernel
theorem dX4_limit_17 : decode cX4_limit 17 = .ok (.invokespecial 80, 3) := by decide +kernel
theorem dX4_limit_20 : decode cX4_limit 20 = .ok (.athrow, 1) := by decide +kernel
theorem dX4_limit_21 : decode cX4_limit 21 = .ok (.aload_n 0, 1) := by decide +kernel
theorem dX4_limit_22 : decode cX4_limit 22 = .ok (.invokevirtual 41, 3) := by decide +kernel
theorem dX4_limit_25 : decode cX4_limit 25 = .ok (.aload_n 0, 1) := by decide +kernel
theorem dX4_limit_26 : decode cX4_limit 26 = .ok (.getfield 10, 3) := by decide +kernel
theorem dX4_limit_29 : decode cX4_limit 29 = .ok (.iload_n 1, 1) := by decide +kernel
theorem dX4_limit_30 : decode cX4_limit 30 = .ok (.putfield 83, 3) := by decide +kernel
theorem dX4_limit_33 : decode cX4_limit 33 = .ok (.aload_n 0, 1) := by decide +kernel
theorem dX4_limit_34 : decode cX4_limit 34 = .ok (.getfield 10, 3) := by decide +kernel
theorem dX4_limit_37 : decode cX4_limit 37 = .ok (.invokevirtual 87, 3) := by decide +kernel
theorem dX4_limit_40 : decode cX4_limit 40 = .ok (.ireturn, 1) := by decide +kernel
set_option maxRecDepth 20000 in
theorem ggX4_way_X4_refuseUnknownOrder : GoodIn wsX4_way wsX4_refuseUnknownOrder := goodIn_ca (goodIn_r _ [6, 7, 8] (by decide +kernel) (by decide +kernel)) (goodIn_sub (fun _ h => List.mem_cons_of_mem _ (List.mem_append_right _ h)) (by decide +kernel))
set_option maxRecDepth 20000 in
theorem gX4_way_X4_refuseUnknownOrder : GoodIn wsX4_way (wsV RX4 90 RX4 yX4_refuseUnknownOrder wsX4_refuseUnknownOrder) := goodIn_app (goodIn_of _ (by decide +kernel)) ggX4_way_X4_refuseUnknownOrder
set_option maxRecDepth 20000 in
theorem ggX4_way_X4_beginChange : GoodIn wsX4_way wsX4_beginChange := goodIn_r _ [12, 13, 14, 1, 15, 16, 17, 18, 19, 20, 21, 22, 23, 24, 25, 26, 27, 28, 29, 30, 31, 32, 33, 34, 35, 36, 37, 38, 39, 40, 41, 42, 43, 44, 45, 46, 47, 48, 49, 50, 51, 52, 53, 54, 55, 56, 57, 58, 59, 60, 61, 62, 63, 64, 65, 66, 67, 68, 69, 74, 75, 76, 77, 78, 79, 80, 70, 71, 72, 73, 81, 82, 83] (by decide +kernel) (by decide +kernel)
set_option maxRecDepth 20000 in
theorem gX4_way_X4_beginChange : GoodIn wsX4_way (wsV RX4 41 RX4 yX4_beginChange wsX4_beginChange) := goodIn_app (goodIn_of _ (by decide +kernel)) ggX4_way_X4_beginChange
theorem dX4_way_0 : decode cX4_way 0 = .ok (.aload_n 0, 1) := by decide +kernel
theorem dX4_way_1 : decode cX4_way 1 = .ok (.iload_n 1, 1) := by decide +kernel
theorem dX4_way_2 : decode cX4_way 2 = .ok (.invokevirtual 90, 3) := by decide +kernel
theorem dX4_way_5 : decode cX4_way 5 = .ok (.aload_n 0, 1) := by decide +kernel
theorem dX4_way_6 : decode cX4_way 6 = .ok (.getfield 10, 3) := by decide +kernel
theorem dX4_way_9 : decode cX4_way 9 = .ok (.getfield 94, 3) := by decide +kernel
theorem dX4_way_12 : decode cX4_way 12 = .ok (.istore_n 2, 1) := by decide +kernel
theorem dX4_way_13 : decode cX4_way 13 = .ok (.aload_n 0, 1) := by decide +kernel
theorem dX4_way_14 : decode cX4_way 14 = .ok (.invokevirtual 41, 3) := by decide +kernel
theorem dX4_way_17 : decode cX4_way 17 = .ok (.aload_n 0, 1) := by decide +kernel
theorem dX4_way_18 : decode cX4_way 18 = .ok (.getfield 10, 3) := by decide +kernel
theorem dX4_way_21 : decode cX4_way 21 = .ok (.iload_n 1, 1) := by decide +kernel
theorem dX4_way_22 : decode cX4_way 22 = .ok (.putfield 94, 3) := by decide +kernel
theorem dX4_way_25 : decode cX4_way 25 = .ok (.iload_n 2, 1) := by decide +kernel
theorem dX4_way_26 : decode cX4_way 26 = .ok (.ireturn, 1) := by decide +kernel
set_option maxRecDepth 20000 in
theorem ggX4_keyAt_X4_refuseUnknownOrder : GoodIn wsX4_keyAt wsX4_refuseUnknownOrder := goodIn_ca (goodIn_r _ [6, 7, 8] (by decide +kernel) (by decide +kernel)) (goodIn_sub (fun _ h => List.mem_cons_of_mem _ (List.mem_append_left _ (List.mem_append_right _ h))) (by decide +kernel))
set_option maxRecDepth 20000 in
theorem gX4_keyAt_X4_refuseUnknownOrder : GoodIn wsX4_keyAt (wsV RX4 90 RX4 yX4_refuseUnknownOrder wsX4_refuseUnknownOrder) := goodIn_app (goodIn_of _ (by decide +kernel)) ggX4_keyAt_X4_refuseUnknownOrder
set_option maxRecDepth 20000 in
theorem ggX4_keyAt_X4_refuseUnknownPlace : GoodIn wsX4_keyAt wsX4_refuseUnknownPlace := goodIn_ca (goodIn_r _ [12, 13, 14, 1, 15, 16, 17, 18, 19, 20, 21, 34, 35, 36, 37, 38, 39, 40, 41, 42, 43, 44] (by decide +kernel) (by decide +kernel)) (goodIn_sub (fun _ h => List.mem_cons_of_mem _ (List.mem_append_right _ h)) (by decide +kernel))
set_option maxRecDepth 20000 in
theorem gX4_keyAt_X4_refuseUnknownPlace : GoodIn wsX4_keyAt (wsV RX4 98 RX4 yX4_refuseUnknownPlace wsX4_refuseUnknownPlace) := goodIn_app (goodIn_of _ (by decide +kernel)) ggX4_keyAt_X4_refuseUnknownPlace
set_option maxRecDepth 20000 in
theorem ggX4_keyAt_X0_row : GoodIn wsX4_keyAt wsX0_row := goodIn_r _ [26, 27, 28, 38, 39, 40, 41] (by decide +kernel) (by decide +kernel)
set_option maxRecDepth 20000 in
theorem gX4_keyAt_X0_row : GoodIn wsX4_keyAt (wsV RX4 101 RX0 yX0_row wsX0_row) := goodIn_app (goodIn_of _ (by decide +kernel)) ggX4_keyAt_X0_row
set_option maxRecDepth 20000 in
theorem ggX4_keyAt_X2_keyIn : GoodIn wsX4_keyAt wsX2_keyIn := goodIn_r _ [32, 21, 33, 16, 17, 18, 19, 20, 42, 43, 44] (by decide +kernel) (by decide +kernel)
set_option maxRecDepth 20000 in
theorem gX4_keyAt_X2_keyIn : GoodIn wsX4_keyAt (wsV RX4 105 RX2 yX2_keyIn wsX2_keyIn) := goodIn_app (goodIn_of _ (by decide +kernel)) ggX4_keyAt_X2_keyIn
theorem dX4_keyAt_0 : decode cX4_keyAt 0 = .ok (.aload_n 0, 1) := by decide +kernel
theorem dX4_keyAt_1 : decode cX4_keyAt 1 = .ok (.iload_n 1, 1) := by decide +kernel
theorem dX4_keyAt_2 : decode cX4_keyAt 2 = .ok (.invokevirtual 90, 3) := by decide +kernel
theorem dX4_keyAt_5 : decode cX4_keyAt 5 = .ok (.aload_n 0, 1) := by decide +kernel
theorem dX4_keyAt_6 : decode cX4_keyAt 6 = .ok (.iload_n 2, 1) := by decide +kernel
theorem dX4_keyAt_7 : decode cX4_keyAt 7 = .ok (.invokevirtual 98, 3) := by decide +kernel
theorem dX4_keyAt_10 : decode cX4_keyAt 10 = .ok (.aload_n 0, 1) := by decide +kernel
theorem dX4_keyAt_11 : decode cX4_keyAt 11 = .ok (.getfield 10, 3) := by decide +kernel
theorem dX4_keyAt_14 : decode cX4_keyAt 14 = .ok (.iload_n 1, 1) := by decide +kernel
theorem dX4_keyAt_15 : decode cX4_keyAt 15 = .ok (.invokevirtual 101, 3) := by decide +kernel
theorem dX4_keyAt_18 : decode cX4_keyAt 18 = .ok (.iload_n 2, 1) := by decide +kernel
theorem dX4_keyAt_19 : decode cX4_keyAt 19 = .ok (.invokevirtual 105, 3) := by decide +kernel
theorem dX4_keyAt_22 : decode cX4_keyAt 22 = .ok (.ireturn, 1) := by decide +kernel
set_option maxRecDepth 20000 in
theorem ggX4_placeOf_X4_refuseUnknownOrder : GoodIn wsX4_placeOf wsX4_refuseUnknownOrder := goodIn_ca (goodIn_r _ [6, 7, 8] (by decide +kernel) (by decide +kernel)) (goodIn_sub (fun _ h => List.mem_cons_of_mem _ (List.mem_append_left _ (List.mem_append_right _ h))) (by decide +kernel))
set_option maxRecDepth 20000 in
theorem gX4_placeOf_X4_refuseUnknownOrder : GoodIn wsX4_placeOf (wsV RX4 90 RX4 yX4_refuseUnknownOrder wsX4_refuseUnknownOrder) := goodIn_app (goodIn_of _ (by decide +kernel)) ggX4_placeOf_X4_refuseUnknownOrder
set_option maxRecDepth 20000 in
theorem ggX4_placeOf_X4_refuseAbsentKey : GoodIn wsX4_placeOf wsX4_refuseAbsentKey := goodIn_ca (goodIn_r _ [12, 13, 14, 1, 15, 16, 17, 18, 19, 20, 21, 22, 23, 24, 25, 26, 27, 28, 29, 30, 31, 32, 33, 34, 35, 42, 43, 44, 45, 46, 47, 48, 49, 50, 51, 52] (by decide +kernel) (by decide +kernel)) (goodIn_sub (fun _ h => List.mem_cons_of_mem _ (List.mem_append_right _ h)) (by decide +kernel))
set_option maxRecDepth 20000 in
theorem gX4_placeOf_X4_refuseAbsentKey : GoodIn wsX4_placeOf (wsV RX4 59 RX4 yX4_refuseAbsentKey wsX4_refuseAbsentKey) := goodIn_app (goodIn_of _ (by decide +kernel)) ggX4_placeOf_X4_refuseAbsentKey
set_option maxRecDepth 20000 in
theorem ggX4_placeOf_X0_row : GoodIn wsX4_placeOf wsX0_row := goodIn_r _ [39, 40, 20, 46, 47, 48, 49] (by decide +kernel) (by decide +kernel)
set_option maxRecDepth 20000 in
theorem gX4_placeOf_X0_row : GoodIn wsX4_placeOf (wsV RX4 101 RX0 yX0_row wsX0_row) := goodIn_app (goodIn_of _ (by decide +kernel)) ggX4_placeOf_X0_row
set_option maxRecDepth 20000 in
theorem ggX4_placeOf_X2_find : GoodIn wsX4_placeOf wsX2_find := goodIn_r _ [25, 26, 27, 28, 29, 24, 30, 31, 32, 33, 34, 35, 50, 51, 52] (by decide +kernel) (by decide +kernel)
set_option maxRecDepth 20000 in
theorem gX4_placeOf_X2_find : GoodIn wsX4_placeOf (wsV RX4 108 RX2 yX2_find wsX2_find) := goodIn_app (goodIn_of _ (by decide +kernel)) ggX4_placeOf_X2_find
theorem dX4_placeOf_0 : decode cX4_placeOf 0 = .ok (.aload_n 0, 1) := by decide +kernel
theorem dX4_placeOf_1 : decode cX4_placeOf 1 = .ok (.iload_n 1, 1) := by decide +kernel
theorem dX4_placeOf_2 : decode cX4_placeOf 2 = .ok (.invokevirtual 90, 3) := by decide +kernel
theorem dX4_placeOf_5 : decode cX4_placeOf 5 = .ok (.aload_n 0, 1) := by decide +kernel
theorem dX4_placeOf_6 : decode cX4_placeOf 6 = .ok (.iload_n 2, 1) := by decide +kernel
theorem dX4_placeOf_7 : decode cX4_placeOf 7 = .ok (.invokevirtual 59, 3) := by decide +kernel
theorem dX4_placeOf_10 : decode cX4_placeOf 10 = .ok (.aload_n 0, 1) := by decide +kernel
theorem dX4_placeOf_11 : decode cX4_placeOf 11 = .ok (.getfield 10, 3) := by decide +kernel
theorem dX4_placeOf_14 : decode cX4_placeOf 14 = .ok (.iload_n 1, 1) := by decide +kernel
theorem dX4_placeOf_15 : decode cX4_placeOf 15 = .ok (.invokevirtual 101, 3) := by decide +kernel
theorem dX4_placeOf_18 : decode cX4_placeOf 18 = .ok (.iload_n 2, 1) := by decide +kernel
theorem dX4_placeOf_19 : decode cX4_placeOf 19 = .ok (.invokevirtual 108, 3) := by decide +kernel
theorem dX4_placeOf_22 : decode cX4_placeOf 22 = .ok (.ireturn, 1) := by decide +kernel
set_option maxRecDepth 20000 in
theorem ggX4_setAt_X4_refuseUnknownOrder : GoodIn wsX4_setAt wsX4_refuseUnknownOrder := goodIn_ca (goodIn_r _ [6, 7, 8] (by decide +kernel) (by decide +kernel)) (goodIn_sub (fun _ h => List.mem_cons_of_mem _ (List.mem_append_left _ (List.mem_append_right _ h))) (by decide +kernel))
set_option maxRecDepth 20000 in
theorem gX4_setAt_X4_refuseUnknownOrder : GoodIn wsX4_setAt (wsV RX4 90 RX4 yX4_refuseUnknownOrder wsX4_refuseUnknownOrder) := goodIn_app (goodIn_of _ (by decide +kernel)) ggX4_setAt_X4_refuseUnknownOrder
set_option maxRecDepth 20000 in
theorem ggX4_setAt_X4_refuseUnknownPlace : GoodIn wsX4_setAt wsX4_refuseUnknownPlace := goodIn_ca (goodIn_r _ [12, 13, 14, 1, 15, 16, 17, 18, 19, 20, 21, 91, 92, 93, 94, 95, 96, 97, 98, 99, 100, 101] (by decide +kernel) (by decide +kernel)) (goodIn_sub (fun _ h => List.mem_cons_of_mem _ (List.mem_append_right _ h)) (by decide +kernel))
set_option maxRecDepth 20000 in
theorem gX4_setAt_X4_refuseUnknownPlace : GoodIn wsX4_setAt (wsV RX4 98 RX4 yX4_refuseUnknownPlace wsX4_refuseUnknownPlace) := goodIn_app (goodIn_of _ (by decide +kernel)) ggX4_setAt_X4_refuseUnknownPlace
set_option maxRecDepth 20000 in
theorem ggX4_setAt_X0_row : GoodIn wsX4_setAt wsX0_row := goodIn_r _ [26, 27, 28, 95, 96, 97, 98] (by decide +kernel) (by decide +kernel)
set_option maxRecDepth 20000 in
theorem gX4_setAt_X0_row : GoodIn wsX4_setAt (wsV RX4 101 RX0 yX0_row wsX0_row) := goodIn_app (goodIn_of _ (by decide +kernel)) ggX4_setAt_X0_row
set_option maxRecDepth 20000 in
theorem ggX4_setAt_X2_valueIn : GoodIn wsX4_setAt wsX2_valueIn := goodIn_r _ [32, 33, 34, 16, 17, 18, 19, 20, 21, 99, 100, 101] (by decide +kernel) (by decide +kernel)
set_option maxRecDepth 20000 in
theorem gX4_setAt_X2_valueIn : GoodIn wsX4_setAt (wsV RX4 111 RX2 yX2_valueIn wsX2_valueIn) := goodIn_app (goodIn_of _ (by decide +kernel)) ggX4_setAt_X2_valueIn
set_option maxRecDepth 20000 in
theorem ggX4_setAt_X4_beginChange : GoodIn wsX4_setAt wsX4_beginChange := goodIn_r _ [38, 39, 40, 1, 41, 42, 43, 44, 45, 46, 47, 48, 49, 50, 51, 52, 53, 54, 55, 56, 57, 58, 59, 60, 61, 25, 62, 28, 27, 63, 64, 65, 66, 67, 18, 68, 20, 69, 70, 71, 72, 21, 34, 16, 17, 19, 73, 30, 31, 32, 33, 74, 75, 76, 77, 91, 92, 93, 94, 102, 103, 104, 105, 106, 107, 108, 95, 96, 97, 98, 99, 100, 101] (by decide +kernel) (by decide +kernel)
set_option maxRecDepth 20000 in
theorem gX4_setAt_X4_beginChange : GoodIn wsX4_setAt (wsV RX4 41 RX4 yX4_beginChange wsX4_beginChange) := goodIn_app (goodIn_of _ (by decide +kernel)) ggX4_setAt_X4_beginChange
set_option maxRecDepth 20000 in
theorem ggX4_setAt_X2_keyIn : GoodIn wsX4_setAt wsX2_keyIn := goodIn_r _ [72, 21, 34, 16, 17, 18, 19, 20, 99, 100, 101] (by decide +kernel) (by decide +kernel)
set_option maxRecDepth 20000 in
theorem gX4_setAt_X2_keyIn : GoodIn wsX4_setAt (wsV RX4 105 RX2 yX2_keyIn wsX2_keyIn) := goodIn_app (goodIn_of _ (by decide +kernel)) ggX4_setAt_X2_keyIn
set_option maxRecDepth 20000 in
theorem ggX4_setAt_X0_giveKey : GoodIn wsX4_setAt wsX0_giveKey := goodIn_r _ [82, 28, 27, 83, 84, 85, 18, 86, 20, 69, 70, 71, 72, 21, 34, 16, 17, 19, 87, 88, 89, 90, 33, 95, 96, 97, 98, 99, 100, 101] (by decide +kernel) (by decide +kernel)
set_option maxRecDepth 20000 in
theorem gX4_setAt_X0_giveKey : GoodIn wsX4_setAt (wsV RX4 48 RX0 yX0_giveKey wsX0_giveKey) := goodIn_app (goodIn_of _ (by decide +kernel)) ggX4_setAt_X0_giveKey
theorem dX4_setAt_0 : decode cX4_setAt 0 = .ok (.aload_n 0, 1) := by decide +kernel
theorem dX4_setAt_1 : decode cX4_setAt 1 = .ok (.iload_n 1, 1) := by decide +kernel
theorem dX4_setAt_2 : decode cX4_setAt 2 = .ok (.invokevirtual 90, 3) := by decide +kernel
theorem dX4_setAt_5 : decode cX4_setAt 5 = .ok (.aload_n 0, 1) := by decide +kernel
theorem dX4_setAt_6 : decode cX4_setAt 6 = .ok (.iload_n 2, 1) := by decide +kernel
theorem dX4_setAt_7 : decode cX4_setAt 7 = .ok (.invokevirtual 98, 3) := by decide +kernel
theorem dX4_setAt_10 : decode cX4_setAt 10 = .ok (.aload_n 0, 1) := by decide +kernel
theorem dX4_setAt_11 : decode cX4_setAt 11 = .ok (.getfield 10, 3) := by decide +kernel
theorem dX4_setAt_14 : decode cX4_setAt 14 = .ok (.iload_n 1, 1) := by decide +kernel
theorem dX4_setAt_15 : decode cX4_setAt 15 = .ok (.invokevirtual 101, 3) := by decide +kernel
theorem dX4_setAt_18 : decode cX4_setAt 18 = .ok (.astore 4, 2) := by decide +kernel
theorem dX4_setAt_20 : decode cX4_setAt 20 = .ok (.aload 4, 2) := by decide +kernel
theorem dX4_setAt_22 : decode cX4_setAt 22 = .ok (.iload_n 2, 1) := by decide +kernel
theorem dX4_setAt_23 : decode cX4_setAt 23 = .ok (.invokevirtual 111, 3) := by decide +kernel
theorem dX4_setAt_26 : decode cX4_setAt 26 = .ok (.istore 5, 2) := by decide +kernel
theorem dX4_setAt_28 : decode cX4_setAt 28 = .ok (.aload_n 0, 1) := by decide +kernel
theorem dX4_setAt_29 : decode cX4_setAt 29 = .ok (.invokevirtual 41, 3) := by decide +kernel
theorem dX4_setAt_32 : decode cX4_setAt 32 = .ok (.aload_n 0, 1) := by decide +kernel
theorem dX4_setAt_33 : decode cX4_setAt 33 = .ok (.getfield 10, 3) := by decide +kernel
theorem dX4_setAt_36 : decode cX4_setAt 36 = .ok (.aload 4, 2) := by decide +kernel
theorem dX4_setAt_38 : decode cX4_setAt 38 = .ok (.iload_n 2, 1) := by decide +kernel
theorem dX4_setAt_39 : decode cX4_setAt 39 = .ok (.invokevirtual 105, 3) := by decide +kernel
theorem dX4_setAt_42 : decode cX4_setAt 42 = .ok (.iload_n 3, 1) := by decide +kernel
theorem dX4_setAt_43 : decode cX4_setAt 43 = .ok (.invokevirtual 48, 3) := by decide +kernel
theorem dX4_setAt_46 : decode cX4_setAt 46 = .ok (.iload 5, 2) := by decide +kernel
theorem dX4_setAt_48 : decode cX4_setAt 48 = .ok (.ireturn, 1) := by decide +kernel
set_option maxRecDepth 20000 in
theorem ggX4_removeAt_X4_refuseUnknownOrder : GoodIn wsX4_removeAt wsX4_refuseUnknownOrder := goodIn_ca (goodIn_r _ [6, 7, 8] (by decide +kernel) (by decide +kernel)) (goodIn_sub (fun _ h => List.mem_cons_of_mem _ (List.mem_append_left _ (List.mem_append_right _ h))) (by decide +kernel))
set_option maxRecDepth 20000 in
theorem gX4_removeAt_X4_refuseUnknownOrder : GoodIn wsX4_removeAt (wsV RX4 90 RX4 yX4_refuseUnknownOrder wsX4_refuseUnknownOrder) := goodIn_app (goodIn_of _ (by decide +kernel)) ggX4_removeAt_X4_refuseUnknownOrder
set_option maxRecDepth 20000 in
theorem ggX4_removeAt_X4_refuseUnknownPlace : GoodIn wsX4_removeAt wsX4_refuseUnknownPlace := goodIn_ca (goodIn_r _ [12, 13, 14, 1, 15, 16, 17, 18, 19, 20, 21, 90, 91, 92, 93, 94, 95, 96, 97, 98, 99, 100] (by decide +kernel) (by decide +kernel)) (goodIn_sub (fun _ h => List.mem_cons_of_mem _ (List.mem_append_right _ h)) (by decide +kernel))
set_option maxRecDepth 20000 in
theorem gX4_removeAt_X4_refuseUnknownPlace : GoodIn wsX4_removeAt (wsV RX4 98 RX4 yX4_refuseUnknownPlace wsX4_refuseUnknownPlace) := goodIn_app (goodIn_of _ (by decide +kernel)) ggX4_removeAt_X4_refuseUnknownPlace
set_option maxRecDepth 20000 in
theorem ggX4_removeAt_X0_row : GoodIn wsX4_removeAt wsX0_row := goodIn_r _ [26, 27, 28, 94, 95, 96, 97] (by decide +kernel) (by decide +kernel)
set_option maxRecDepth 20000 in
theorem gX4_removeAt_X0_row : GoodIn wsX4_removeAt (wsV RX4 101 RX0 yX0_row wsX0_row) := goodIn_app (goodIn_of _ (by decide +kernel)) ggX4_removeAt_X0_row
set_option maxRecDepth 20000 in
theorem ggX4_removeAt_X2_keyIn : GoodIn wsX4_removeAt wsX2_keyIn := goodIn_r _ [32, 21, 33, 16, 17, 18, 19, 20, 98, 99, 100] (by decide +kernel) (by decide +kernel)
set_option maxRecDepth 20000 in
theorem gX4_removeAt_X2_keyIn : GoodIn wsX4_removeAt (wsV RX4 105 RX2 yX2_keyIn wsX2_keyIn) := goodIn_app (goodIn_of _ (by decide +kernel)) ggX4_removeAt_X2_keyIn
set_option maxRecDepth 20000 in
theorem ggX4_removeAt_X4_beginChange : GoodIn wsX4_removeAt wsX4_beginChange := goodIn_r _ [37, 38, 39, 1, 40, 41, 42, 43, 44, 45, 46, 47, 48, 49, 50, 51, 52, 53, 54, 55, 56, 57, 58, 59, 60, 25, 61, 28, 27, 62, 63, 64, 65, 66, 18, 67, 20, 68, 30, 31, 32, 21, 33, 16, 17, 19, 69, 70, 71, 72, 73, 74, 75, 76, 77, 90, 91, 92, 93, 101, 102, 103, 104, 105, 106, 107, 94, 95, 96, 97, 98, 99, 100] (by decide +kernel) (by decide +kernel)
set_option maxRecDepth 20000 in
theorem gX4_removeAt_X4_beginChange : GoodIn wsX4_removeAt (wsV RX4 41 RX4 yX4_beginChange wsX4_beginChange) := goodIn_app (goodIn_of _ (by decide +kernel)) ggX4_removeAt_X4_beginChange
set_option maxRecDepth 20000 in
theorem ggX4_removeAt_X0_takeOut : GoodIn wsX4_removeAt wsX0_takeOut := goodIn_r _ [81, 28, 27, 82, 83, 84, 18, 85, 20, 68, 30, 31, 32, 21, 33, 16, 17, 19, 86, 87, 88, 89, 73, 94, 95, 96, 97, 98, 99, 100] (by decide +kernel) (by decide +kernel)
set_option maxRecDepth 20000 in
theorem gX4_removeAt_X0_takeOut : GoodIn wsX4_removeAt (wsV RX4 66 RX0 yX0_takeOut wsX0_takeOut) := goodIn_app (goodIn_of _ (by decide +kernel)) ggX4_removeAt_X0_takeOut
theorem dX4_removeAt_0 : decode cX4_removeAt 0 = .ok (.aload_n 0, 1) := by decide +kernel
theorem dX4_removeAt_1 : decode cX4_removeAt 1 = .ok (.iload_n 1, 1) := by decide +kernel
theorem dX4_removeAt_2 : decode cX4_removeAt 2 = .ok (.invokevirtual 90, 3) := by decide +kernel
theorem dX4_removeAt_5 : decode cX4_removeAt 5 = .ok (.aload_n 0, 1) := by decide +kernel
theorem dX4_removeAt_6 : decode cX4_removeAt 6 = .ok (.iload_n 2, 1) := by decide +kernel
theorem dX4_removeAt_7 : decode cX4_removeAt 7 = .ok (.invokevirtual 98, 3) := by decide +kernel
theorem dX4_removeAt_10 : decode cX4_removeAt 10 = .ok (.aload_n 0, 1) := by decide +kernel
theorem dX4_removeAt_11 : decode cX4_removeAt 11 = .ok (.getfield 10, 3) := by decide +kernel
theorem dX4_removeAt_14 : decode cX4_removeAt 14 = .ok (.iload_n 1, 1) := by decide +kernel
theorem dX4_removeAt_15 : decode cX4_removeAt 15 = .ok (.invokevirtual 101, 3) := by decide +kernel
theorem dX4_removeAt_18 : decode cX4_removeAt 18 = .ok (.iload_n 2, 1) := by decide +kernel
theorem dX4_removeAt_19 : decode cX4_removeAt 19 = .ok (.invokevirtual 105, 3) := by decide +kernel
theorem dX4_removeAt_22 : decode cX4_removeAt 22 = .ok (.istore_n 3, 1) := by decide +kernel
theorem dX4_removeAt_23 : decode cX4_removeAt 23 = .ok (.aload_n 0, 1) := by decide +kernel
theorem dX4_removeAt_24 : decode cX4_removeAt 24 = .ok (.invokevirtual 41, 3) := by decide +kernel
theorem dX4_removeAt_27 : decode cX4_removeAt 27 = .ok (.aload_n 0, 1) := by decide +kernel
theorem dX4_removeAt_28 : decode cX4_removeAt 28 = .ok (.getfield 10, 3) := by decide +kernel
theorem dX4_removeAt_31 : decode cX4_removeAt 31 = .ok (.iload_n 3, 1) := by decide +kernel
theorem dX4_removeAt_32 : decode cX4_removeAt 32 = .ok (.invokevirtual 66, 3) := by decide +kernel
theorem dX4_removeAt_35 : decode cX4_removeAt 35 = .ok (.iload_n 3, 1) := by decide +kernel
theorem dX4_removeAt_36 : decode cX4_removeAt 36 = .ok (.ireturn, 1) := by decide +kernel
set_option maxRecDepth 20000 in
theorem ggX4_thin_X4_refuseUnknownOrder : GoodIn wsX4_thin wsX4_refuseUnknownOrder := goodIn_ca (goodIn_r _ [8, 1, 2] (by decide +kernel) (by decide +kernel)) (goodIn_sub (fun _ h => List.mem_cons_of_mem _ (List.mem_append_right _ h)) (by decide +kernel))
set_option maxRecDepth 20000 in
theorem gX4_thin_X4_refuseUnknownOrder : GoodIn wsX4_thin (wsV RX4 90 RX4 yX4_refuseUnknownOrder wsX4_refuseUnknownOrder) := goodIn_app (goodIn_of _ (by decide +kernel)) ggX4_thin_X4_refuseUnknownOrder
set_option maxRecDepth 20000 in
theorem ggX4_thin_X2_count : GoodIn wsX4_thin wsX2_count := goodIn_r _ [13, 14, 100, 101, 102] (by decide +kernel) (by decide +kernel)
set_option maxRecDepth 20000 in
theorem gX4_thin_X2_count : GoodIn wsX4_thin (wsV RX4 72 RX2 yX2_count wsX2_count) := goodIn_app (goodIn_of _ (by decide +kernel)) ggX4_thin_X2_count
set_option maxRecDepth 20000 in
theorem ggX4_thin_X4_beginChange : GoodIn wsX4_thin wsX4_beginChange := goodIn_r _ [18, 19, 20, 3, 21, 22, 23, 24, 25, 26, 27, 28, 29, 30, 31, 32, 33, 34, 35, 36, 37, 38, 39, 40, 41, 42, 43, 44, 45, 46, 47, 48, 49, 50, 12, 51, 14, 52, 53, 54, 55, 56, 57, 58, 59, 60, 61, 62, 63, 64, 65, 66, 67, 68, 69, 92, 93, 94, 95, 103, 104, 105, 106, 107, 108, 109, 96, 97, 98, 99, 100, 101, 102] (by decide +kernel) (by decide +kernel)
set_option maxRecDepth 20000 in
theorem gX4_thin_X4_beginChange : GoodIn wsX4_thin (wsV RX4 41 RX4 yX4_beginChange wsX4_beginChange) := goodIn_app (goodIn_of _ (by decide +kernel)) ggX4_thin_X4_beginChange
set_option maxRecDepth 20000 in
theorem ggX4_thin_X0_takeOutEach : GoodIn wsX4_thin wsX0_takeOutEach := goodIn_r _ [73, 44, 74, 10, 11, 12, 13, 14, 75, 76, 77, 42, 78, 45, 79, 53, 54, 55, 56, 57, 58, 59, 60, 80, 81, 82, 83, 84, 85, 86, 87, 52, 88, 89, 90, 91, 65, 96, 97, 98, 99, 100, 101, 102] (by decide +kernel) (by decide +kernel)
set_option maxRecDepth 20000 in
theorem gX4_thin_X0_takeOutEach : GoodIn wsX4_thin (wsV RX4 116 RX0 yX0_takeOutEach wsX0_takeOutEach) := goodIn_app (goodIn_of _ (by decide +kernel)) ggX4_thin_X0_takeOutEach
theorem dX4_thin_0 : decode cX4_thin 0 = .ok (.aload_n 0, 1) := by decide +kernel
theorem dX4_thin_1 : decode cX4_thin 1 = .ok (.iload_n 1, 1) := by decide +kernel
theorem dX4_thin_2 : decode cX4_thin 2 = .ok (.invokevirtual 90, 3) := by decide +kernel
theorem dX4_thin_5 : decode cX4_thin 5 = .ok (.iload_n 2, 1) := by decide +kernel
theorem dX4_thin_6 : decode cX4_thin 6 = .ok (.iconst 1, 1) := by decide +kernel
theorem dX4_thin_7 : decode cX4_thin 7 = .ok (.if_icmp .lt 9, 3) := by decide +kernel
theorem dX4_thin_10 : decode cX4_thin 10 = .ok (.iload_n 2, 1) := by decide +kernel
theorem dX4_thin_11 : decode cX4_thin 11 = .ok (.bipush 12, 2) := by decide +kernel
theorem dX4_thin_13 : decode cX4_thin 13 = .ok (.if_icmp .le 13, 3) := by decide +kernel
theorem dX4_thin_16 : decode cX4_thin 16 = .ok (.new 76, 3) := by decide +kernel
theorem dX4_thin_19 : decode cX4_thin 19 = .ok (.dup, 1) := by decide +kernel
theorem dX4_thin_20 : decode cX4_thin 20 = .ok (.ldc 114, 2) := by decide +kernel
theorem dX4_thin_22 : decode cX4_thin 22 = .ok (.invokespecial 80, 3) := by decide +kernel
theorem dX4_thin_25 : decode cX4_thin 25 = .ok (.athrow, 1) := by decide +kernel
theorem dX4_thin_26 : decode cX4_thin 26 = .ok (.iload_n 2, 1) := by decide +kernel
theorem dX4_thin_27 : decode cX4_thin 27 = .ok (.aload_n 0, 1) := by decide +kernel
theorem dX4_thin_28 : decode cX4_thin 28 = .ok (.getfield 10, 3) := by decide +kernel
theorem dX4_thin_31 : decode cX4_thin 31 = .ok (.getfield 69, 3) := by decide +kernel
theorem dX4_thin_34 : decode cX4_thin 34 = .ok (.invokevirtual 72, 3) := by decide +kernel
theorem dX4_thin_37 : decode cX4_thin 37 = .ok (.if_icmp .le 5, 3) := by decide +kernel
theorem dX4_thin_40 : decode cX4_thin 40 = .ok (.iconst 0, 1) := by decide +kernel
theorem dX4_thin_41 : decode cX4_thin 41 = .ok (.ireturn, 1) := by decide +kernel
theorem dX4_thin_42 : decode cX4_thin 42 = .ok (.aload_n 0, 1) := by decide +kernel
theorem dX4_thin_43 : decode cX4_thin 43 = .ok (.invokevirtual 41, 3) := by decide +kernel
theorem dX4_thin_46 : decode cX4_thin 46 = .ok (.aload_n 0, 1) := by decide +kernel
theorem dX4_thin_47 : decode cX4_thin 47 = .ok (.getfield 10, 3) := by decide +kernel
theorem dX4_thin_50 : decode cX4_thin 50 = .ok (.iload_n 1, 1) := by decide +kernel
theorem dX4_thin_51 : decode cX4_thin 51 = .ok (.iload_n 2, 1) := by decide +kernel
theorem dX4_thin_52 : decode cX4_thin 52 = .ok (.invokevirtual 116, 3) := by decide +kernel
theorem dX4_thin_55 : decode cX4_thin 55 = .ok (.ireturn, 1) := by decide +kernel
set_option maxRecDepth 20000 in
theorem ggX4_walk_X4_refuseUnknownOrder : GoodIn wsX4_walk wsX4_refuseUnknownOrder := goodIn_ca (goodIn_r _ [7, 8, 9] (by decide +kernel) (by decide +kernel)) (goodIn_sub (fun _ h => List.mem_cons_of_mem _ (List.mem_append_right _ h)) (by decide +kernel))
set_option maxRecDepth 20000 in
theorem gX4_walk_X4_refuseUnknownOrder : GoodIn wsX4_walk (wsV RX4 90 RX4 yX4_refuseUnknownOrder wsX4_refuseUnknownOrder) := goodIn_app (goodIn_of _ (by decide +kernel)) ggX4_walk_X4_refuseUnknownOrder
set_option maxRecDepth 20000 in
theorem ggX4_walk_X3_begin : GoodIn wsX4_walk wsX3_begin := goodIn_r _ [14, 15, 16, 17, 18, 33, 34, 35, 36] (by decide +kernel) (by decide +kernel)
set_option maxRecDepth 20000 in
theorem gX4_walk_X3_begin : GoodIn wsX4_walk (wsV RX4 120 RX3 yX3_begin wsX3_begin) := goodIn_app (goodIn_of _ (by decide +kernel)) ggX4_walk_X3_begin
set_option maxRecDepth 20000 in
theorem ggX4_walk_X2_count : GoodIn wsX4_walk wsX2_count := goodIn_r _ [23, 24, 37, 38, 39] (by decide +kernel) (by decide +kernel)
set_option maxRecDepth 20000 in
theorem gX4_walk_X2_count : GoodIn wsX4_walk (wsV RX4 72 RX2 yX2_count wsX2_count) := goodIn_app (goodIn_of _ (by decide +kernel)) ggX4_walk_X2_count
theorem dX4_walk_0 : decode cX4_walk 0 = .ok (.aload_n 0, 1) := by decide +kernel
theorem dX4_walk_1 : decode cX4_walk 1 = .ok (.iload_n 1, 1) := by decide +kernel
theorem dX4_walk_2 : decode cX4_walk 2 = .ok (.invokevirtual 90, 3) := by decide +kernel
theorem dX4_walk_5 : decode cX4_walk 5 = .ok (.aload_n 0, 1) := by decide +kernel
theorem dX4_walk_6 : decode cX4_walk 6 = .ok (.getfield 26, 3) := by decide +kernel
theorem dX4_walk_9 : decode cX4_walk 9 = .ok (.iload_n 1, 1) := by decide +kernel
theorem dX4_walk_10 : decode cX4_walk 10 = .ok (.invokevirtual 120, 3) := by decide +kernel
theorem dX4_walk_13 : decode cX4_walk 13 = .ok (.aload_n 0, 1) := by decide +kernel
theorem dX4_walk_14 : decode cX4_walk 14 = .ok (.getfield 10, 3) := by decide +kernel
theorem dX4_walk_17 : decode cX4_walk 17 = .ok (.getfield 69, 3) := by decide +kernel
theorem dX4_walk_20 : decode cX4_walk 20 = .ok (.invokevirtual 72, 3) := by decide +kernel
theorem dX4_walk_23 : decode cX4_walk 23 = .ok (.ireturn, 1) := by decide +kernel
set_option maxRecDepth 20000 in
theorem ggX4_step_X3_isOn : GoodIn wsX4_step wsX3_isOn := goodIn_r _ [11, 12, 51, 52, 53, 54] (by decide +kernel) (by decide +kernel)
set_option maxRecDepth 20000 in
theorem gX4_step_X3_isOn : GoodIn wsX4_step (wsV RX4 123 RX3 yX3_isOn wsX3_isOn) := goodIn_app (goodIn_of _ (by decide +kernel)) ggX4_step_X3_isOn
set_option maxRecDepth 20000 in
theorem ggX4_step_X3_nextPlace : GoodIn wsX4_step wsX3_nextPlace := goodIn_r _ [16, 17, 51, 52, 53, 54] (by decide +kernel) (by decide +kernel)
set_option maxRecDepth 20000 in
theorem gX4_step_X3_nextPlace : GoodIn wsX4_step (wsV RX4 132 RX3 yX3_nextPlace wsX3_nextPlace) := goodIn_app (goodIn_of _ (by decide +kernel)) ggX4_step_X3_nextPlace
set_option maxRecDepth 20000 in
theorem ggX4_step_X3_order : GoodIn wsX4_step wsX3_order := goodIn_r _ [21, 22, 51, 52, 53, 54] (by decide +kernel) (by decide +kernel)
set_option maxRecDepth 20000 in
theorem gX4_step_X3_order : GoodIn wsX4_step (wsV RX4 135 RX3 yX3_order wsX3_order) := goodIn_app (goodIn_of _ (by decide +kernel)) ggX4_step_X3_order
set_option maxRecDepth 20000 in
theorem ggX4_step_X0_row : GoodIn wsX4_step wsX0_row := goodIn_r _ [27, 28, 29, 55, 56, 57, 58] (by decide +kernel) (by decide +kernel)
set_option maxRecDepth 20000 in
theorem gX4_step_X0_row : GoodIn wsX4_step (wsV RX4 101 RX0 yX0_row wsX0_row) := goodIn_app (goodIn_of _ (by decide +kernel)) ggX4_step_X0_row
set_option maxRecDepth 20000 in
theorem ggX4_step_X2_holdsPlace : GoodIn wsX4_step wsX2_holdsPlace := goodIn_r _ [34, 35, 36, 59, 60, 61] (by decide +kernel) (by decide +kernel)
set_option maxRecDepth 20000 in
theorem gX4_step_X2_holdsPlace : GoodIn wsX4_step (wsV RX4 139 RX2 yX2_holdsPlace wsX2_holdsPlace) := goodIn_app (goodIn_of _ (by decide +kernel)) ggX4_step_X2_holdsPlace
set_option maxRecDepth 20000 in
theorem ggX4_step_X3_goOver : GoodIn wsX4_step wsX3_goOver := goodIn_r _ [40, 17, 41, 51, 52, 53, 54] (by decide +kernel) (by decide +kernel)
set_option maxRecDepth 20000 in
theorem gX4_step_X3_goOver : GoodIn wsX4_step (wsV RX4 147 RX3 yX3_goOver wsX3_goOver) := goodIn_app (goodIn_of _ (by decide +kernel)) ggX4_step_X3_goOver
set_option maxRecDepth 20000 in
theorem ggX4_step_X2_keyIn : GoodIn wsX4_step wsX2_keyIn := goodIn_r _ [45, 36, 46, 31, 32, 33, 34, 35, 59, 60, 61] (by decide +kernel) (by decide +kernel)
set_option maxRecDepth 20000 in
theorem gX4_step_X2_keyIn : GoodIn wsX4_step (wsV RX4 105 RX2 yX2_keyIn wsX2_keyIn) := goodIn_app (goodIn_of _ (by decide +kernel)) ggX4_step_X2_keyIn
theorem dX4_step_0 : decode cX4_step 0 = .ok (.aload_n 0, 1) := by decide +kernel
theorem dX4_step_1 : decode cX4_step 1 = .ok (.getfield 26, 3) := by decide +kernel
theorem dX4_step_4 : decode cX4_step 4 = .ok (.invokevirtual 123, 3) := by decide +kernel
theorem dX4_step_7 : decode cX4_step 7 = .ok (.ifCond .ne 13, 3) := by decide +kernel
theorem dX4_step_10 : decode cX4_step 10 = .ok (.new 127, 3) := by decide +kernel
theorem dX4_step_13 : decode cX4_step 13 = .ok (.dup, 1) := by decide +kernel
theorem dX4_step_14 : decode cX4_step 14 = .ok (.ldc 129, 2) := by decide +kernel
theorem dX4_step_16 : decode cX4_step 16 = .ok (.invokespecial 131, 3) := by decide +kernel
theorem dX4_step_19 : decode cX4_step 19 = .ok (.athrow, 1) := by decide +kernel
theorem dX4_step_20 : decode cX4_step 20 = .ok (.aload_n 0, 1) := by decide +kernel
theorem dX4_step_21 : decode cX4_step 21 = .ok (.getfield 26, 3) := by decide +kernel
theorem dX4_step_24 : decode cX4_step 24 = .ok (.invokevirtual 132, 3) := by decide +kernel
theorem dX4_step_27 : decode cX4_step 27 = .ok (.istore_n 1, 1) := by decide +kernel
theorem dX4_step_28 : decode cX4_step 28 = .ok (.aload_n 0, 1) := by decide +kernel
theorem dX4_step_29 : decode cX4_step 29 = .ok (.getfield 10, 3) := by decide +kernel
theorem dX4_step_32 : decode cX4_step 32 = .ok (.aload_n 0, 1) := by decide +kernel
theorem dX4_step_33 : decode cX4_step 33 = .ok (.getfield 26, 3) := by decide +kernel
theorem dX4_step_36 : decode cX4_step 36 = .ok (.invokevirtual 135, 3) := by decide +kernel
theorem dX4_step_39 : decode cX4_step 39 = .ok (.invokevirtual 101, 3) := by decide +kernel
theorem dX4_step_42 : decode cX4_step 42 = .ok (.iload_n 1, 1) := by decide +kernel
theorem dX4_step_43 : decode cX4_step 43 = .ok (.invokevirtual 139, 3) := by decide +kernel
theorem dX4_step_46 : decode cX4_step 46 = .ok (.ifCond .ne 13, 3) := by decide +kernel
theorem dX4_step_49 : decode cX4_step 49 = .ok (.new 142, 3) := by decide +kernel
theorem dX4_step_52 : decode cX4_step 52 = .ok (.dup, 1) := by decide +kernel
theorem dX4_step_53 : decode cX4_step 53 = .ok (.ldc 144, 2) := by decide +kernel
theorem dX4_step_55 : decode cX4_step 55 = .ok (.invokespecial 146, 3) := by decide +kernel
theorem dX4_step_58 : decode cX4_step 58 = .ok (.athrow, 1) := by decide +kernel
theorem dX4_step_59 : decode cX4_step 59 = .ok (.aload_n 0, 1) := by decide +kernel
theorem dX4_step_60 : decode cX4_step 60 = .ok (.getfield 26, 3) := by decide +kernel
theorem dX4_step_63 : decode cX4_step 63 = .ok (.invokevirtual 147, 3) := by decide +kernel
theorem dX4_step_66 : decode cX4_step 66 = .ok (.aload_n 0, 1) := by decide +kernel
theorem dX4_step_67 : decode cX4_step 67 = .ok (.getfield 10, 3) := by decide +kernel
theorem dX4_step_70 : decode cX4_step 70 = .ok (.aload_n 0, 1) := by decide +kernel
theorem dX4_step_71 : decode cX4_step 71 = .ok (.getfield 26, 3) := by decide +kernel
theorem dX4_step_74 : decode cX4_step 74 = .ok (.invokevirtual 135, 3) := by decide +kernel
theorem dX4_step_77 : decode cX4_step 77 = .ok (.invokevirtual 101, 3) := by decide +kernel
theorem dX4_step_80 : decode cX4_step 80 = .ok (.iload_n 1, 1) := by decide +kernel
theorem dX4_step_81 : decode cX4_step 81 = .ok (.invokevirtual 105, 3) := by decide +kernel
theorem dX4_step_84 : decode cX4_step 84 = .ok (.ireturn, 1) := by decide +kernel
set_option maxRecDepth 20000 in
theorem ggX4_cut_X3_isOn : GoodIn wsX4_cut wsX3_isOn := goodIn_r _ [10, 11, 105, 106, 107, 108] (by decide +kernel) (by decide +kernel)
set_option maxRecDepth 20000 in
theorem gX4_cut_X3_isOn : GoodIn wsX4_cut (wsV RX4 123 RX3 yX3_isOn wsX3_isOn) := goodIn_app (goodIn_of _ (by decide +kernel)) ggX4_cut_X3_isOn
set_option maxRecDepth 20000 in
theorem ggX4_cut_X3_mayCut : GoodIn wsX4_cut wsX3_mayCut := goodIn_r _ [15, 16, 105, 106, 107, 108] (by decide +kernel) (by decide +kernel)
set_option maxRecDepth 20000 in
theorem gX4_cut_X3_mayCut : GoodIn wsX4_cut (wsV RX4 150 RX3 yX3_mayCut wsX3_mayCut) := goodIn_app (goodIn_of _ (by decide +kernel)) ggX4_cut_X3_mayCut
set_option maxRecDepth 20000 in
theorem ggX4_cut_X1_keep : GoodIn wsX4_cut wsX1_keep := goodIn_r _ [21, 22, 23, 24, 25, 26, 27, 28, 29, 30, 31, 32, 33, 34, 35, 36, 37, 38, 39, 40, 41, 42, 43, 44, 45, 46, 47, 48, 49, 50, 51, 52, 53, 54, 55, 56, 57, 58, 59, 60, 61, 109, 110, 111, 101, 102, 103, 104, 112, 113, 114] (by decide +kernel) (by decide +kernel)
set_option maxRecDepth 20000 in
theorem gX4_cut_X1_keep : GoodIn wsX4_cut (wsV RX4 155 RX1 yX1_keep wsX1_keep) := goodIn_app (goodIn_of _ (by decide +kernel)) ggX4_cut_X1_keep
set_option maxRecDepth 20000 in
theorem ggX4_cut_X3_order : GoodIn wsX4_cut wsX3_order := goodIn_r _ [65, 66, 105, 106, 107, 108] (by decide +kernel) (by decide +kernel)
set_option maxRecDepth 20000 in
theorem gX4_cut_X3_order : GoodIn wsX4_cut (wsV RX4 135 RX3 yX3_order wsX3_order) := goodIn_app (goodIn_of _ (by decide +kernel)) ggX4_cut_X3_order
set_option maxRecDepth 20000 in
theorem ggX4_cut_X0_row : GoodIn wsX4_cut wsX0_row := goodIn_r _ [70, 35, 34, 101, 102, 103, 104] (by decide +kernel) (by decide +kernel)
set_option maxRecDepth 20000 in
theorem gX4_cut_X0_row : GoodIn wsX4_cut (wsV RX4 101 RX0 yX0_row wsX0_row) := goodIn_app (goodIn_of _ (by decide +kernel)) ggX4_cut_X0_row
set_option maxRecDepth 20000 in
theorem ggX4_cut_X3_nextPlace : GoodIn wsX4_cut wsX3_nextPlace := goodIn_r _ [74, 75, 105, 106, 107, 108] (by decide +kernel) (by decide +kernel)
set_option maxRecDepth 20000 in
theorem gX4_cut_X3_nextPlace : GoodIn wsX4_cut (wsV RX4 132 RX3 yX3_nextPlace wsX3_nextPlace) := goodIn_app (goodIn_of _ (by decide +kernel)) ggX4_cut_X3_nextPlace
set_option maxRecDepth 20000 in
theorem ggX4_cut_X2_keyIn : GoodIn wsX4_cut wsX2_keyIn := goodIn_r _ [47, 48, 49, 50, 51, 41, 52, 43, 112, 113, 114] (by decide +kernel) (by decide +kernel)
set_option maxRecDepth 20000 in
theorem gX4_cut_X2_keyIn : GoodIn wsX4_cut (wsV RX4 105 RX2 yX2_keyIn wsX2_keyIn) := goodIn_app (goodIn_of _ (by decide +kernel)) ggX4_cut_X2_keyIn
set_option maxRecDepth 20000 in
theorem ggX4_cut_X0_takeOut : GoodIn wsX4_cut wsX0_takeOut := goodIn_r _ [80, 34, 35, 81, 82, 83, 41, 84, 43, 44, 45, 46, 47, 48, 49, 50, 51, 52, 85, 86, 87, 88, 57, 101, 102, 103, 104, 112, 113, 114] (by decide +kernel) (by decide +kernel)
set_option maxRecDepth 20000 in
theorem gX4_cut_X0_takeOut : GoodIn wsX4_cut (wsV RX4 66 RX0 yX0_takeOut wsX0_takeOut) := goodIn_app (goodIn_of _ (by decide +kernel)) ggX4_cut_X0_takeOut
set_option maxRecDepth 20000 in
theorem ggX4_cut_X3_goBack : GoodIn wsX4_cut wsX3_goBack := goodIn_r _ [92, 75, 16, 105, 106, 107, 108] (by decide +kernel) (by decide +kernel)
set_option maxRecDepth 20000 in
theorem gX4_cut_X3_goBack : GoodIn wsX4_cut (wsV RX4 159 RX3 yX3_goBack wsX3_goBack) := goodIn_app (goodIn_of _ (by decide +kernel)) ggX4_cut_X3_goBack
set_option maxRecDepth 20000 in
theorem ggX4_cut_X2_count : GoodIn wsX4_cut wsX2_count := goodIn_r _ [96, 43, 112, 113, 114] (by decide +kernel) (by decide +kernel)
set_option maxRecDepth 20000 in
theorem gX4_cut_X2_count : GoodIn wsX4_cut (wsV RX4 72 RX2 yX2_count wsX2_count) := goodIn_app (goodIn_of _ (by decide +kernel)) ggX4_cut_X2_count
theorem dX4_cut_0 : decode cX4_cut 0 = .ok (.aload_n 0, 1) := by decide +kernel
theorem dX4_cut_1 : decode cX4_cut 1 = .ok (.getfield 26, 3) := by decide +kernel
theorem dX4_cut_4 : decode cX4_cut 4 = .ok (.invokevirtual 123, 3) := by decide +kernel
theorem dX4_cut_7 : decode cX4_cut 7 = .ok (.ifCond .eq 13, 3) := by decide +kernel
theorem dX4_cut_10 : decode cX4_cut 10 = .ok (.aload_n 0, 1) := by decide +kernel
theorem dX4_cut_11 : decode cX4_cut 11 = .ok (.getfield 26, 3) := by decide +kernel
theorem dX4_cut_14 : decode cX4_cut 14 = .ok (.invokevirtual 150, 3) := by decide +kernel
theorem dX4_cut_17 : decode cX4_cut 17 = .ok (.ifCond .ne 13, 3) := by decide +kernel
theorem dX4_cut_20 : decode cX4_cut 20 = .ok (.new 127, 3) := by decide +kernel
theorem dX4_cut_23 : decode cX4_cut 23 = .ok (.dup, 1) := by decide +kernel
theorem dX4_cut_24 : decode cX4_cut 24 = .ok (.ldc 153, 2) := by decide +kernel
theorem dX4_cut_26 : decode cX4_cut 26 = .ok (.invokespecial 131, 3) := by decide +kernel
theorem dX4_cut_29 : decode cX4_cut 29 = .ok (.athrow, 1) := by decide +kernel
theorem dX4_cut_30 : decode cX4_cut 30 = .ok (.aload_n 0, 1) := by decide +kernel
theorem dX4_cut_31 : decode cX4_cut 31 = .ok (.getfield 19, 3) := by decide +kernel
theorem dX4_cut_34 : decode cX4_cut 34 = .ok (.aload_n 0, 1) := by decide +kernel
theorem dX4_cut_35 : decode cX4_cut 35 = .ok (.getfield 10, 3) := by decide +kernel
theorem dX4_cut_38 : decode cX4_cut 38 = .ok (.invokevirtual 155, 3) := by decide +kernel
theorem dX4_cut_41 : decode cX4_cut 41 = .ok (.aload_n 0, 1) := by decide +kernel
theorem dX4_cut_42 : decode cX4_cut 42 = .ok (.getfield 10, 3) := by decide +kernel
theorem dX4_cut_45 : decode cX4_cut 45 = .ok (.aload_n 0, 1) := by decide +kernel
theorem dX4_cut_46 : decode cX4_cut 46 = .ok (.getfield 10, 3) := by decide +kernel
theorem dX4_cut_49 : decode cX4_cut 49 = .ok (.aload_n 0, 1) := by decide +kernel
theorem dX4_cut_50 : decode cX4_cut 50 = .ok (.getfield 26, 3) := by decide +kernel
theorem dX4_cut_53 : decode cX4_cut 53 = .ok (.invokevirtual 135, 3) := by decide +kernel
theorem dX4_cut_56 : decode cX4_cut 56 = .ok (.invokevirtual 101, 3) := by decide +kernel
theorem dX4_cut_59 : decode cX4_cut 59 = .ok (.aload_n 0, 1) := by decide +kernel
theorem dX4_cut_60 : decode cX4_cut 60 = .ok (.getfield 26, 3) := by decide +kernel
theorem dX4_cut_63 : decode cX4_cut 63 = .ok (.invokevirtual 132, 3) := by decide +kernel
theorem dX4_cut_66 : decode cX4_cut 66 = .ok (.iconst 1, 1) := by decide +kernel
theorem dX4_cut_67 : decode cX4_cut 67 = .ok (.isub, 1) := by decide +kernel
theorem dX4_cut_68 : decode cX4_cut 68 = .ok (.invokevirtual 105, 3) := by decide +kernel
theorem dX4_cut_71 : decode cX4_cut 71 = .ok (.invokevirtual 66, 3) := by decide +kernel
theorem dX4_cut_74 : decode cX4_cut 74 = .ok (.aload_n 0, 1) := by decide +kernel
theorem dX4_cut_75 : decode cX4_cut 75 = .ok (.getfield 26, 3) := by decide +kernel
theorem dX4_cut_78 : decode cX4_cut 78 = .ok (.invokevirtual 159, 3) := by decide +kernel
theorem dX4_cut_81 : decode cX4_cut 81 = .ok (.aload_n 0, 1) := by decide +kernel
theorem dX4_cut_82 : decode cX4_cut 82 = .ok (.getfield 10, 3) := by decide +kernel
theorem dX4_cut_85 : decode cX4_cut 85 = .ok (.getfield 69, 3) := by decide +kernel
theorem dX4_cut_88 : decode cX4_cut 88 = .ok (.invokevirtual 72, 3) := by decide +kernel
theorem dX4_cut_91 : decode cX4_cut 91 = .ok (.ireturn, 1) := by decide +kernel
set_option maxRecDepth 20000 in
theorem ggX4_moves_X2_count : GoodIn wsX4_moves wsX2_count := goodIn_r _ [6, 7, 38, 39, 40] (by decide +kernel) (by decide +kernel)
set_option maxRecDepth 20000 in
theorem gX4_moves_X2_count : GoodIn wsX4_moves (wsV RX4 72 RX2 yX2_count wsX2_count) := goodIn_app (goodIn_of _ (by decide +kernel)) ggX4_moves_X2_count
set_option maxRecDepth 20000 in
theorem ggX4_moves_X0_staying : GoodIn wsX4_moves wsX0_staying := goodIn_r _ [12, 13, 14, 15, 3, 4, 5, 6, 7, 16, 17, 18, 19, 20, 21, 22, 23, 24, 25, 26, 27, 28, 29, 34, 35, 36, 37, 38, 39, 40] (by decide +kernel) (by decide +kernel)
set_option maxRecDepth 20000 in
theorem gX4_moves_X0_staying : GoodIn wsX4_moves (wsV RX4 162 RX0 yX0_staying wsX0_staying) := goodIn_app (goodIn_of _ (by decide +kernel)) ggX4_moves_X0_staying
theorem dX4_moves_0 : decode cX4_moves 0 = .ok (.aload_n 0, 1) := by decide +kernel
theorem dX4_moves_1 : decode cX4_moves 1 = .ok (.getfield 10, 3) := by decide +kernel
theorem dX4_moves_4 : decode cX4_moves 4 = .ok (.getfield 69, 3) := by decide +kernel
theorem dX4_moves_7 : decode cX4_moves 7 = .ok (.invokevirtual 72, 3) := by decide +kernel
theorem dX4_moves_10 : decode cX4_moves 10 = .ok (.aload_n 0, 1) := by decide +kernel
theorem dX4_moves_11 : decode cX4_moves 11 = .ok (.getfield 10, 3) := by decide +kernel
theorem dX4_moves_14 : decode cX4_moves 14 = .ok (.invokevirtual 162, 3) := by decide +kernel
theorem dX4_moves_17 : decode cX4_moves 17 = .ok (.isub, 1) := by decide +kernel
theorem dX4_moves_18 : decode cX4_moves 18 = .ok (.ireturn, 1) := by decide +kernel
set_option maxRecDepth 20000 in
theorem ggX4_move_X0_staying : GoodIn wsX4_move wsX0_staying := goodIn_r _ [8, 9, 10, 11, 12, 13, 14, 15, 16, 17, 18, 19, 20, 21, 22, 23, 24, 25, 26, 27, 28, 29, 30, 37, 38, 39, 40, 41, 42, 43] (by decide +kernel) (by decide +kernel)
set_option maxRecDepth 20000 in
theorem gX4_move_X0_staying : GoodIn wsX4_move (wsV RX4 162 RX0 yX0_staying wsX0_staying) := goodIn_app (goodIn_of _ (by decide +kernel)) ggX4_move_X0_staying
set_option maxRecDepth 20000 in
theorem ggX4_move_X2_count : GoodIn wsX4_move wsX2_count := goodIn_r _ [15, 16, 41, 42, 43] (by decide +kernel) (by decide +kernel)
set_option maxRecDepth 20000 in
theorem gX4_move_X2_count : GoodIn wsX4_move (wsV RX4 72 RX2 yX2_count wsX2_count) := goodIn_app (goodIn_of _ (by decide +kernel)) ggX4_move_X2_count
set_option maxRecDepth 20000 in
theorem ggX4_move_X2_keyIn : GoodIn wsX4_move wsX2_keyIn := goodIn_r _ [20, 21, 22, 23, 24, 14, 25, 16, 41, 42, 43] (by decide +kernel) (by decide +kernel)
set_option maxRecDepth 20000 in
theorem gX4_move_X2_keyIn : GoodIn wsX4_move (wsV RX4 105 RX2 yX2_keyIn wsX2_keyIn) := goodIn_app (goodIn_of _ (by decide +kernel)) ggX4_move_X2_keyIn
theorem dX4_move_0 : decode cX4_move 0 = .ok (.aload_n 0, 1) := by decide +kernel
theorem dX4_move_1 : decode cX4_move 1 = .ok (.getfield 10, 3) := by decide +kernel
theorem dX4_move_4 : decode cX4_move 4 = .ok (.invokevirtual 162, 3) := by decide +kernel
theorem dX4_move_7 : decode cX4_move 7 = .ok (.istore_n 2, 1) := by decide +kernel
theorem dX4_move_8 : decode cX4_move 8 = .ok (.iload_n 1, 1) := by decide +kernel
theorem dX4_move_9 : decode cX4_move 9 = .ok (.ifCond .lt 19, 3) := by decide +kernel
theorem dX4_move_12 : decode cX4_move 12 = .ok (.iload_n 1, 1) := by decide +kernel
theorem dX4_move_13 : decode cX4_move 13 = .ok (.aload_n 0, 1) := by decide +kernel
theorem dX4_move_14 : decode cX4_move 14 = .ok (.getfield 10, 3) := by decide +kernel
theorem dX4_move_17 : decode cX4_move 17 = .ok (.getfield 69, 3) := by decide +kernel
theorem dX4_move_20 : decode cX4_move 20 = .ok (.invokevirtual 72, 3) := by decide +kernel
theorem dX4_move_23 : decode cX4_move 23 = .ok (.iload_n 2, 1) := by decide +kernel
theorem dX4_move_24 : decode cX4_move 24 = .ok (.isub, 1) := by decide +kernel
theorem dX4_move_25 : decode cX4_move 25 = .ok (.if_icmp .lt 13, 3) := by decide +kernel
theorem dX4_move_28 : decode cX4_move 28 = .ok (.new 165, 3) := by decide +kernel
theorem dX4_move_31 : decode cX4_move 31 = .ok (.dup, 1) := by decide +kernel
theorem dX4_move_32 : decode cX4_move 32 = .ok (.ldc 167, 2) := by decide +kernel
theorem dX4_move_34 : decode cX4_move 34 = .ok (.invokespecial 169, 3) := by decide +kernel
theorem dX4_move_37 : decode cX4_move 37 = .ok (.athrow, 1) := by decide +kernel
theorem dX4_move_38 : decode cX4_move 38 = .ok (.aload_n 0, 1) := by decide +kernel
theorem dX4_move_39 : decode cX4_move 39 = .ok (.getfield 10, 3) := by decide +kernel
theorem dX4_move_42 : decode cX4_move 42 = .ok (.getfield 170, 3) := by decide +kernel
theorem dX4_move_45 : decode cX4_move 45 = .ok (.iload_n 2, 1) := by decide +kernel
theorem dX4_move_46 : decode cX4_move 46 = .ok (.iload_n 1, 1) := by decide +kernel
theorem dX4_move_47 : decode cX4_move 47 = .ok (.iadd, 1) := by decide +kernel
theorem dX4_move_48 : decode cX4_move 48 = .ok (.invokevirtual 105, 3) := by decide +kernel
theorem dX4_move_51 : decode cX4_move 51 = .ok (.ireturn, 1) := by decide +kernel
set_option maxRecDepth 20000 in
theorem ggX4_crossings_X0_crossedPairs : GoodIn wsX4_crossings wsX0_crossedPairs := goodIn_r _ [6, 7, 8, 9, 10, 11, 12, 13, 14, 15, 16, 17, 18, 19, 20, 21, 22, 23, 24, 25, 26, 27, 28, 33, 34, 35, 36, 37, 38, 39] (by decide +kernel) (by decide +kernel)
set_option maxRecDepth 20000 in
theorem gX4_crossings_X0_crossedPairs : GoodIn wsX4_crossings (wsV RX4 173 RX0 yX0_crossedPairs wsX0_crossedPairs) := goodIn_app (goodIn_of _ (by decide +kernel)) ggX4_crossings_X0_crossedPairs
theorem dX4_crossings_0 : decode cX4_crossings 0 = .ok (.aload_n 0, 1) := by decide +kernel
theorem dX4_crossings_1 : decode cX4_crossings 1 = .ok (.getfield 10, 3) := by decide +kernel
theorem dX4_crossings_4 : decode cX4_crossings 4 = .ok (.invokevirtual 173, 3) := by decide +kernel
theorem dX4_crossings_7 : decode cX4_crossings 7 = .ok (.ireturn, 1) := by decide +kernel
set_option maxRecDepth 20000 in
theorem ggX4_undo_X1_kept : GoodIn wsX4_undo wsX1_kept := goodIn_r _ [10, 11, 61, 62, 63] (by decide +kernel) (by decide +kernel)
set_option maxRecDepth 20000 in
theorem gX4_undo_X1_kept : GoodIn wsX4_undo (wsV RX4 176 RX1 yX1_kept wsX1_kept) := goodIn_app (goodIn_of _ (by decide +kernel)) ggX4_undo_X1_kept
set_option maxRecDepth 20000 in
theorem ggX4_undo_X3_end : GoodIn wsX4_undo wsX3_end := goodIn_r _ [16, 17, 64, 65, 66, 67] (by decide +kernel) (by decide +kernel)
set_option maxRecDepth 20000 in
theorem gX4_undo_X3_end : GoodIn wsX4_undo (wsV RX4 181 RX3 yX3_end wsX3_end) := goodIn_app (goodIn_of _ (by decide +kernel)) ggX4_undo_X3_end
set_option maxRecDepth 20000 in
theorem ggX4_undo_X1_bringBack : GoodIn wsX4_undo wsX1_bringBack := goodIn_r _ [21, 22, 23, 11, 24, 25, 26, 27, 28, 29, 30, 31, 32, 33, 34, 35, 36, 37, 38, 39, 40, 41, 42, 43, 44, 45, 46, 47, 48, 49, 50, 51, 52, 53, 54, 55, 56, 61, 62, 63, 68, 69, 70, 71, 72, 73, 74] (by decide +kernel) (by decide +kernel)
set_option maxRecDepth 20000 in
theorem gX4_undo_X1_bringBack : GoodIn wsX4_undo (wsV RX4 184 RX1 yX1_bringBack wsX1_bringBack) := goodIn_app (goodIn_of _ (by decide +kernel)) ggX4_undo_X1_bringBack
theorem dX4_undo_0 : decode cX4_undo 0 = .ok (.aload_n 0, 1) := by decide +kernel
theorem dX4_undo_1 : decode cX4_undo 1 = .ok (.getfield 19, 3) := by decide +kernel
theorem dX4_undo_4 : decode cX4_undo 4 = .ok (.invokevirtual 176, 3) := by decide +kernel
theorem dX4_undo_7 : decode cX4_undo 7 = .ok (.ifCond .ne 13, 3) := by decide +kernel
theorem dX4_undo_10 : decode cX4_undo 10 = .ok (.new 142, 3) := by decide +kernel
theorem dX4_undo_13 : decode cX4_undo 13 = .ok (.dup, 1) := by decide +kernel
theorem dX4_undo_14 : decode cX4_undo 14 = .ok (.ldc 179, 2) := by decide +kernel
theorem dX4_undo_16 : decode cX4_undo 16 = .ok (.invokespecial 146, 3) := by decide +kernel
theorem dX4_undo_19 : decode cX4_undo 19 = .ok (.athrow, 1) := by decide +kernel
theorem dX4_undo_20 : decode cX4_undo 20 = .ok (.aload_n 0, 1) := by decide +kernel
theorem dX4_undo_21 : decode cX4_undo 21 = .ok (.getfield 26, 3) := by decide +kernel
theorem dX4_undo_24 : decode cX4_undo 24 = .ok (.invokevirtual 181, 3) := by decide +kernel
theorem dX4_undo_27 : decode cX4_undo 27 = .ok (.aload_n 0, 1) := by decide +kernel
theorem dX4_undo_28 : decode cX4_undo 28 = .ok (.getfield 19, 3) := by decide +kernel
theorem dX4_undo_31 : decode cX4_undo 31 = .ok (.aload_n 0, 1) := by decide +kernel
theorem dX4_undo_32 : decode cX4_undo 32 = .ok (.getfield 10, 3) := by decide +kernel
theorem dX4_undo_35 : decode cX4_undo 35 = .ok (.invokevirtual 184, 3) := by decide +kernel
theorem dX4_undo_38 : decode cX4_undo 38 = .ok (.aload_n 0, 1) := by decide +kernel
theorem dX4_undo_39 : decode cX4_undo 39 = .ok (.getfield 19, 3) := by decide +kernel
theorem dX4_undo_42 : decode cX4_undo 42 = .ok (.invokevirtual 176, 3) := by decide +kernel
theorem dX4_undo_45 : decode cX4_undo 45 = .ok (.ireturn, 1) := by decide +kernel
set_option maxRecDepth 20000 in
theorem ggX4_isTrue_X2_tellsAlike : GoodIn wsX4_isTrue wsX2_tellsAlike := goodIn_r _ [6, 7, 8, 9, 10, 5, 11, 12, 13, 14, 15, 16, 17, 18, 19, 20, 80, 81, 82] (by decide +kernel) (by decide +kernel)
set_option maxRecDepth 20000 in
theorem gX4_isTrue_X2_tellsAlike : GoodIn wsX4_isTrue (wsV RX4 187 RX2 yX2_tellsAlike wsX2_tellsAlike) := goodIn_app (goodIn_of _ (by decide +kernel)) ggX4_isTrue_X2_tellsAlike
set_option maxRecDepth 20000 in
theorem ggX4_isTrue_X2_hasEntriesOf : GoodIn wsX4_isTrue wsX2_hasEntriesOf := goodIn_r _ [24, 7, 8, 9, 10, 5, 11, 12, 13, 14, 15, 16, 17, 18, 19, 20, 25, 26, 27, 28, 29, 80, 81, 82] (by decide +kernel) (by decide +kernel)
set_option maxRecDepth 20000 in
theorem gX4_isTrue_X2_hasEntriesOf : GoodIn wsX4_isTrue (wsV RX4 190 RX2 yX2_hasEntriesOf wsX2_hasEntriesOf) := goodIn_app (goodIn_of _ (by decide +kernel)) ggX4_isTrue_X2_hasEntriesOf
set_option maxRecDepth 20000 in
theorem ggX4_isTrue_X2_count : GoodIn wsX4_isTrue wsX2_count := goodIn_r _ [33, 7, 80, 81, 82] (by decide +kernel) (by decide +kernel)
set_option maxRecDepth 20000 in
theorem gX4_isTrue_X2_count : GoodIn wsX4_isTrue (wsV RX4 72 RX2 yX2_count wsX2_count) := goodIn_app (goodIn_of _ (by decide +kernel)) ggX4_isTrue_X2_count
set_option maxRecDepth 20000 in
theorem ggX4_isTrue_X4_movesGiveAsking : GoodIn wsX4_isTrue wsX4_movesGiveAsking := goodIn_r _ [38, 39, 1, 40, 41, 42, 5, 43, 7, 8, 9, 10, 11, 12, 13, 14, 15, 16, 25, 26, 27, 28, 29, 44, 45, 46, 47, 48, 49, 50, 51, 52, 53, 54, 55, 31, 32, 33, 56, 57, 18, 19, 20, 30, 58, 59, 60, 61, 62, 63, 64, 65, 66, 67, 68, 69, 70, 71, 72, 73, 74, 75, 76, 77, 78, 79, 80, 81, 82] (by decide +kernel) (by decide +kernel)
set_option maxRecDepth 20000 in
theorem gX4_isTrue_X4_movesGiveAsking : GoodIn wsX4_isTrue (wsV RX4 194 RX4 yX4_movesGiveAsking wsX4_movesGiveAsking) := goodIn_app (goodIn_of _ (by decide +kernel)) ggX4_isTrue_X4_movesGiveAsking
theorem dX4_isTrue_0 : decode cX4_isTrue 0 = .ok (.aload_n 0, 1) := by decide +kernel
theorem dX4_isTrue_1 : decode cX4_isTrue 1 = .ok (.getfield 10, 3) := by decide +kernel
theorem dX4_isTrue_4 : decode cX4_isTrue 4 = .ok (.getfield 69, 3) := by decide +kernel
theorem dX4_isTrue_7 : decode cX4_isTrue 7 = .ok (.invokevirtual 187, 3) := by decide +kernel
theorem dX4_isTrue_10 : decode cX4_isTrue 10 = .ok (.ifCond .eq 87, 3) := by decide +kernel
theorem dX4_isTrue_13 : decode cX4_isTrue 13 = .ok (.aload_n 0, 1) := by decide +kernel
theorem dX4_isTrue_14 : decode cX4_isTrue 14 = .ok (.getfield 10, 3) := by decide +kernel
theorem dX4_isTrue_17 : decode cX4_isTrue 17 = .ok (.getfield 170, 3) := by decide +kernel
theorem dX4_isTrue_20 : decode cX4_isTrue 20 = .ok (.invokevirtual 187, 3) := by decide +kernel
theorem dX4_isTrue_23 : decode cX4_isTrue 23 = .ok (.ifCond .eq 74, 3) := by decide +kernel
theorem dX4_isTrue_26 : decode cX4_isTrue 26 = .ok (.aload_n 0, 1) := by decide +kernel
theorem dX4_isTrue_27 : decode cX4_isTrue 27 = .ok (.getfield 10, 3) := by decide +kernel
theorem dX4_isTrue_30 : decode cX4_isTrue 30 = .ok (.getfield 69, 3) := by decide +kernel
theorem dX4_isTrue_33 : decode cX4_isTrue 33 = .ok (.aload_n 0, 1) := by decide +kernel
theorem dX4_isTrue_34 : decode cX4_isTrue 34 = .ok (.getfield 10, 3) := by decide +kernel
theorem dX4_isTrue_37 : decode cX4_isTrue 37 = .ok (.getfield 170, 3) := by decide +kernel
theorem dX4_isTrue_40 : decode cX4_isTrue 40 = .ok (.invokevirtual 190, 3) := by decide +kernel
theorem dX4_isTrue_43 : decode cX4_isTrue 43 = .ok (.ifCond .eq 54, 3) := by decide +kernel
theorem dX4_isTrue_46 : decode cX4_isTrue 46 = .ok (.aload_n 0, 1) := by decide +kernel
theorem dX4_isTrue_47 : decode cX4_isTrue 47 = .ok (.getfield 10, 3) := by decide +kernel
theorem dX4_isTrue_50 : decode cX4_isTrue 50 = .ok (.getfield 170, 3) := by decide +kernel
theorem dX4_isTrue_53 : decode cX4_isTrue 53 = .ok (.aload_n 0, 1) := by decide +kernel
theorem dX4_isTrue_54 : decode cX4_isTrue 54 = .ok (.getfield 10, 3) := by decide +kernel
theorem dX4_isTrue_57 : decode cX4_isTrue 57 = .ok (.getfield 69, 3) := by decide +kernel
theorem dX4_isTrue_60 : decode cX4_isTrue 60 = .ok (.invokevirtual 190, 3) := by decide +kernel
theorem dX4_isTrue_63 : decode cX4_isTrue 63 = .ok (.ifCond .eq 34, 3) := by decide +kernel
theorem dX4_isTrue_66 : decode cX4_isTrue 66 = .ok (.aload_n 0, 1) := by decide +kernel
theorem dX4_isTrue_67 : decode cX4_isTrue 67 = .ok (.getfield 10, 3) := by decide +kernel
theorem dX4_isTrue_70 : decode cX4_isTrue 70 = .ok (.getfield 69, 3) := by decide +kernel
theorem dX4_isTrue_73 : decode cX4_isTrue 73 = .ok (.invokevirtual 72, 3) := by decide +kernel
theorem dX4_isTrue_76 : decode cX4_isTrue 76 = .ok (.aload_n 0, 1) := by decide +kernel
theorem dX4_isTrue_77 : decode cX4_isTrue 77 = .ok (.getfield 10, 3) := by decide +kernel
theorem dX4_isTrue_80 : decode cX4_isTrue 80 = .ok (.getfield 83, 3) := by decide +kernel
theorem dX4_isTrue_83 : decode cX4_isTrue 83 = .ok (.if_icmp .gt 14, 3) := by decide +kernel
theorem dX4_isTrue_86 : decode cX4_isTrue 86 = .ok (.aload_n 0, 1) := by decide +kernel
theorem dX4_isTrue_87 : decode cX4_isTrue 87 = .ok (.invokevirtual 194, 3) := by decide +kernel
theorem dX4_isTrue_90 : decode cX4_isTrue 90 = .ok (.ifCond .eq 7, 3) := by decide +kernel
theorem dX4_isTrue_93 : decode cX4_isTrue 93 = .ok (.iconst 1, 1) := by decide +kernel
theorem dX4_isTrue_94 : decode cX4_isTrue 94 = .ok (.goto 4, 3) := by decide +kernel
theorem dX4_isTrue_97 : decode cX4_isTrue 97 = .ok (.iconst 0, 1) := by decide +kernel
theorem dX4_isTrue_98 : decode cX4_isTrue 98 = .ok (.ireturn, 1) := by decide +kernel
set_option maxRecDepth 20000 in
theorem ggX4_checksum_X2_count : GoodIn wsX4_checksum wsX2_count := goodIn_r _ [9, 10, 39, 40, 41] (by decide +kernel) (by decide +kernel)
set_option maxRecDepth 20000 in
theorem gX4_checksum_X2_count : GoodIn wsX4_checksum (wsV RX4 72 RX2 yX2_count wsX2_count) := goodIn_app (goodIn_of _ (by decide +kernel)) ggX4_checksum_X2_count
set_option maxRecDepth 20000 in
theorem ggX4_checksum_X2_keyIn : GoodIn wsX4_checksum wsX2_keyIn := goodIn_r _ [14, 15, 16, 17, 18, 8, 19, 10, 39, 40, 41] (by decide +kernel) (by decide +kernel)
set_option maxRecDepth 20000 in
theorem gX4_checksum_X2_keyIn : GoodIn wsX4_checksum (wsV RX4 105 RX2 yX2_keyIn wsX2_keyIn) := goodIn_app (goodIn_of _ (by decide +kernel)) ggX4_checksum_X2_keyIn
set_option maxRecDepth 20000 in
theorem ggX4_checksum_X2_valueIn : GoodIn wsX4_checksum wsX2_valueIn := goodIn_r _ [23, 24, 16, 17, 18, 8, 19, 10, 15, 39, 40, 41] (by decide +kernel) (by decide +kernel)
set_option maxRecDepth 20000 in
theorem gX4_checksum_X2_valueIn : GoodIn wsX4_checksum (wsV RX4 111 RX2 yX2_valueIn wsX2_valueIn) := goodIn_app (goodIn_of _ (by decide +kernel)) ggX4_checksum_X2_valueIn
set_option maxRecDepth 20000 in
theorem ggX4_checksum_X1_kept : GoodIn wsX4_checksum wsX1_kept := goodIn_r _ [29, 30, 42, 43, 44] (by decide +kernel) (by decide +kernel)
set_option maxRecDepth 20000 in
theorem gX4_checksum_X1_kept : GoodIn wsX4_checksum (wsV RX4 176 RX1 yX1_kept wsX1_kept) := goodIn_app (goodIn_of _ (by decide +kernel)) ggX4_checksum_X1_kept
theorem dX4_checksum_0 : decode cX4_checksum 0 = .ok (.ldc2_w 197, 3) := by decide +kernel
theorem dX4_checksum_3 : decode cX4_checksum 3 = .ok (.lstore_n 1, 1) := by decide +kernel
theorem dX4_checksum_4 : decode cX4_checksum 4 = .ok (.iconst 0, 1) := by decide +kernel
theorem dX4_checksum_5 : decode cX4_checksum 5 = .ok (.istore_n 3, 1) := by decide +kernel
theorem dX4_checksum_6 : decode cX4_checksum 6 = .ok (.iload_n 3, 1) := by decide +kernel
theorem dX4_checksum_7 : decode cX4_checksum 7 = .ok (.aload_n 0, 1) := by decide +kernel
theorem dX4_checksum_8 : decode cX4_checksum 8 = .ok (.getfield 10, 3) := by decide +kernel
theorem dX4_checksum_11 : decode cX4_checksum 11 = .ok (.getfield 69, 3) := by decide +kernel
theorem dX4_checksum_14 : decode cX4_checksum 14 = .ok (.invokevirtual 72, 3) := by decide +kernel
theorem dX4_checksum_17 : decode cX4_checksum 17 = .ok (.if_icmp .ge 47, 3) := by decide +kernel
theorem dX4_checksum_20 : decode cX4_checksum 20 = .ok (.lload_n 1, 1) := by decide +kernel
theorem dX4_checksum_21 : decode cX4_checksum 21 = .ok (.ldc2_w 199, 3) := by decide +kernel
theorem dX4_checksum_24 : decode cX4_checksum 24 = .ok (.lmul, 1) := by decide +kernel
theorem dX4_checksum_25 : decode cX4_checksum 25 = .ok (.aload_n 0, 1) := by decide +kernel
theorem dX4_checksum_26 : decode cX4_checksum 26 = .ok (.getfield 10, 3) := by decide +kernel
theorem dX4_checksum_29 : decode cX4_checksum 29 = .ok (.getfield 69, 3) := by decide +kernel
theorem dX4_checksum_32 : decode cX4_checksum 32 = .ok (.iload_n 3, 1) := by decide +kernel
theorem dX4_checksum_33 : decode cX4_checksum 33 = .ok (.invokevirtual 105, 3) := by decide +kernel
theorem dX4_checksum_36 : decode cX4_checksum 36 = .ok (.i2l, 1) := by decide +kernel
theorem dX4_checksum_37 : decode cX4_checksum 37 = .ok (.ladd, 1) := by decide +kernel
theorem dX4_checksum_38 : decode cX4_checksum 38 = .ok (.lstore_n 1, 1) := by decide +kernel
theorem dX4_checksum_39 : decode cX4_checksum 39 = .ok (.lload_n 1, 1) := by decide +kernel
theorem dX4_checksum_40 : decode cX4_checksum 40 = .ok (.ldc2_w 199, 3) := by decide +kernel
theorem dX4_checksum_43 : decode cX4_checksum 43 = .ok (.lmul, 1) := by decide +kernel
theorem dX4_checksum_44 : decode cX4_checksum 44 = .ok (.aload_n 0, 1) := by decide +kernel
theorem dX4_checksum_45 : decode cX4_checksum 45 = .ok (.getfield 10, 3) := by decide +kernel
theorem dX4_checksum_48 : decode cX4_checksum 48 = .ok (.getfield 69, 3) := by decide +kernel
theorem dX4_checksum_51 : decode cX4_checksum 51 = .ok (.iload_n 3, 1) := by decide +kernel
theorem dX4_checksum_52 : decode cX4_checksum 52 = .ok (.invokevirtual 111, 3) := by decide +kernel
theorem dX4_checksum_55 : decode cX4_checksum 55 = .ok (.i2l, 1) := by decide +kernel
theorem dX4_checksum_56 : decode cX4_checksum 56 = .ok (.ladd, 1) := by decide +kernel
theorem dX4_checksum_57 : decode cX4_checksum 57 = .ok (.lstore_n 1, 1) := by decide +kernel
theorem dX4_checksum_58 : decode cX4_checksum 58 = .ok (.iinc 3 1, 3) := by decide +kernel
theorem dX4_checksum_61 : decode cX4_checksum 61 = .ok (.goto (-55), 3) := by decide +kernel
theorem dX4_checksum_64 : decode cX4_checksum 64 = .ok (.iconst 0, 1) := by decide +kernel
theorem dX4_checksum_65 : decode cX4_checksum 65 = .ok (.istore_n 3, 1) := by decide +kernel
theorem dX4_checksum_66 : decode cX4_checksum 66 = .ok (.iload_n 3, 1) := by decide +kernel
theorem dX4_checksum_67 : decode cX4_checksum 67 = .ok (.aload_n 0, 1) := by decide +kernel
theorem dX4_checksum_68 : decode cX4_checksum 68 = .ok (.getfield 10, 3) := by decide +kernel
theorem dX4_checksum_71 : decode cX4_checksum 71 = .ok (.getfield 170, 3) := by decide +kernel
theorem dX4_checksum_74 : decode cX4_checksum 74 = .ok (.invokevirtual 72, 3) := by decide +kernel
theorem dX4_checksum_77 : decode cX4_checksum 77 = .ok (.if_icmp .ge 28, 3) := by decide +kernel
theorem dX4_checksum_80 : decode cX4_checksum 80 = .ok (.lload_n 1, 1) := by decide +kernel
theorem dX4_checksum_81 : decode cX4_checksum 81 = .ok (.ldc2_w 199, 3) := by decide +kernel
theorem dX4_checksum_84 : decode cX4_checksum 84 = .ok (.lmul, 1) := by decide +kernel
theorem dX4_checksum_85 : decode cX4_checksum 85 = .ok (.aload_n 0, 1) := by decide +kernel
theorem dX4_checksum_86 : decode cX4_checksum 86 = .ok (.getfield 10, 3) := by decide +kernel
theorem dX4_checksum_89 : decode cX4_checksum 89 = .ok (.getfield 170, 3) := by decide +kernel
theorem dX4_checksum_92 : decode cX4_checksum 92 = .ok (.iload_n 3, 1) := by decide +kernel
theorem dX4_checksum_93 : decode cX4_checksum 93 = .ok (.invokevirtual 105, 3) := by decide +kernel
theorem dX4_checksum_96 : decode cX4_checksum 96 = .ok (.i2l, 1) := by decide +kernel
theorem dX4_checksum_97 : decode cX4_checksum 97 = .ok (.ladd, 1) := by decide +kernel
theorem dX4_checksum_98 : decode cX4_checksum 98 = .ok (.lstore_n 1, 1) := by decide +kernel
theorem dX4_checksum_99 : decode cX4_checksum 99 = .ok (.iinc 3 1, 3) := by decide +kernel
theorem dX4_checksum_102 : decode cX4_checksum 102 = .ok (.goto (-36), 3) := by decide +kernel
theorem dX4_checksum_105 : decode cX4_checksum 105 = .ok (.lload_n 1, 1) := by decide +kernel
theorem dX4_checksum_106 : decode cX4_checksum 106 = .ok (.ldc2_w 199, 3) := by decide +kernel
theorem dX4_checksum_109 : decode cX4_checksum 109 = .ok (.lmul, 1) := by decide +kernel
theorem dX4_checksum_110 : decode cX4_checksum 110 = .ok (.aload_n 0, 1) := by decide +kernel
theorem dX4_checksum_111 : decode cX4_checksum 111 = .ok (.getfield 10, 3) := by decide +kernel
theorem dX4_checksum_114 : decode cX4_checksum 114 = .ok (.getfield 83, 3) := by decide +kernel
theorem dX4_checksum_117 : decode cX4_checksum 117 = .ok (.i2l, 1) := by decide +kernel
theorem dX4_checksum_118 : decode cX4_checksum 118 = .ok (.ladd, 1) := by decide +kernel
theorem dX4_checksum_119 : decode cX4_checksum 119 = .ok (.lstore_n 1, 1) := by decide +kernel
theorem dX4_checksum_120 : decode cX4_checksum 120 = .ok (.lload_n 1, 1) := by decide +kernel
theorem dX4_checksum_121 : decode cX4_checksum 121 = .ok (.ldc2_w 199, 3) := by decide +kernel
theorem dX4_checksum_124 : decode cX4_checksum 124 = .ok (.lmul, 1) := by decide +kernel
theorem dX4_checksum_125 : decode cX4_checksum 125 = .ok (.aload_n 0, 1) := by decide +kernel
theorem dX4_checksum_126 : decode cX4_checksum 126 = .ok (.getfield 10, 3) := by decide +kernel
theorem dX4_checksum_129 : decode cX4_checksum 129 = .ok (.getfield 94, 3) := by decide +kernel
theorem dX4_checksum_132 : decode cX4_checksum 132 = .ok (.i2l, 1) := by decide +kernel
theorem dX4_checksum_133 : decode cX4_checksum 133 = .ok (.ladd, 1) := by decide +kernel
theorem dX4_checksum_134 : decode cX4_checksum 134 = .ok (.lstore_n 1, 1) := by decide +kernel
theorem dX4_checksum_135 : decode cX4_checksum 135 = .ok (.lload_n 1, 1) := by decide +kernel
theorem dX4_checksum_136 : decode cX4_checksum 136 = .ok (.ldc2_w 199, 3) := by decide +kernel
theorem dX4_checksum_139 : decode cX4_checksum 139 = .ok (.lmul, 1) := by decide +kernel
theorem dX4_checksum_140 : decode cX4_checksum 140 = .ok (.aload_n 0, 1) := by decide +kernel
theorem dX4_checksum_141 : decode cX4_checksum 141 = .ok (.getfield 19, 3) := by decide +kernel
theorem dX4_checksum_144 : decode cX4_checksum 144 = .ok (.invokevirtual 176, 3) := by decide +kernel
theorem dX4_checksum_147 : decode cX4_checksum 147 = .ok (.i2l, 1) := by decide +kernel
theorem dX4_checksum_148 : decode cX4_checksum 148 = .ok (.ladd, 1) := by decide +kernel
theorem dX4_checksum_149 : decode cX4_checksum 149 = .ok (.lreturn, 1) := by decide +kernel
set_option maxRecDepth 20000 in
theorem ggX4_beginChange_X3_end : GoodIn wsX4_beginChange wsX3_end := goodIn_r _ [8, 9, 59, 60, 61, 62] (by decide +kernel) (by decide +kernel)
set_option maxRecDepth 20000 in
theorem gX4_beginChange_X3_end : GoodIn wsX4_beginChange (wsV RX4 181 RX3 yX3_end wsX3_end) := goodIn_app (goodIn_of _ (by decide +kernel)) ggX4_beginChange_X3_end
set_option maxRecDepth 20000 in
theorem ggX4_beginChange_X1_keep : GoodIn wsX4_beginChange wsX1_keep := goodIn_r _ [14, 15, 16, 17, 18, 19, 20, 21, 22, 23, 24, 25, 26, 27, 28, 29, 30, 31, 32, 33, 34, 35, 36, 37, 38, 39, 40, 41, 42, 43, 44, 45, 46, 47, 48, 49, 50, 51, 52, 53, 54, 63, 64, 65, 66, 67, 68, 69, 70, 71, 72] (by decide +kernel) (by decide +kernel)
set_option maxRecDepth 20000 in
theorem gX4_beginChange_X1_keep : GoodIn wsX4_beginChange (wsV RX4 155 RX1 yX1_keep wsX1_keep) := goodIn_app (goodIn_of _ (by decide +kernel)) ggX4_beginChange_X1_keep
theorem dX4_beginChange_0 : decode cX4_beginChange 0 = .ok (.aload_n 0, 1) := by decide +kernel
theorem dX4_beginChange_1 : decode cX4_beginChange 1 = .ok (.getfield 26, 3) := by decide +kernel
theorem dX4_beginChange_4 : decode cX4_beginChange 4 = .ok (.invokevirtual 181, 3) := by decide +kernel
theorem dX4_beginChange_7 : decode cX4_beginChange 7 = .ok (.aload_n 0, 1) := by decide +kernel
theorem dX4_beginChange_8 : decode cX4_beginChange 8 = .ok (.getfield 19, 3) := by decide +kernel
theorem dX4_beginChange_11 : decode cX4_beginChange 11 = .ok (.aload_n 0, 1) := by decide +kernel
theorem dX4_beginChange_12 : decode cX4_beginChange 12 = .ok (.getfield 10, 3) := by decide +kernel
theorem dX4_beginChange_15 : decode cX4_beginChange 15 = .ok (.invokevirtual 155, 3) := by decide +kernel
theorem dX4_beginChange_18 : decode cX4_beginChange 18 = .ok (.return_, 1) := by decide +kernel
set_option maxRecDepth 20000 in
theorem ggX4_movesGiveAsking_X2_become : GoodIn wsX4_movesGiveAsking wsX2_become := goodIn_r _ [7, 8, 9, 10, 11, 6, 12, 13, 14, 15, 16, 17, 18, 19, 20, 21, 22, 23, 24, 25, 26, 66, 67, 68] (by decide +kernel) (by decide +kernel)
set_option maxRecDepth 20000 in
theorem gX4_movesGiveAsking_X2_become : GoodIn wsX4_movesGiveAsking (wsV RX4 201 RX2 yX2_become wsX2_become) := goodIn_app (goodIn_of _ (by decide +kernel)) ggX4_movesGiveAsking_X2_become
set_option maxRecDepth 20000 in
theorem ggX4_movesGiveAsking_X0_staying : GoodIn wsX4_movesGiveAsking wsX0_staying := goodIn_r _ [31, 32, 33, 34, 35, 36, 6, 37, 8, 38, 10, 11, 12, 13, 14, 15, 16, 17, 39, 40, 41, 42, 9, 62, 63, 64, 65, 66, 67, 68] (by decide +kernel) (by decide +kernel)
set_option maxRecDepth 20000 in
theorem gX4_movesGiveAsking_X0_staying : GoodIn wsX4_movesGiveAsking (wsV RX4 162 RX0 yX0_staying wsX0_staying) := goodIn_app (goodIn_of _ (by decide +kernel)) ggX4_movesGiveAsking_X0_staying
set_option maxRecDepth 20000 in
theorem ggX4_movesGiveAsking_X2_count : GoodIn wsX4_movesGiveAsking wsX2_count := goodIn_r _ [37, 8, 66, 67, 68] (by decide +kernel) (by decide +kernel)
set_option maxRecDepth 20000 in
theorem gX4_movesGiveAsking_X2_count : GoodIn wsX4_movesGiveAsking (wsV RX4 72 RX2 yX2_count wsX2_count) := goodIn_app (goodIn_of _ (by decide +kernel)) ggX4_movesGiveAsking_X2_count
set_option maxRecDepth 20000 in
theorem ggX4_movesGiveAsking_X2_keyIn : GoodIn wsX4_movesGiveAsking wsX2_keyIn := goodIn_r _ [12, 13, 14, 15, 16, 6, 17, 8, 66, 67, 68] (by decide +kernel) (by decide +kernel)
set_option maxRecDepth 20000 in
theorem gX4_movesGiveAsking_X2_keyIn : GoodIn wsX4_movesGiveAsking (wsV RX4 105 RX2 yX2_keyIn wsX2_keyIn) := goodIn_app (goodIn_of _ (by decide +kernel)) ggX4_movesGiveAsking_X2_keyIn
set_option maxRecDepth 20000 in
theorem ggX4_movesGiveAsking_X2_find : GoodIn wsX4_movesGiveAsking wsX2_find := goodIn_r _ [42, 8, 9, 10, 11, 6, 12, 13, 14, 15, 16, 17, 66, 67, 68] (by decide +kernel) (by decide +kernel)
set_option maxRecDepth 20000 in
theorem gX4_movesGiveAsking_X2_find : GoodIn wsX4_movesGiveAsking (wsV RX4 108 RX2 yX2_find wsX2_find) := goodIn_app (goodIn_of _ (by decide +kernel)) ggX4_movesGiveAsking_X2_find
set_option maxRecDepth 20000 in
theorem ggX4_movesGiveAsking_X2_putLast : GoodIn wsX4_movesGiveAsking wsX2_putLast := goodIn_r _ [49, 13, 22, 14, 15, 16, 6, 17, 8, 50, 51, 52, 53, 23, 24, 25, 26, 66, 67, 68] (by decide +kernel) (by decide +kernel)
set_option maxRecDepth 20000 in
theorem gX4_movesGiveAsking_X2_putLast : GoodIn wsX4_movesGiveAsking (wsV RX4 205 RX2 yX2_putLast wsX2_putLast) := goodIn_app (goodIn_of _ (by decide +kernel)) ggX4_movesGiveAsking_X2_putLast
set_option maxRecDepth 20000 in
theorem ggX4_movesGiveAsking_X2_sameAs : GoodIn wsX4_movesGiveAsking wsX2_sameAs := goodIn_r _ [57, 8, 9, 10, 11, 6, 12, 13, 14, 15, 16, 17, 18, 19, 20, 21, 22, 66, 67, 68] (by decide +kernel) (by decide +kernel)
set_option maxRecDepth 20000 in
theorem gX4_movesGiveAsking_X2_sameAs : GoodIn wsX4_movesGiveAsking (wsV RX4 208 RX2 yX2_sameAs wsX2_sameAs) := goodIn_app (goodIn_of _ (by decide +kernel)) ggX4_movesGiveAsking_X2_sameAs
theorem dX4_movesGiveAsking_0 : decode cX4_movesGiveAsking 0 = .ok (.aload_n 0, 1) := by decide +kernel
theorem dX4_movesGiveAsking_1 : decode cX4_movesGiveAsking 1 = .ok (.getfield 33, 3) := by decide +kernel
theorem dX4_movesGiveAsking_4 : decode cX4_movesGiveAsking 4 = .ok (.aload_n 0, 1) := by decide +kernel
theorem dX4_movesGiveAsking_5 : decode cX4_movesGiveAsking 5 = .ok (.getfield 10, 3) := by decide +kernel
theorem dX4_movesGiveAsking_8 : decode cX4_movesGiveAsking 8 = .ok (.getfield 69, 3) := by decide +kernel
theorem dX4_movesGiveAsking_11 : decode cX4_movesGiveAsking 11 = .ok (.invokevirtual 201, 3) := by decide +kernel
theorem dX4_movesGiveAsking_14 : decode cX4_movesGiveAsking 14 = .ok (.aload_n 0, 1) := by decide +kernel
theorem dX4_movesGiveAsking_15 : decode cX4_movesGiveAsking 15 = .ok (.getfield 10, 3) := by decide +kernel
theorem dX4_movesGiveAsking_18 : decode cX4_movesGiveAsking 18 = .ok (.invokevirtual 162, 3) := by decide +kernel
theorem dX4_movesGiveAsking_21 : decode cX4_movesGiveAsking 21 = .ok (.istore_n 1, 1) := by decide +kernel
theorem dX4_movesGiveAsking_22 : decode cX4_movesGiveAsking 22 = .ok (.iload_n 1, 1) := by decide +kernel
theorem dX4_movesGiveAsking_23 : decode cX4_movesGiveAsking 23 = .ok (.aload_n 0, 1) := by decide +kernel
theorem dX4_movesGiveAsking_24 : decode cX4_movesGiveAsking 24 = .ok (.getfield 10, 3) := by decide +kernel
theorem dX4_movesGiveAsking_27 : decode cX4_movesGiveAsking 27 = .ok (.getfield 170, 3) := by decide +kernel
theorem dX4_movesGiveAsking_30 : decode cX4_movesGiveAsking 30 = .ok (.invokevirtual 72, 3) := by decide +kernel
theorem dX4_movesGiveAsking_33 : decode cX4_movesGiveAsking 33 = .ok (.if_icmp .ge 34, 3) := by decide +kernel
theorem dX4_movesGiveAsking_36 : decode cX4_movesGiveAsking 36 = .ok (.aload_n 0, 1) := by decide +kernel
theorem dX4_movesGiveAsking_37 : decode cX4_movesGiveAsking 37 = .ok (.getfield 33, 3) := by decide +kernel
theorem dX4_movesGiveAsking_40 : decode cX4_movesGiveAsking 40 = .ok (.aload_n 0, 1) := by decide +kernel
theorem dX4_movesGiveAsking_41 : decode cX4_movesGiveAsking 41 = .ok (.getfield 33, 3) := by decide +kernel
theorem dX4_movesGiveAsking_44 : decode cX4_movesGiveAsking 44 = .ok (.aload_n 0, 1) := by decide +kernel
theorem dX4_movesGiveAsking_45 : decode cX4_movesGiveAsking 45 = .ok (.getfield 10, 3) := by decide +kernel
theorem dX4_movesGiveAsking_48 : decode cX4_movesGiveAsking 48 = .ok (.getfield 170, 3) := by decide +kernel
theorem dX4_movesGiveAsking_51 : decode cX4_movesGiveAsking 51 = .ok (.iload_n 1, 1) := by decide +kernel
theorem dX4_movesGiveAsking_52 : decode cX4_movesGiveAsking 52 = .ok (.invokevirtual 105, 3) := by decide +kernel
theorem dX4_movesGiveAsking_55 : decode cX4_movesGiveAsking 55 = .ok (.invokevirtual 108, 3) := by decide +kernel
theorem dX4_movesGiveAsking_58 : decode cX4_movesGiveAsking 58 = .ok (.invokevirtual 205, 3) := by decide +kernel
theorem dX4_movesGiveAsking_61 : decode cX4_movesGiveAsking 61 = .ok (.iinc 1 1, 3) := by decide +kernel
theorem dX4_movesGiveAsking_64 : decode cX4_movesGiveAsking 64 = .ok (.goto (-42), 3) := by decide +kernel
theorem dX4_movesGiveAsking_67 : decode cX4_movesGiveAsking 67 = .ok (.aload_n 0, 1) := by decide +kernel
theorem dX4_movesGiveAsking_68 : decode cX4_movesGiveAsking 68 = .ok (.getfield 33, 3) := by decide +kernel
theorem dX4_movesGiveAsking_71 : decode cX4_movesGiveAsking 71 = .ok (.aload_n 0, 1) := by decide +kernel
theorem dX4_movesGiveAsking_72 : decode cX4_movesGiveAsking 72 = .ok (.getfield 10, 3) := by decide +kernel
theorem dX4_movesGiveAsking_75 : decode cX4_movesGiveAsking 75 = .ok (.getfield 170, 3) := by decide +kernel
theorem dX4_movesGiveAsking_78 : decode cX4_movesGiveAsking 78 = .ok (.invokevirtual 208, 3) := by decide +kernel
theorem dX4_movesGiveAsking_81 : decode cX4_movesGiveAsking 81 = .ok (.ireturn, 1) := by decide +kernel
theorem dX4_refuseKeyOutOfRange_0 : decode cX4_refuseKeyOutOfRange 0 = .ok (.iload_n 1, 1) := by decide +kernel
theorem dX4_refuseKeyOutOfRange_1 : decode cX4_refuseKeyOutOfRange 1 = .ok (.ifCond .lt 9, 3) := by decide +kernel
theorem dX4_refuseKeyOutOfRange_4 : decode cX4_refuseKeyOutOfRange 4 = .ok (.iload_n 1, 1) := by decide +kernel
theorem dX4_refuseKeyOutOfRange_5 : decode cX4_refuseKeyOutOfRange 5 = .ok (.bipush 100, 2) := by decide +kernel
theorem dX4_refuseKeyOutOfRange_7 : decode cX4_refuseKeyOutOfRange 7 = .ok (.if_icmp .lt 13, 3) := by decide +kernel
theorem dX4_refuseKeyOutOfRange_10 : decode cX4_refuseKeyOutOfRange 10 = .ok (.new 76, 3) := by decide +kernel
theorem dX4_refuseKeyOutOfRange_13 : decode cX4_refuseKeyOutOfRange 13 = .ok (.dup, 1) := by decide +kernel
theorem dX4_refuseKeyOutOfRange_14 : decode cX4_refuseKeyOutOfRange 14 = .ok (.ldc 211, 2) := by decide +kernel
theorem dX4_refuseKeyOutOfRange_16 : decode cX4_refuseKeyOutOfRange 16 = .ok (.invokespecial 80, 3) := by decide +kernel
theorem dX4_refuseKeyOutOfRange_19 : decode cX4_refuseKeyOutOfRange 19 = .ok (.athrow, 1) := by decide +kernel
theorem dX4_refuseKeyOutOfRange_20 : decode cX4_refuseKeyOutOfRange 20 = .ok (.return_, 1) := by decide +kernel
set_option maxRecDepth 20000 in
theorem ggX4_refuseAbsentKey_X0_holds : GoodIn wsX4_refuseAbsentKey wsX0_holds := goodIn_r _ [8, 9, 10, 11, 12, 13, 14, 15, 16, 17, 18, 19, 20, 21, 22, 23, 24, 29, 30, 31, 32, 33, 34, 35] (by decide +kernel) (by decide +kernel)
set_option maxRecDepth 20000 in
theorem gX4_refuseAbsentKey_X0_holds : GoodIn wsX4_refuseAbsentKey (wsV RX4 44 RX0 yX0_holds wsX0_holds) := goodIn_app (goodIn_of _ (by decide +kernel)) ggX4_refuseAbsentKey_X0_holds
theorem dX4_refuseAbsentKey_0 : decode cX4_refuseAbsentKey 0 = .ok (.aload_n 0, 1) := by decide +kernel
theorem dX4_refuseAbsentKey_1 : decode cX4_refuseAbsentKey 1 = .ok (.getfield 10, 3) := by decide +kernel
theorem dX4_refuseAbsentKey_4 : decode cX4_refuseAbsentKey 4 = .ok (.iload_n 1, 1) := by decide +kernel
theorem dX4_refuseAbsentKey_5 : decode cX4_refuseAbsentKey 5 = .ok (.invokevirtual 44, 3) := by decide +kernel
theorem dX4_refuseAbsentKey_8 : decode cX4_refuseAbsentKey 8 = .ok (.ifCond .ne 13, 3) := by decide +kernel
theorem dX4_refuseAbsentKey_11 : decode cX4_refuseAbsentKey 11 = .ok (.new 142, 3) := by decide +kernel
theorem dX4_refuseAbsentKey_14 : decode cX4_refuseAbsentKey 14 = .ok (.dup, 1) := by decide +kernel
theorem dX4_refuseAbsentKey_15 : decode cX4_refuseAbsentKey 15 = .ok (.ldc 213, 2) := by decide +kernel
theorem dX4_refuseAbsentKey_17 : decode cX4_refuseAbsentKey 17 = .ok (.invokespecial 146, 3) := by decide +kernel
theorem dX4_refuseAbsentKey_20 : decode cX4_refuseAbsentKey 20 = .ok (.athrow, 1) := by decide +kernel
theorem dX4_refuseAbsentKey_21 : decode cX4_refuseAbsentKey 21 = .ok (.return_, 1) := by decide +kernel
theorem dX4_refuseUnknownOrder_0 : decode cX4_refuseUnknownOrder 0 = .ok (.iload_n 1, 1) := by decide +kernel
theorem dX4_refuseUnknownOrder_1 : decode cX4_refuseUnknownOrder 1 = .ok (.bipush 99, 2) := by decide +kernel
theorem dX4_refuseUnknownOrder_3 : decode cX4_refuseUnknownOrder 3 = .ok (.if_icmp .eq 19, 3) := by decide +kernel
theorem dX4_refuseUnknownOrder_6 : decode cX4_refuseUnknownOrder 6 = .ok (.iload_n 1, 1) := by decide +kernel
theorem dX4_refuseUnknownOrder_7 : decode cX4_refuseUnknownOrder 7 = .ok (.bipush 97, 2) := by decide +kernel
theorem dX4_refuseUnknownOrder_9 : decode cX4_refuseUnknownOrder 9 = .ok (.if_icmp .eq 13, 3) := by decide +kernel
theorem dX4_refuseUnknownOrder_12 : decode cX4_refuseUnknownOrder 12 = .ok (.new 76, 3) := by decide +kernel
theorem dX4_refuseUnknownOrder_15 : decode cX4_refuseUnknownOrder 15 = .ok (.dup, 1) := by decide +kernel
theorem dX4_refuseUnknownOrder_16 : decode cX4_refuseUnknownOrder 16 = .ok (.ldc 215, 2) := by decide +kernel
theorem dX4_refuseUnknownOrder_18 : decode cX4_refuseUnknownOrder 18 = .ok (.invokespecial 80, 3) := by decide +kernel
theorem dX4_refuseUnknownOrder_21 : decode cX4_refuseUnknownOrder 21 = .ok (.athrow, 1) := by decide +kernel
theorem dX4_refuseUnknownOrder_22 : decode cX4_refuseUnknownOrder 22 = .ok (.return_, 1) := by decide +kernel
set_option maxRecDepth 20000 in
theorem ggX4_refuseUnknownPlace_X2_holdsPlace : GoodIn wsX4_refuseUnknownPlace wsX2_holdsPlace := goodIn_r _ [8, 9, 10, 19, 20, 21] (by decide +kernel) (by decide +kernel)
set_option maxRecDepth 20000 in
theorem gX4_refuseUnknownPlace_X2_holdsPlace : GoodIn wsX4_refuseUnknownPlace (wsV RX4 139 RX2 yX2_holdsPlace wsX2_holdsPlace) := goodIn_app (goodIn_of _ (by decide +kernel)) ggX4_refuseUnknownPlace_X2_holdsPlace
theorem dX4_refuseUnknownPlace_0 : decode cX4_refuseUnknownPlace 0 = .ok (.aload_n 0, 1) := by decide +kernel
theorem dX4_refuseUnknownPlace_1 : decode cX4_refuseUnknownPlace 1 = .ok (.getfield 10, 3) := by decide +kernel
theorem dX4_refuseUnknownPlace_4 : decode cX4_refuseUnknownPlace 4 = .ok (.getfield 69, 3) := by decide +kernel
theorem dX4_refuseUnknownPlace_7 : decode cX4_refuseUnknownPlace 7 = .ok (.iload_n 1, 1) := by decide +kernel
theorem dX4_refuseUnknownPlace_8 : decode cX4_refuseUnknownPlace 8 = .ok (.invokevirtual 139, 3) := by decide +kernel
theorem dX4_refuseUnknownPlace_11 : decode cX4_refuseUnknownPlace 11 = .ok (.ifCond .ne 13, 3) := by decide +kernel
theorem dX4_refuseUnknownPlace_14 : decode cX4_refuseUnknownPlace 14 = .ok (.new 165, 3) := by decide +kernel
theorem dX4_refuseUnknownPlace_17 : decode cX4_refuseUnknownPlace 17 = .ok (.dup, 1) := by decide +kernel
theorem dX4_refuseUnknownPlace_18 : decode cX4_refuseUnknownPlace 18 = .ok (.ldc 217, 2) := by decide +kernel
theorem dX4_refuseUnknownPlace_20 : decode cX4_refuseUnknownPlace 20 = .ok (.invokespecial 169, 3) := by decide +kernel
theorem dX4_refuseUnknownPlace_23 : decode cX4_refuseUnknownPlace 23 = .ok (.athrow, 1) := by decide +kernel
theorem dX4_refuseUnknownPlace_24 : decode cX4_refuseUnknownPlace 24 = .ok (.return_, 1) := by decide +kernel

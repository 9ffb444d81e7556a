set_option maxRecDepth 20000 in
theorem ggL_put_X4_put : GoodIn wsL_put wsX4_put := goodIn_ca (goodIn_r _ [6, 7, 8, 9, 10, 5, 11, 12, 13, 14, 15, 16, 17, 18, 19, 20, 21, 22, 23, 24, 25, 26, 27, 28, 29, 30, 31, 32, 33, 34, 35, 36, 37, 38, 39, 40, 41, 42, 43, 44, 45, 46, 47, 48, 49, 50, 51, 52, 53, 54, 55, 56, 57, 58, 59, 60, 61, 62, 63, 64, 65, 66, 67, 68, 69, 70, 71, 72, 73, 74, 75, 76, 77, 78, 79, 80, 81, 82, 83, 84, 85, 86, 87, 88, 89, 90, 91, 92, 93, 94, 95, 96, 97, 98, 99, 100, 101, 102, 103, 104, 105, 106, 107, 108, 109, 110, 111, 112, 113, 114, 115, 116, 117, 118, 119, 120, 121, 122, 123, 124, 125, 126, 127, 128, 129, 130, 131, 132, 133, 134, 135, 136, 137, 138, 139] (by decide +kernel) (by decide +kernel)) (goodIn_sub (fun _ h => List.mem_cons_of_mem _ (List.mem_append_right _ h)) (by decide +kernel))
set_option maxRecDepth 20000 in
theorem gL_put_X4_put : GoodIn wsL_put (wsV RL 7 RX4 yX4_put wsX4_put) := goodIn_app (goodIn_of _ (by decide +kernel)) ggL_put_X4_put
theorem dL_put_0 : decode cL_put 0 = .ok (.aload_n 3, 1) := by decide +kernel
theorem dL_put_1 : decode cL_put 1 = .ok (.iconst 0, 1) := by decide +kernel
theorem dL_put_2 : decode cL_put 2 = .ok (.aload_n 0, 1) := by decide +kernel
theorem dL_put_3 : decode cL_put 3 = .ok (.iload_n 1, 1) := by decide +kernel
theorem dL_put_4 : decode cL_put 4 = .ok (.iload_n 2, 1) := by decide +kernel
theorem dL_put_5 : decode cL_put 5 = .ok (.invokevirtual 7, 3) := by decide +kernel
theorem dL_put_8 : decode cL_put 8 = .ok (.i2l, 1) := by decide +kernel
theorem dL_put_9 : decode cL_put 9 = .ok (.lastore, 1) := by decide +kernel
theorem dL_put_10 : decode cL_put 10 = .ok (.goto 7, 3) := by decide +kernel
theorem dL_put_13 : decode cL_put 13 = .ok (.astore 4, 2) := by decide +kernel
theorem dL_put_15 : decode cL_put 15 = .ok (.iconst 1, 1) := by decide +kernel
theorem dL_put_16 : decode cL_put 16 = .ok (.ireturn, 1) := by decide +kernel
theorem dL_put_17 : decode cL_put 17 = .ok (.iconst 0, 1) := by decide +kernel
theorem dL_put_18 : decode cL_put 18 = .ok (.ireturn, 1) := by decide +kernel
set_option maxRecDepth 20000 in
theorem ggL_putIfAbsent_X4_putIfAbsent : GoodIn wsL_putIfAbsent wsX4_putIfAbsent := goodIn_ca (goodIn_r _ [6, 7, 8, 9, 10, 5, 11, 12, 13, 14, 15, 16, 17, 18, 19, 20, 21, 22, 23, 24, 25, 26, 27, 28, 29, 30, 31, 32, 33, 34, 35, 36, 37, 38, 39, 40, 41, 42, 43, 44, 45, 46, 47, 48, 49, 50, 51, 52, 53, 54, 55, 56, 57, 58, 59, 60, 61, 62, 63, 64, 65, 66, 67, 68, 69, 70, 71, 72, 73, 74, 75, 76, 77, 78, 79, 80, 81, 82, 83, 84, 85, 86, 87, 88, 89, 90, 91, 92, 93, 94, 95, 96, 97, 98, 99, 100, 101, 102, 103, 104, 105, 106, 107, 108, 109, 110, 111, 112, 113, 114, 115, 116, 117, 118, 119, 120, 121, 122, 123, 124, 125, 126, 127, 128, 129, 130, 131] (by decide +kernel) (by decide +kernel)) (goodIn_sub (fun _ h => List.mem_cons_of_mem _ (List.mem_append_right _ h)) (by decide +kernel))
set_option maxRecDepth 20000 in
theorem gL_putIfAbsent_X4_putIfAbsent : GoodIn wsL_putIfAbsent (wsV RL 15 RX4 yX4_putIfAbsent wsX4_putIfAbsent) := goodIn_app (goodIn_of _ (by decide +kernel)) ggL_putIfAbsent_X4_putIfAbsent
theorem dL_putIfAbsent_0 : decode cL_putIfAbsent 0 = .ok (.aload_n 3, 1) := by decide +kernel
theorem dL_putIfAbsent_1 : decode cL_putIfAbsent 1 = .ok (.iconst 0, 1) := by decide +kernel
theorem dL_putIfAbsent_2 : decode cL_putIfAbsent 2 = .ok (.aload_n 0, 1) := by decide +kernel
theorem dL_putIfAbsent_3 : decode cL_putIfAbsent 3 = .ok (.iload_n 1, 1) := by decide +kernel
theorem dL_putIfAbsent_4 : decode cL_putIfAbsent 4 = .ok (.iload_n 2, 1) := by decide +kernel
theorem dL_putIfAbsent_5 : decode cL_putIfAbsent 5 = .ok (.invokevirtual 15, 3) := by decide +kernel
theorem dL_putIfAbsent_8 : decode cL_putIfAbsent 8 = .ok (.ifCond .eq 7, 3) := by decide +kernel
theorem dL_putIfAbsent_11 : decode cL_putIfAbsent 11 = .ok (.lconst 1, 1) := by decide +kernel
theorem dL_putIfAbsent_12 : decode cL_putIfAbsent 12 = .ok (.goto 4, 3) := by decide +kernel
theorem dL_putIfAbsent_15 : decode cL_putIfAbsent 15 = .ok (.lconst 0, 1) := by decide +kernel
theorem dL_putIfAbsent_16 : decode cL_putIfAbsent 16 = .ok (.lastore, 1) := by decide +kernel
theorem dL_putIfAbsent_17 : decode cL_putIfAbsent 17 = .ok (.goto 7, 3) := by decide +kernel
theorem dL_putIfAbsent_20 : decode cL_putIfAbsent 20 = .ok (.astore 4, 2) := by decide +kernel
theorem dL_putIfAbsent_22 : decode cL_putIfAbsent 22 = .ok (.iconst 1, 1) := by decide +kernel
theorem dL_putIfAbsent_23 : decode cL_putIfAbsent 23 = .ok (.ireturn, 1) := by decide +kernel
theorem dL_putIfAbsent_24 : decode cL_putIfAbsent 24 = .ok (.iconst 0, 1) := by decide +kernel
theorem dL_putIfAbsent_25 : decode cL_putIfAbsent 25 = .ok (.ireturn, 1) := by decide +kernel
set_option maxRecDepth 20000 in
theorem ggL_get_X4_get : GoodIn wsL_get wsX4_get := goodIn_ca (goodIn_r _ [6, 7, 8, 9, 10, 5, 11, 12, 13, 14, 15, 16, 17, 18, 19, 20, 21, 22, 23, 24, 25, 26, 27, 28, 29, 30, 31, 32, 33, 34, 35, 36, 37, 38, 39, 40, 41, 42, 43, 44, 45, 46, 47, 48, 49, 50, 51, 52, 53, 54, 55, 56, 57, 58, 59, 60, 61, 62, 63, 64, 65, 66, 67, 68, 69, 70, 71, 72, 73, 74, 75, 76, 77, 78, 79, 80, 81, 82, 83, 84, 85, 86, 87, 88, 89, 90, 91, 92, 93, 94, 95, 96, 97, 98, 99, 100, 101, 102, 103, 104, 105, 106, 107, 108, 109, 110, 111, 112, 113] (by decide +kernel) (by decide +kernel)) (goodIn_sub (fun _ h => List.mem_cons_of_mem _ (List.mem_append_right _ h)) (by decide +kernel))
set_option maxRecDepth 20000 in
theorem gL_get_X4_get : GoodIn wsL_get (wsV RL 19 RX4 yX4_get wsX4_get) := goodIn_app (goodIn_of _ (by decide +kernel)) ggL_get_X4_get
theorem dL_get_0 : decode cL_get 0 = .ok (.aload_n 2, 1) := by decide +kernel
theorem dL_get_1 : decode cL_get 1 = .ok (.iconst 0, 1) := by decide +kernel
theorem dL_get_2 : decode cL_get 2 = .ok (.aload_n 0, 1) := by decide +kernel
theorem dL_get_3 : decode cL_get 3 = .ok (.iload_n 1, 1) := by decide +kernel
theorem dL_get_4 : decode cL_get 4 = .ok (.invokevirtual 19, 3) := by decide +kernel
theorem dL_get_7 : decode cL_get 7 = .ok (.i2l, 1) := by decide +kernel
theorem dL_get_8 : decode cL_get 8 = .ok (.lastore, 1) := by decide +kernel
theorem dL_get_9 : decode cL_get 9 = .ok (.goto 6, 3) := by decide +kernel
theorem dL_get_12 : decode cL_get 12 = .ok (.astore_n 3, 1) := by decide +kernel
theorem dL_get_13 : decode cL_get 13 = .ok (.iconst 1, 1) := by decide +kernel
theorem dL_get_14 : decode cL_get 14 = .ok (.ireturn, 1) := by decide +kernel
theorem dL_get_15 : decode cL_get 15 = .ok (.iconst 0, 1) := by decide +kernel
theorem dL_get_16 : decode cL_get 16 = .ok (.ireturn, 1) := by decide +kernel
set_option maxRecDepth 20000 in
theorem ggL_look_X4_look : GoodIn wsL_look wsX4_look := goodIn_ca (goodIn_r _ [6, 7, 8, 9, 10, 5, 11, 12, 13, 14, 15, 16, 17, 18, 19, 20, 21, 22, 23, 24, 25, 26, 27, 28, 29, 30, 31, 32, 33, 34, 35, 36, 37, 38, 39, 40, 41, 42, 43, 44, 45, 46, 47, 48, 49, 50, 51, 52, 53, 54] (by decide +kernel) (by decide +kernel)) (goodIn_sub (fun _ h => List.mem_cons_of_mem _ (List.mem_append_right _ h)) (by decide +kernel))
set_option maxRecDepth 20000 in
theorem gL_look_X4_look : GoodIn wsL_look (wsV RL 25 RX4 yX4_look wsX4_look) := goodIn_app (goodIn_of _ (by decide +kernel)) ggL_look_X4_look
theorem dL_look_0 : decode cL_look 0 = .ok (.aload_n 2, 1) := by decide +kernel
theorem dL_look_1 : decode cL_look 1 = .ok (.iconst 0, 1) := by decide +kernel
theorem dL_look_2 : decode cL_look 2 = .ok (.aload_n 0, 1) := by decide +kernel
theorem dL_look_3 : decode cL_look 3 = .ok (.iload_n 1, 1) := by decide +kernel
theorem dL_look_4 : decode cL_look 4 = .ok (.invokevirtual 25, 3) := by decide +kernel
theorem dL_look_7 : decode cL_look 7 = .ok (.i2l, 1) := by decide +kernel
theorem dL_look_8 : decode cL_look 8 = .ok (.lastore, 1) := by decide +kernel
theorem dL_look_9 : decode cL_look 9 = .ok (.goto 6, 3) := by decide +kernel
theorem dL_look_12 : decode cL_look 12 = .ok (.astore_n 3, 1) := by decide +kernel
theorem dL_look_13 : decode cL_look 13 = .ok (.iconst 1, 1) := by decide +kernel
theorem dL_look_14 : decode cL_look 14 = .ok (.ireturn, 1) := by decide +kernel
theorem dL_look_15 : decode cL_look 15 = .ok (.iconst 0, 1) := by decide +kernel
theorem dL_look_16 : decode cL_look 16 = .ok (.ireturn, 1) := by decide +kernel
set_option maxRecDepth 20000 in
theorem ggL_remove_X4_remove : GoodIn wsL_remove wsX4_remove := goodIn_ca (goodIn_r _ [6, 7, 8, 9, 10, 5, 11, 12, 13, 14, 15, 16, 17, 18, 19, 20, 21, 22, 23, 24, 25, 26, 27, 28, 29, 30, 31, 32, 33, 34, 35, 36, 37, 38, 39, 40, 41, 42, 43, 44, 45, 46, 47, 48, 49, 50, 51, 52, 53, 54, 55, 56, 57, 58, 59, 60, 61, 62, 63, 64, 65, 66, 67, 68, 69, 70, 71, 72, 73, 74, 75, 76, 77, 78, 79, 80, 81, 82, 83, 84, 85, 86, 87, 88, 89, 90, 91, 92, 93, 94, 95, 96, 97, 98, 99, 100, 101, 102, 103, 104, 105, 106, 107, 108, 109] (by decide +kernel) (by decide +kernel)) (goodIn_sub (fun _ h => List.mem_cons_of_mem _ (List.mem_append_right _ h)) (by decide +kernel))
set_option maxRecDepth 20000 in
theorem gL_remove_X4_remove : GoodIn wsL_remove (wsV RL 28 RX4 yX4_remove wsX4_remove) := goodIn_app (goodIn_of _ (by decide +kernel)) ggL_remove_X4_remove
theorem dL_remove_0 : decode cL_remove 0 = .ok (.aload_n 2, 1) := by decide +kernel
theorem dL_remove_1 : decode cL_remove 1 = .ok (.iconst 0, 1) := by decide +kernel
theorem dL_remove_2 : decode cL_remove 2 = .ok (.aload_n 0, 1) := by decide +kernel
theorem dL_remove_3 : decode cL_remove 3 = .ok (.iload_n 1, 1) := by decide +kernel
theorem dL_remove_4 : decode cL_remove 4 = .ok (.invokevirtual 28, 3) := by decide +kernel
theorem dL_remove_7 : decode cL_remove 7 = .ok (.i2l, 1) := by decide +kernel
theorem dL_remove_8 : decode cL_remove 8 = .ok (.lastore, 1) := by decide +kernel
theorem dL_remove_9 : decode cL_remove 9 = .ok (.goto 6, 3) := by decide +kernel
theorem dL_remove_12 : decode cL_remove 12 = .ok (.astore_n 3, 1) := by decide +kernel
theorem dL_remove_13 : decode cL_remove 13 = .ok (.iconst 1, 1) := by decide +kernel
theorem dL_remove_14 : decode cL_remove 14 = .ok (.ireturn, 1) := by decide +kernel
theorem dL_remove_15 : decode cL_remove 15 = .ok (.iconst 0, 1) := by decide +kernel
theorem dL_remove_16 : decode cL_remove 16 = .ok (.ireturn, 1) := by decide +kernel
set_option maxRecDepth 20000 in
theorem ggL_limit_X4_limit : GoodIn wsL_limit wsX4_limit := goodIn_ca (goodIn_r _ [6, 7, 8, 9, 10, 11, 12, 5, 13, 14, 15, 16, 17, 18, 19, 20, 21, 22, 23, 24, 25, 26, 27, 28, 29, 30, 31, 32, 33, 34, 35, 36, 37, 38, 39, 40, 41, 42, 43, 44, 45, 46, 47, 48, 49, 50, 51, 52, 53, 54, 55, 56, 57, 58, 59, 60, 61, 62, 63, 64, 65, 66, 67, 68, 69, 70, 71, 72, 73, 74, 75, 76, 77, 78, 79, 80, 81, 82, 83, 84, 85, 86, 87, 88, 89, 90, 91, 92, 93, 94, 95, 96, 97, 98, 99, 100, 101, 102, 103, 104, 105, 106, 107, 108, 109, 110, 111, 112, 113, 114, 115, 116] (by decide +kernel) (by decide +kernel)) (goodIn_sub (fun _ h => List.mem_cons_of_mem _ (List.mem_append_right _ h)) (by decide +kernel))
set_option maxRecDepth 20000 in
theorem gL_limit_X4_limit : GoodIn wsL_limit (wsV RL 31 RX4 yX4_limit wsX4_limit) := goodIn_app (goodIn_of _ (by decide +kernel)) ggL_limit_X4_limit
theorem dL_limit_0 : decode cL_limit 0 = .ok (.aload_n 2, 1) := by decide +kernel
theorem dL_limit_1 : decode cL_limit 1 = .ok (.iconst 0, 1) := by decide +kernel
theorem dL_limit_2 : decode cL_limit 2 = .ok (.aload_n 0, 1) := by decide +kernel
theorem dL_limit_3 : decode cL_limit 3 = .ok (.iload_n 1, 1) := by decide +kernel
theorem dL_limit_4 : decode cL_limit 4 = .ok (.invokevirtual 31, 3) := by decide +kernel
theorem dL_limit_7 : decode cL_limit 7 = .ok (.i2l, 1) := by decide +kernel
theorem dL_limit_8 : decode cL_limit 8 = .ok (.lastore, 1) := by decide +kernel
theorem dL_limit_9 : decode cL_limit 9 = .ok (.goto 6, 3) := by decide +kernel
theorem dL_limit_12 : decode cL_limit 12 = .ok (.astore_n 3, 1) := by decide +kernel
theorem dL_limit_13 : decode cL_limit 13 = .ok (.iconst 1, 1) := by decide +kernel
theorem dL_limit_14 : decode cL_limit 14 = .ok (.ireturn, 1) := by decide +kernel
theorem dL_limit_15 : decode cL_limit 15 = .ok (.iconst 0, 1) := by decide +kernel
theorem dL_limit_16 : decode cL_limit 16 = .ok (.ireturn, 1) := by decide +kernel
set_option maxRecDepth 20000 in
theorem ggL_way_X4_way : GoodIn wsL_way wsX4_way := goodIn_ca (goodIn_r _ [6, 7, 8, 9, 10, 5, 11, 12, 13, 14, 15, 16, 17, 18, 19, 20, 21, 22, 23, 24, 25, 26, 27, 28, 29, 30, 31, 32, 33, 34, 35, 36, 37, 38, 39, 40, 41, 42, 43, 44, 45, 46, 47, 48, 49, 50, 51, 52, 53, 54, 55, 56, 57, 58, 59, 60, 61, 62, 63, 64, 65, 66, 67, 68, 69, 70, 71, 72, 73, 74, 75, 76, 77, 78, 79, 80, 81, 82, 83, 84, 85, 86, 87, 88] (by decide +kernel) (by decide +kernel)) (goodIn_sub (fun _ h => List.mem_cons_of_mem _ (List.mem_append_right _ h)) (by decide +kernel))
set_option maxRecDepth 20000 in
theorem gL_way_X4_way : GoodIn wsL_way (wsV RL 34 RX4 yX4_way wsX4_way) := goodIn_app (goodIn_of _ (by decide +kernel)) ggL_way_X4_way
theorem dL_way_0 : decode cL_way 0 = .ok (.aload_n 2, 1) := by decide +kernel
theorem dL_way_1 : decode cL_way 1 = .ok (.iconst 0, 1) := by decide +kernel
theorem dL_way_2 : decode cL_way 2 = .ok (.aload_n 0, 1) := by decide +kernel
theorem dL_way_3 : decode cL_way 3 = .ok (.iload_n 1, 1) := by decide +kernel
theorem dL_way_4 : decode cL_way 4 = .ok (.invokevirtual 34, 3) := by decide +kernel
theorem dL_way_7 : decode cL_way 7 = .ok (.i2l, 1) := by decide +kernel
theorem dL_way_8 : decode cL_way 8 = .ok (.lastore, 1) := by decide +kernel
theorem dL_way_9 : decode cL_way 9 = .ok (.goto 6, 3) := by decide +kernel
theorem dL_way_12 : decode cL_way 12 = .ok (.astore_n 3, 1) := by decide +kernel
theorem dL_way_13 : decode cL_way 13 = .ok (.iconst 1, 1) := by decide +kernel
theorem dL_way_14 : decode cL_way 14 = .ok (.ireturn, 1) := by decide +kernel
theorem dL_way_15 : decode cL_way 15 = .ok (.iconst 0, 1) := by decide +kernel
theorem dL_way_16 : decode cL_way 16 = .ok (.ireturn, 1) := by decide +kernel
set_option maxRecDepth 20000 in
theorem ggL_keyAt_X4_keyAt : GoodIn wsL_keyAt wsX4_keyAt := goodIn_ca (goodIn_ca (goodIn_r _ [7, 8, 9, 10, 11, 6, 12, 13, 14, 15, 16, 17, 18, 19, 20, 21, 22, 23, 24, 25, 26, 27, 28, 29, 30, 31, 32, 33, 34, 35, 36, 37, 38, 39, 40, 41, 42, 43, 44, 45, 46, 47, 48, 49, 50] (by decide +kernel) (by decide +kernel)) (goodIn_sub (fun _ h => List.mem_cons_of_mem _ (List.mem_append_left _ (List.mem_append_right _ h))) (by decide +kernel))) (goodIn_sub (fun _ h => List.mem_cons_of_mem _ (List.mem_append_right _ h)) (by decide +kernel))
set_option maxRecDepth 20000 in
theorem gL_keyAt_X4_keyAt : GoodIn wsL_keyAt (wsV RL 38 RX4 yX4_keyAt wsX4_keyAt) := goodIn_app (goodIn_of _ (by decide +kernel)) ggL_keyAt_X4_keyAt
theorem dL_keyAt_0 : decode cL_keyAt 0 = .ok (.aload_n 3, 1) := by decide +kernel
theorem dL_keyAt_1 : decode cL_keyAt 1 = .ok (.iconst 0, 1) := by decide +kernel
theorem dL_keyAt_2 : decode cL_keyAt 2 = .ok (.aload_n 0, 1) := by decide +kernel
theorem dL_keyAt_3 : decode cL_keyAt 3 = .ok (.iload_n 1, 1) := by decide +kernel
theorem dL_keyAt_4 : decode cL_keyAt 4 = .ok (.iload_n 2, 1) := by decide +kernel
theorem dL_keyAt_5 : decode cL_keyAt 5 = .ok (.invokevirtual 38, 3) := by decide +kernel
theorem dL_keyAt_8 : decode cL_keyAt 8 = .ok (.i2l, 1) := by decide +kernel
theorem dL_keyAt_9 : decode cL_keyAt 9 = .ok (.lastore, 1) := by decide +kernel
theorem dL_keyAt_10 : decode cL_keyAt 10 = .ok (.goto 11, 3) := by decide +kernel
theorem dL_keyAt_13 : decode cL_keyAt 13 = .ok (.astore 4, 2) := by decide +kernel
theorem dL_keyAt_15 : decode cL_keyAt 15 = .ok (.iconst 1, 1) := by decide +kernel
theorem dL_keyAt_16 : decode cL_keyAt 16 = .ok (.ireturn, 1) := by decide +kernel
theorem dL_keyAt_17 : decode cL_keyAt 17 = .ok (.astore 4, 2) := by decide +kernel
theorem dL_keyAt_19 : decode cL_keyAt 19 = .ok (.iconst 2, 1) := by decide +kernel
theorem dL_keyAt_20 : decode cL_keyAt 20 = .ok (.ireturn, 1) := by decide +kernel
theorem dL_keyAt_21 : decode cL_keyAt 21 = .ok (.iconst 0, 1) := by decide +kernel
theorem dL_keyAt_22 : decode cL_keyAt 22 = .ok (.ireturn, 1) := by decide +kernel
set_option maxRecDepth 20000 in
theorem ggL_placeOf_X4_placeOf : GoodIn wsL_placeOf wsX4_placeOf := goodIn_ca (goodIn_ca (goodIn_r _ [7, 8, 9, 10, 11, 6, 12, 13, 14, 15, 16, 17, 18, 19, 20, 21, 22, 23, 24, 25, 26, 27, 28, 29, 30, 31, 32, 33, 34, 35, 36, 37, 38, 39, 40, 41, 42, 43, 44, 45, 46, 47, 48, 49, 50, 51, 52, 53, 54, 55, 56, 57, 58] (by decide +kernel) (by decide +kernel)) (goodIn_sub (fun _ h => List.mem_cons_of_mem _ (List.mem_append_left _ (List.mem_append_right _ h))) (by decide +kernel))) (goodIn_sub (fun _ h => List.mem_cons_of_mem _ (List.mem_append_right _ h)) (by decide +kernel))
set_option maxRecDepth 20000 in
theorem gL_placeOf_X4_placeOf : GoodIn wsL_placeOf (wsV RL 44 RX4 yX4_placeOf wsX4_placeOf) := goodIn_app (goodIn_of _ (by decide +kernel)) ggL_placeOf_X4_placeOf
theorem dL_placeOf_0 : decode cL_placeOf 0 = .ok (.aload_n 3, 1) := by decide +kernel
theorem dL_placeOf_1 : decode cL_placeOf 1 = .ok (.iconst 0, 1) := by decide +kernel
theorem dL_placeOf_2 : decode cL_placeOf 2 = .ok (.aload_n 0, 1) := by decide +kernel
theorem dL_placeOf_3 : decode cL_placeOf 3 = .ok (.iload_n 1, 1) := by decide +kernel
theorem dL_placeOf_4 : decode cL_placeOf 4 = .ok (.iload_n 2, 1) := by decide +kernel
theorem dL_placeOf_5 : decode cL_placeOf 5 = .ok (.invokevirtual 44, 3) := by decide +kernel
theorem dL_placeOf_8 : decode cL_placeOf 8 = .ok (.i2l, 1) := by decide +kernel
theorem dL_placeOf_9 : decode cL_placeOf 9 = .ok (.lastore, 1) := by decide +kernel
theorem dL_placeOf_10 : decode cL_placeOf 10 = .ok (.goto 11, 3) := by decide +kernel
theorem dL_placeOf_13 : decode cL_placeOf 13 = .ok (.astore 4, 2) := by decide +kernel
theorem dL_placeOf_15 : decode cL_placeOf 15 = .ok (.iconst 1, 1) := by decide +kernel
theorem dL_placeOf_16 : decode cL_placeOf 16 = .ok (.ireturn, 1) := by decide +kernel
theorem dL_placeOf_17 : decode cL_placeOf 17 = .ok (.astore 4, 2) := by decide +kernel
theorem dL_placeOf_19 : decode cL_placeOf 19 = .ok (.iconst 2, 1) := by decide +kernel
theorem dL_placeOf_20 : decode cL_placeOf 20 = .ok (.ireturn, 1) := by decide +kernel
theorem dL_placeOf_21 : decode cL_placeOf 21 = .ok (.iconst 0, 1) := by decide +kernel
theorem dL_placeOf_22 : decode cL_placeOf 22 = .ok (.ireturn, 1) := by decide +kernel
set_option maxRecDepth 20000 in
theorem ggL_setAt_X4_setAt : GoodIn wsL_setAt wsX4_setAt := goodIn_ca (goodIn_ca (goodIn_r _ [7, 8, 9, 10, 11, 6, 12, 13, 14, 15, 16, 17, 18, 19, 20, 21, 22, 23, 24, 25, 26, 27, 28, 29, 30, 31, 32, 33, 34, 35, 36, 37, 38, 39, 40, 41, 42, 43, 44, 45, 46, 47, 48, 49, 50, 51, 52, 53, 54, 55, 56, 57, 58, 59, 60, 61, 62, 63, 64, 65, 66, 67, 68, 69, 70, 71, 72, 73, 74, 75, 76, 77, 78, 79, 80, 81, 82, 83, 84, 85, 86, 87, 88, 89, 90, 91, 92, 93, 94, 95, 96, 97, 98, 99, 100, 101, 102, 103, 104, 105, 106, 107, 108, 109, 110, 111, 112, 113, 114] (by decide +kernel) (by decide +kernel)) (goodIn_sub (fun _ h => List.mem_cons_of_mem _ (List.mem_append_left _ (List.mem_append_right _ h))) (by decide +kernel))) (goodIn_sub (fun _ h => List.mem_cons_of_mem _ (List.mem_append_right _ h)) (by decide +kernel))
set_option maxRecDepth 20000 in
theorem gL_setAt_X4_setAt : GoodIn wsL_setAt (wsV RL 47 RX4 yX4_setAt wsX4_setAt) := goodIn_app (goodIn_of _ (by decide +kernel)) ggL_setAt_X4_setAt
theorem dL_setAt_0 : decode cL_setAt 0 = .ok (.aload 4, 2) := by decide +kernel
theorem dL_setAt_2 : decode cL_setAt 2 = .ok (.iconst 0, 1) := by decide +kernel
theorem dL_setAt_3 : decode cL_setAt 3 = .ok (.aload_n 0, 1) := by decide +kernel
theorem dL_setAt_4 : decode cL_setAt 4 = .ok (.iload_n 1, 1) := by decide +kernel
theorem dL_setAt_5 : decode cL_setAt 5 = .ok (.iload_n 2, 1) := by decide +kernel
theorem dL_setAt_6 : decode cL_setAt 6 = .ok (.iload_n 3, 1) := by decide +kernel
theorem dL_setAt_7 : decode cL_setAt 7 = .ok (.invokevirtual 47, 3) := by decide +kernel
theorem dL_setAt_10 : decode cL_setAt 10 = .ok (.i2l, 1) := by decide +kernel
theorem dL_setAt_11 : decode cL_setAt 11 = .ok (.lastore, 1) := by decide +kernel
theorem dL_setAt_12 : decode cL_setAt 12 = .ok (.goto 11, 3) := by decide +kernel
theorem dL_setAt_15 : decode cL_setAt 15 = .ok (.astore 5, 2) := by decide +kernel
theorem dL_setAt_17 : decode cL_setAt 17 = .ok (.iconst 1, 1) := by decide +kernel
theorem dL_setAt_18 : decode cL_setAt 18 = .ok (.ireturn, 1) := by decide +kernel
theorem dL_setAt_19 : decode cL_setAt 19 = .ok (.astore 5, 2) := by decide +kernel
theorem dL_setAt_21 : decode cL_setAt 21 = .ok (.iconst 2, 1) := by decide +kernel
theorem dL_setAt_22 : decode cL_setAt 22 = .ok (.ireturn, 1) := by decide +kernel
theorem dL_setAt_23 : decode cL_setAt 23 = .ok (.iconst 0, 1) := by decide +kernel
theorem dL_setAt_24 : decode cL_setAt 24 = .ok (.ireturn, 1) := by decide +kernel
set_option maxRecDepth 20000 in
theorem ggL_removeAt_X4_removeAt : GoodIn wsL_removeAt wsX4_removeAt := goodIn_ca (goodIn_ca (goodIn_r _ [7, 8, 9, 10, 11, 6, 12, 13, 14, 15, 16, 17, 18, 19, 20, 21, 22, 23, 24, 25, 26, 27, 28, 29, 30, 31, 32, 33, 34, 35, 36, 37, 38, 39, 40, 41, 42, 43, 44, 45, 46, 47, 48, 49, 50, 51, 52, 53, 54, 55, 56, 57, 58, 59, 60, 61, 62, 63, 64, 65, 66, 67, 68, 69, 70, 71, 72, 73, 74, 75, 76, 77, 78, 79, 80, 81, 82, 83, 84, 85, 86, 87, 88, 89, 90, 91, 92, 93, 94, 95, 96, 97, 98, 99, 100, 101, 102, 103, 104, 105, 106, 107, 108, 109, 110, 111, 112, 113] (by decide +kernel) (by decide +kernel)) (goodIn_sub (fun _ h => List.mem_cons_of_mem _ (List.mem_append_left _ (List.mem_append_right _ h))) (by decide +kernel))) (goodIn_sub (fun _ h => List.mem_cons_of_mem _ (List.mem_append_right _ h)) (by decide +kernel))
set_option maxRecDepth 20000 in
theorem gL_removeAt_X4_removeAt : GoodIn wsL_removeAt (wsV RL 51 RX4 yX4_removeAt wsX4_removeAt) := goodIn_app (goodIn_of _ (by decide +kernel)) ggL_removeAt_X4_removeAt
theorem dL_removeAt_0 : decode cL_removeAt 0 = .ok (.aload_n 3, 1) := by decide +kernel
theorem dL_removeAt_1 : decode cL_removeAt 1 = .ok (.iconst 0, 1) := by decide +kernel
theorem dL_removeAt_2 : decode cL_removeAt 2 = .ok (.aload_n 0, 1) := by decide +kernel
theorem dL_removeAt_3 : decode cL_removeAt 3 = .ok (.iload_n 1, 1) := by decide +kernel
theorem dL_removeAt_4 : decode cL_removeAt 4 = .ok (.iload_n 2, 1) := by decide +kernel
theorem dL_removeAt_5 : decode cL_removeAt 5 = .ok (.invokevirtual 51, 3) := by decide +kernel
theorem dL_removeAt_8 : decode cL_removeAt 8 = .ok (.i2l, 1) := by decide +kernel
theorem dL_removeAt_9 : decode cL_removeAt 9 = .ok (.lastore, 1) := by decide +kernel
theorem dL_removeAt_10 : decode cL_removeAt 10 = .ok (.goto 11, 3) := by decide +kernel
theorem dL_removeAt_13 : decode cL_removeAt 13 = .ok (.astore 4, 2) := by decide +kernel
theorem dL_removeAt_15 : decode cL_removeAt 15 = .ok (.iconst 1, 1) := by decide +kernel
theorem dL_removeAt_16 : decode cL_removeAt 16 = .ok (.ireturn, 1) := by decide +kernel
theorem dL_removeAt_17 : decode cL_removeAt 17 = .ok (.astore 4, 2) := by decide +kernel
theorem dL_removeAt_19 : decode cL_removeAt 19 = .ok (.iconst 2, 1) := by decide +kernel
theorem dL_removeAt_20 : decode cL_removeAt 20 = .ok (.ireturn, 1) := by decide +kernel
theorem dL_removeAt_21 : decode cL_removeAt 21 = .ok (.iconst 0, 1) := by decide +kernel
theorem dL_removeAt_22 : decode cL_removeAt 22 = .ok (.ireturn, 1) := by decide +kernel
set_option maxRecDepth 20000 in
theorem ggL_thin_X4_thin : GoodIn wsL_thin wsX4_thin := goodIn_ca (goodIn_r _ [6, 7, 8, 9, 10, 11, 12, 5, 13, 14, 15, 16, 17, 18, 19, 20, 21, 22, 23, 24, 25, 26, 27, 28, 29, 30, 31, 32, 33, 34, 35, 36, 37, 38, 39, 40, 41, 42, 43, 44, 45, 46, 47, 48, 49, 50, 51, 52, 53, 54, 55, 56, 57, 58, 59, 60, 61, 62, 63, 64, 65, 66, 67, 68, 69, 70, 71, 72, 73, 74, 75, 76, 77, 78, 79, 80, 81, 82, 83, 84, 85, 86, 87, 88, 89, 90, 91, 92, 93, 94, 95, 96, 97, 98, 99, 100, 101, 102, 103, 104, 105, 106, 107, 108, 109, 110, 111, 112, 113, 114] (by decide +kernel) (by decide +kernel)) (goodIn_sub (fun _ h => List.mem_cons_of_mem _ (List.mem_append_right _ h)) (by decide +kernel))
set_option maxRecDepth 20000 in
theorem gL_thin_X4_thin : GoodIn wsL_thin (wsV RL 54 RX4 yX4_thin wsX4_thin) := goodIn_app (goodIn_of _ (by decide +kernel)) ggL_thin_X4_thin
theorem dL_thin_0 : decode cL_thin 0 = .ok (.aload_n 3, 1) := by decide +kernel
theorem dL_thin_1 : decode cL_thin 1 = .ok (.iconst 0, 1) := by decide +kernel
theorem dL_thin_2 : decode cL_thin 2 = .ok (.aload_n 0, 1) := by decide +kernel
theorem dL_thin_3 : decode cL_thin 3 = .ok (.iload_n 1, 1) := by decide +kernel
theorem dL_thin_4 : decode cL_thin 4 = .ok (.iload_n 2, 1) := by decide +kernel
theorem dL_thin_5 : decode cL_thin 5 = .ok (.invokevirtual 54, 3) := by decide +kernel
theorem dL_thin_8 : decode cL_thin 8 = .ok (.i2l, 1) := by decide +kernel
theorem dL_thin_9 : decode cL_thin 9 = .ok (.lastore, 1) := by decide +kernel
theorem dL_thin_10 : decode cL_thin 10 = .ok (.goto 7, 3) := by decide +kernel
theorem dL_thin_13 : decode cL_thin 13 = .ok (.astore 4, 2) := by decide +kernel
theorem dL_thin_15 : decode cL_thin 15 = .ok (.iconst 1, 1) := by decide +kernel
theorem dL_thin_16 : decode cL_thin 16 = .ok (.ireturn, 1) := by decide +kernel
theorem dL_thin_17 : decode cL_thin 17 = .ok (.iconst 0, 1) := by decide +kernel
theorem dL_thin_18 : decode cL_thin 18 = .ok (.ireturn, 1) := by decide +kernel
set_option maxRecDepth 20000 in
theorem ggL_walk_X4_walk : GoodIn wsL_walk wsX4_walk := goodIn_ca (goodIn_r _ [6, 7, 8, 9, 10, 11, 5, 12, 13, 14, 15, 16, 17, 18, 19, 20, 21, 22, 23, 24, 25, 26, 27, 28, 29, 30, 31, 32, 33, 34, 35, 36, 37, 38, 39, 40, 41, 42, 43, 44] (by decide +kernel) (by decide +kernel)) (goodIn_sub (fun _ h => List.mem_cons_of_mem _ (List.mem_append_right _ h)) (by decide +kernel))
set_option maxRecDepth 20000 in
theorem gL_walk_X4_walk : GoodIn wsL_walk (wsV RL 57 RX4 yX4_walk wsX4_walk) := goodIn_app (goodIn_of _ (by decide +kernel)) ggL_walk_X4_walk
theorem dL_walk_0 : decode cL_walk 0 = .ok (.aload_n 2, 1) := by decide +kernel
theorem dL_walk_1 : decode cL_walk 1 = .ok (.iconst 0, 1) := by decide +kernel
theorem dL_walk_2 : decode cL_walk 2 = .ok (.aload_n 0, 1) := by decide +kernel
theorem dL_walk_3 : decode cL_walk 3 = .ok (.iload_n 1, 1) := by decide +kernel
theorem dL_walk_4 : decode cL_walk 4 = .ok (.invokevirtual 57, 3) := by decide +kernel
theorem dL_walk_7 : decode cL_walk 7 = .ok (.i2l, 1) := by decide +kernel
theorem dL_walk_8 : decode cL_walk 8 = .ok (.lastore, 1) := by decide +kernel
theorem dL_walk_9 : decode cL_walk 9 = .ok (.goto 6, 3) := by decide +kernel
theorem dL_walk_12 : decode cL_walk 12 = .ok (.astore_n 3, 1) := by decide +kernel
theorem dL_walk_13 : decode cL_walk 13 = .ok (.iconst 1, 1) := by decide +kernel
theorem dL_walk_14 : decode cL_walk 14 = .ok (.ireturn, 1) := by decide +kernel
theorem dL_walk_15 : decode cL_walk 15 = .ok (.iconst 0, 1) := by decide +kernel
theorem dL_walk_16 : decode cL_walk 16 = .ok (.ireturn, 1) := by decide +kernel
set_option maxRecDepth 20000 in
theorem ggL_step_X4_step : GoodIn wsL_step wsX4_step := goodIn_ca (goodIn_ca (goodIn_r _ [7, 8, 9, 10, 11, 12, 13, 14, 15, 16, 17, 18, 19, 20, 21, 22, 23, 24, 25, 26, 27, 28, 29, 30, 31, 32, 33, 34, 35, 36, 37, 38, 39, 40, 41, 42, 43, 44, 45, 46, 47, 48, 49, 50, 51, 52, 53, 54, 55, 56, 57, 58, 59, 60, 61, 62, 63, 64, 65, 66, 67, 68] (by decide +kernel) (by decide +kernel)) (goodIn_sub (fun _ h => List.mem_cons_of_mem _ (List.mem_append_left _ (List.mem_append_right _ h))) (by decide +kernel))) (goodIn_sub (fun _ h => List.mem_cons_of_mem _ (List.mem_append_right _ h)) (by decide +kernel))
set_option maxRecDepth 20000 in
theorem gL_step_X4_step : GoodIn wsL_step (wsV RL 61 RX4 yX4_step wsX4_step) := goodIn_app (goodIn_of _ (by decide +kernel)) ggL_step_X4_step
theorem dL_step_0 : decode cL_step 0 = .ok (.aload_n 1, 1) := by decide +kernel
theorem dL_step_1 : decode cL_step 1 = .ok (.iconst 0, 1) := by decide +kernel
theorem dL_step_2 : decode cL_step 2 = .ok (.aload_n 0, 1) := by decide +kernel
theorem dL_step_3 : decode cL_step 3 = .ok (.invokevirtual 61, 3) := by decide +kernel
theorem dL_step_6 : decode cL_step 6 = .ok (.i2l, 1) := by decide +kernel
theorem dL_step_7 : decode cL_step 7 = .ok (.lastore, 1) := by decide +kernel
theorem dL_step_8 : decode cL_step 8 = .ok (.goto 9, 3) := by decide +kernel
theorem dL_step_11 : decode cL_step 11 = .ok (.astore_n 2, 1) := by decide +kernel
theorem dL_step_12 : decode cL_step 12 = .ok (.iconst 1, 1) := by decide +kernel
theorem dL_step_13 : decode cL_step 13 = .ok (.ireturn, 1) := by decide +kernel
theorem dL_step_14 : decode cL_step 14 = .ok (.astore_n 2, 1) := by decide +kernel
theorem dL_step_15 : decode cL_step 15 = .ok (.iconst 2, 1) := by decide +kernel
theorem dL_step_16 : decode cL_step 16 = .ok (.ireturn, 1) := by decide +kernel
theorem dL_step_17 : decode cL_step 17 = .ok (.iconst 0, 1) := by decide +kernel
theorem dL_step_18 : decode cL_step 18 = .ok (.ireturn, 1) := by decide +kernel
set_option maxRecDepth 20000 in
theorem ggL_cut_X4_cut : GoodIn wsL_cut wsX4_cut := goodIn_ca (goodIn_r _ [6, 7, 8, 9, 10, 11, 12, 13, 14, 15, 16, 17, 18, 19, 20, 21, 22, 23, 24, 25, 26, 27, 28, 29, 30, 31, 32, 33, 34, 35, 36, 37, 38, 39, 40, 41, 42, 43, 44, 45, 46, 47, 48, 49, 50, 51, 52, 53, 54, 55, 56, 57, 58, 59, 60, 61, 62, 63, 64, 65, 66, 67, 68, 69, 70, 71, 72, 73, 74, 75, 76, 77, 78, 79, 80, 81, 82, 83, 84, 85, 86, 87, 88, 89, 90, 91, 92, 93, 94, 95, 96, 97, 98, 99, 100, 101, 102, 103, 104, 105, 106, 107, 108, 109, 110, 111, 112, 113, 114, 115, 116, 117, 118, 119, 120] (by decide +kernel) (by decide +kernel)) (goodIn_sub (fun _ h => List.mem_cons_of_mem _ (List.mem_append_right _ h)) (by decide +kernel))
set_option maxRecDepth 20000 in
theorem gL_cut_X4_cut : GoodIn wsL_cut (wsV RL 67 RX4 yX4_cut wsX4_cut) := goodIn_app (goodIn_of _ (by decide +kernel)) ggL_cut_X4_cut
theorem dL_cut_0 : decode cL_cut 0 = .ok (.aload_n 1, 1) := by decide +kernel
theorem dL_cut_1 : decode cL_cut 1 = .ok (.iconst 0, 1) := by decide +kernel
theorem dL_cut_2 : decode cL_cut 2 = .ok (.aload_n 0, 1) := by decide +kernel
theorem dL_cut_3 : decode cL_cut 3 = .ok (.invokevirtual 67, 3) := by decide +kernel
theorem dL_cut_6 : decode cL_cut 6 = .ok (.i2l, 1) := by decide +kernel
theorem dL_cut_7 : decode cL_cut 7 = .ok (.lastore, 1) := by decide +kernel
theorem dL_cut_8 : decode cL_cut 8 = .ok (.goto 6, 3) := by decide +kernel
theorem dL_cut_11 : decode cL_cut 11 = .ok (.astore_n 2, 1) := by decide +kernel
theorem dL_cut_12 : decode cL_cut 12 = .ok (.iconst 1, 1) := by decide +kernel
theorem dL_cut_13 : decode cL_cut 13 = .ok (.ireturn, 1) := by decide +kernel
theorem dL_cut_14 : decode cL_cut 14 = .ok (.iconst 0, 1) := by decide +kernel
theorem dL_cut_15 : decode cL_cut 15 = .ok (.ireturn, 1) := by decide +kernel
set_option maxRecDepth 20000 in
theorem ggL_move_X4_move : GoodIn wsL_move wsX4_move := goodIn_ca (goodIn_r _ [6, 7, 8, 9, 10, 11, 12, 13, 14, 15, 16, 17, 18, 19, 20, 21, 22, 23, 24, 25, 26, 27, 28, 29, 30, 31, 32, 33, 34, 35, 36, 37, 38, 39, 40, 41, 42, 43, 44, 45, 46, 47, 48, 49] (by decide +kernel) (by decide +kernel)) (goodIn_sub (fun _ h => List.mem_cons_of_mem _ (List.mem_append_right _ h)) (by decide +kernel))
set_option maxRecDepth 20000 in
theorem gL_move_X4_move : GoodIn wsL_move (wsV RL 70 RX4 yX4_move wsX4_move) := goodIn_app (goodIn_of _ (by decide +kernel)) ggL_move_X4_move
theorem dL_move_0 : decode cL_move 0 = .ok (.aload_n 2, 1) := by decide +kernel
theorem dL_move_1 : decode cL_move 1 = .ok (.iconst 0, 1) := by decide +kernel
theorem dL_move_2 : decode cL_move 2 = .ok (.aload_n 0, 1) := by decide +kernel
theorem dL_move_3 : decode cL_move 3 = .ok (.iload_n 1, 1) := by decide +kernel
theorem dL_move_4 : decode cL_move 4 = .ok (.invokevirtual 70, 3) := by decide +kernel
theorem dL_move_7 : decode cL_move 7 = .ok (.i2l, 1) := by decide +kernel
theorem dL_move_8 : decode cL_move 8 = .ok (.lastore, 1) := by decide +kernel
theorem dL_move_9 : decode cL_move 9 = .ok (.goto 6, 3) := by decide +kernel
theorem dL_move_12 : decode cL_move 12 = .ok (.astore_n 3, 1) := by decide +kernel
theorem dL_move_13 : decode cL_move 13 = .ok (.iconst 1, 1) := by decide +kernel
theorem dL_move_14 : decode cL_move 14 = .ok (.ireturn, 1) := by decide +kernel
theorem dL_move_15 : decode cL_move 15 = .ok (.iconst 0, 1) := by decide +kernel
theorem dL_move_16 : decode cL_move 16 = .ok (.ireturn, 1) := by decide +kernel
set_option maxRecDepth 20000 in
theorem ggL_undo_X4_undo : GoodIn wsL_undo wsX4_undo := goodIn_ca (goodIn_r _ [6, 7, 8, 9, 10, 11, 12, 13, 14, 15, 16, 17, 18, 19, 20, 21, 22, 23, 24, 25, 26, 27, 28, 29, 30, 31, 32, 33, 34, 35, 36, 37, 38, 39, 40, 41, 42, 43, 44, 45, 46, 47, 48, 49, 50, 51, 52, 53, 54, 55, 56, 57, 58, 59, 60, 61, 62, 63, 64, 65, 66, 67, 68, 69, 70, 71, 72, 73, 74, 75, 76, 77, 78, 79, 80] (by decide +kernel) (by decide +kernel)) (goodIn_sub (fun _ h => List.mem_cons_of_mem _ (List.mem_append_right _ h)) (by decide +kernel))
set_option maxRecDepth 20000 in
theorem gL_undo_X4_undo : GoodIn wsL_undo (wsV RL 73 RX4 yX4_undo wsX4_undo) := goodIn_app (goodIn_of _ (by decide +kernel)) ggL_undo_X4_undo
theorem dL_undo_0 : decode cL_undo 0 = .ok (.aload_n 1, 1) := by decide +kernel
theorem dL_undo_1 : decode cL_undo 1 = .ok (.iconst 0, 1) := by decide +kernel
theorem dL_undo_2 : decode cL_undo 2 = .ok (.aload_n 0, 1) := by decide +kernel
theorem dL_undo_3 : decode cL_undo 3 = .ok (.invokevirtual 73, 3) := by decide +kernel
theorem dL_undo_6 : decode cL_undo 6 = .ok (.i2l, 1) := by decide +kernel
theorem dL_undo_7 : decode cL_undo 7 = .ok (.lastore, 1) := by decide +kernel
theorem dL_undo_8 : decode cL_undo 8 = .ok (.goto 6, 3) := by decide +kernel
theorem dL_undo_11 : decode cL_undo 11 = .ok (.astore_n 2, 1) := by decide +kernel
theorem dL_undo_12 : decode cL_undo 12 = .ok (.iconst 1, 1) := by decide +kernel
theorem dL_undo_13 : decode cL_undo 13 = .ok (.ireturn, 1) := by decide +kernel
theorem dL_undo_14 : decode cL_undo 14 = .ok (.iconst 0, 1) := by decide +kernel
theorem dL_undo_15 : decode cL_undo 15 = .ok (.ireturn, 1) := by decide +kernel
set_option maxRecDepth 20000 in
theorem ggL_law_X4_init : GoodIn wsL_law wsX4_init := goodIn_r _ [9, 10, 11, 12, 13, 14, 15, 16, 17, 18, 19, 20, 21, 22, 23, 24, 25, 26, 27, 28, 29, 30, 31, 32, 33, 34, 35, 36, 37, 38, 39, 40, 41, 42, 43, 44, 45, 46, 47, 48, 49, 50, 51, 52, 53, 54, 55, 56, 57, 58, 59, 60, 61, 62, 63, 634, 635, 636, 637, 611, 612, 613, 614, 638, 639, 640, 641, 642, 643, 644, 645, 646, 647] (by decide +kernel) (by decide +kernel)
set_option maxRecDepth 20000 in
theorem gL_law_X4_init : GoodIn wsL_law (wsX4_init) := ggL_law_X4_init
set_option maxRecDepth 20000 in
theorem ggL_law_X5_init : GoodIn wsL_law wsX5_init := goodIn_r _ [66, 67, 11, 12, 42, 68, 69, 70, 71, 72, 73, 74, 75, 76, 77, 78, 79, 80, 81, 82, 615, 616, 617, 618, 619, 620, 621, 622, 623, 624, 625, 626, 627, 628, 629, 630, 631, 632, 633] (by decide +kernel) (by decide +kernel)
set_option maxRecDepth 20000 in
theorem gL_law_X5_init : GoodIn wsL_law (wsX5_init) := ggL_law_X5_init
set_option maxRecDepth 20000 in
theorem ggL_law_L_put : GoodIn wsL_law wsL_put := goodIn_ca (goodIn_r _ [86, 87, 88, 89, 90, 2, 91, 16, 92, 93, 94, 95, 96, 97, 98, 99, 100, 101, 24, 20, 102, 103, 104, 23, 105, 59, 106, 107, 108, 19, 109, 52, 51, 53, 110, 111, 112, 113, 114, 115, 116, 15, 117, 34, 35, 36, 37, 118, 119, 120, 27, 121, 45, 122, 123, 124, 125, 43, 126, 127, 128, 129, 130, 131, 132, 133, 44, 134, 135, 136, 137, 138, 139, 140, 141, 142, 143, 144, 145, 146, 147, 148, 149, 150, 151, 152, 153, 154, 155, 156, 157, 158, 159, 160, 161, 162, 163, 164, 165, 166, 167, 168, 169, 170, 171, 172, 173, 174, 175, 176, 177, 178, 179, 180, 181, 182, 183, 184, 185, 186, 187, 188, 611, 612, 613, 614, 641, 642, 643, 644, 638, 639, 640, 634, 635, 636, 637, 645, 646, 647] (by decide +kernel) (by decide +kernel)) (goodIn_sub (fun _ h => List.mem_append_left _ (List.mem_append_left _ (List.mem_append_left _ (List.mem_append_right _ h)))) (by decide +kernel))
set_option maxRecDepth 20000 in
theorem gL_law_L_put : GoodIn wsL_law (va_wsS RL 80 yL_put wsL_put) := goodIn_app (goodIn_of _ (by decide +kernel)) ggL_law_L_put
set_option maxRecDepth 20000 in
theorem ggL_law_X5_put : GoodIn wsL_law wsX5_put := goodIn_r _ [192, 68, 69, 193, 194, 5, 195, 196, 197, 198, 199, 200, 201, 202, 203, 204, 205, 206, 207, 208, 209, 210, 74, 75, 70, 76, 77, 211, 78, 71, 80, 72, 212, 213, 214, 215, 216, 217, 218, 219, 220, 221, 222, 223, 224, 225, 226, 227, 228, 229, 230, 231, 232, 233, 234, 235, 236, 237, 238, 615, 616, 617, 618, 619, 620, 621, 622, 623, 624, 625, 626, 627, 628, 629, 630, 631, 632, 633] (by decide +kernel) (by decide +kernel)
set_option maxRecDepth 20000 in
theorem gL_law_X5_put : GoodIn wsL_law (wsV RL 85 RX5 yX5_put wsX5_put) := goodIn_app (goodIn_of _ (by decide +kernel)) ggL_law_X5_put
set_option maxRecDepth 20000 in
theorem ggL_law_X5_thrown : GoodIn wsL_law wsX5_thrown := goodIn_r _ [242, 200, 615, 616, 617, 618, 619, 620, 621, 622, 623, 624, 625, 626, 627, 628, 629, 630, 631, 632, 633] (by decide +kernel) (by decide +kernel)
set_option maxRecDepth 20000 in
theorem gL_law_X5_thrown : GoodIn wsL_law (wsV RL 86 RX5 yX5_thrown wsX5_thrown) := goodIn_app (goodIn_of _ (by decide +kernel)) ggL_law_X5_thrown
set_option maxRecDepth 20000 in
theorem ggL_law_L_putIfAbsent : GoodIn wsL_law wsL_putIfAbsent := goodIn_ca (goodIn_r _ [245, 87, 246, 247, 248, 2, 249, 16, 92, 93, 94, 95, 96, 97, 98, 99, 100, 101, 24, 20, 102, 103, 104, 23, 105, 59, 106, 107, 108, 19, 109, 52, 51, 53, 110, 111, 112, 113, 114, 115, 116, 15, 117, 34, 35, 36, 37, 118, 119, 120, 27, 121, 45, 122, 123, 124, 125, 43, 126, 127, 128, 129, 130, 131, 132, 133, 44, 134, 135, 136, 137, 138, 139, 140, 141, 142, 143, 144, 145, 154, 155, 156, 157, 158, 159, 160, 161, 162, 163, 164, 165, 166, 167, 168, 169, 170, 171, 172, 173, 174, 175, 176, 177, 178, 179, 180, 181, 182, 183, 184, 185, 186, 187, 188, 611, 612, 613, 614, 641, 642, 643, 644, 638, 639, 640, 634, 635, 636, 637, 645, 646, 647] (by decide +kernel) (by decide +kernel)) (goodIn_sub (fun _ h => List.mem_append_left _ (List.mem_append_left _ (List.mem_append_left _ (List.mem_append_right _ h)))) (by decide +kernel))
set_option maxRecDepth 20000 in
theorem gL_law_L_putIfAbsent : GoodIn wsL_law (va_wsS RL 89 yL_putIfAbsent wsL_putIfAbsent) := goodIn_app (goodIn_of _ (by decide +kernel)) ggL_law_L_putIfAbsent
set_option maxRecDepth 20000 in
theorem ggL_law_X5_putIfAbsent : GoodIn wsL_law wsX5_putIfAbsent := goodIn_r _ [253, 68, 193, 194, 5, 195, 196, 197, 198, 199, 200, 201, 202, 203, 204, 205, 206, 207, 208, 209, 210, 74, 69, 75, 70, 76, 77, 211, 78, 71, 80, 72, 212, 213, 214, 215, 216, 217, 218, 219, 220, 221, 222, 235, 236, 237, 238, 223, 224, 225, 226, 227, 228, 229, 230, 231, 232, 233, 234, 615, 616, 617, 618, 619, 620, 621, 622, 623, 624, 625, 626, 627, 628, 629, 630, 631, 632, 633] (by decide +kernel) (by decide +kernel)
set_option maxRecDepth 20000 in
theorem gL_law_X5_putIfAbsent : GoodIn wsL_law (wsV RL 91 RX5 yX5_putIfAbsent wsX5_putIfAbsent) := goodIn_app (goodIn_of _ (by decide +kernel)) ggL_law_X5_putIfAbsent
set_option maxRecDepth 20000 in
theorem ggL_law_L_get : GoodIn wsL_law wsL_get := goodIn_ca (goodIn_r _ [256, 257, 258, 259, 260, 2, 261, 16, 262, 263, 264, 265, 266, 267, 138, 139, 140, 15, 141, 34, 142, 143, 144, 27, 145, 45, 122, 123, 124, 125, 43, 126, 127, 128, 129, 98, 99, 100, 101, 24, 20, 102, 103, 104, 23, 105, 59, 106, 107, 108, 19, 109, 52, 51, 53, 110, 111, 112, 113, 114, 115, 116, 117, 35, 36, 37, 118, 119, 120, 121, 130, 131, 132, 133, 44, 134, 135, 136, 137, 154, 155, 156, 157, 158, 159, 160, 161, 162, 163, 164, 165, 268, 269, 270, 271, 272, 611, 612, 613, 614, 634, 635, 636, 637, 645, 646, 647, 641, 642, 643, 644, 638, 639, 640] (by decide +kernel) (by decide +kernel)) (goodIn_sub (fun _ h => List.mem_append_left _ (List.mem_append_left _ (List.mem_append_right _ h))) (by decide +kernel))
set_option maxRecDepth 20000 in
theorem gL_law_L_get : GoodIn wsL_law (va_wsS RL 92 yL_get wsL_get) := goodIn_app (goodIn_of _ (by decide +kernel)) ggL_law_L_get
set_option maxRecDepth 20000 in
theorem ggL_law_X5_get : GoodIn wsL_law wsX5_get := goodIn_r _ [276, 68, 69, 219, 220, 221, 5, 222, 211, 196, 197, 198, 199, 200, 201, 202, 203, 204, 205, 206, 207, 208, 209, 210, 74, 75, 70, 76, 77, 78, 71, 80, 72, 212, 213, 214, 215, 216, 217, 218, 235, 236, 237, 238, 615, 616, 617, 618, 619, 620, 621, 622, 623, 624, 625, 626, 627, 628, 629, 630, 631, 632, 633] (by decide +kernel) (by decide +kernel)
set_option maxRecDepth 20000 in
theorem gL_law_X5_get : GoodIn wsL_law (wsV RL 95 RX5 yX5_get wsX5_get) := goodIn_app (goodIn_of _ (by decide +kernel)) ggL_law_X5_get
set_option maxRecDepth 20000 in
theorem ggL_law_X4_getOr : GoodIn wsL_law wsX4_getOr := goodIn_r _ [280, 16, 138, 139, 140, 15, 141, 34, 142, 143, 144, 27, 145, 45, 122, 123, 124, 125, 43, 126, 127, 128, 129, 98, 99, 100, 2, 101, 24, 20, 102, 103, 104, 23, 105, 59, 106, 107, 108, 19, 109, 52, 51, 53, 110, 111, 112, 113, 114, 115, 116, 117, 35, 36, 37, 118, 119, 120, 121, 130, 131, 132, 133, 44, 134, 135, 136, 137, 154, 155, 156, 157, 158, 159, 160, 161, 162, 163, 164, 165, 268, 269, 270, 271, 272, 611, 612, 613, 614, 634, 635, 636, 637, 645, 646, 647, 641, 642, 643, 644, 638, 639, 640] (by decide +kernel) (by decide +kernel)
set_option maxRecDepth 20000 in
theorem gL_law_X4_getOr : GoodIn wsL_law (wsV RL 96 RX4 yX4_getOr wsX4_getOr) := goodIn_app (goodIn_of _ (by decide +kernel)) ggL_law_X4_getOr
set_option maxRecDepth 20000 in
theorem ggL_law_X5_getOr : GoodIn wsL_law wsX5_getOr := goodIn_r _ [284, 200, 68, 69, 219, 220, 221, 5, 222, 211, 201, 202, 203, 204, 205, 206, 207, 208, 209, 210, 74, 75, 70, 76, 77, 78, 71, 80, 72, 212, 213, 214, 215, 216, 217, 218, 235, 236, 237, 238, 615, 616, 617, 618, 619, 620, 621, 622, 623, 624, 625, 626, 627, 628, 629, 630, 631, 632, 633] (by decide +kernel) (by decide +kernel)
set_option maxRecDepth 20000 in
theorem gL_law_X5_getOr : GoodIn wsL_law (wsV RL 99 RX5 yX5_getOr wsX5_getOr) := goodIn_app (goodIn_of _ (by decide +kernel)) ggL_law_X5_getOr
set_option maxRecDepth 20000 in
theorem ggL_law_X4_replace : GoodIn wsL_law wsX4_replace := goodIn_r _ [288, 16, 138, 139, 140, 15, 141, 34, 142, 143, 144, 27, 145, 45, 122, 123, 124, 125, 43, 126, 127, 128, 129, 98, 99, 100, 2, 101, 24, 20, 102, 103, 104, 23, 105, 59, 106, 107, 108, 19, 109, 52, 51, 53, 110, 111, 112, 113, 114, 115, 116, 117, 35, 36, 37, 118, 119, 120, 121, 130, 131, 132, 133, 44, 134, 135, 136, 137, 146, 147, 148, 149, 150, 151, 152, 153, 154, 155, 156, 157, 158, 159, 160, 161, 162, 163, 164, 165, 611, 612, 613, 614, 634, 635, 636, 637, 645, 646, 647, 641, 642, 643, 644, 638, 639, 640] (by decide +kernel) (by decide +kernel)
set_option maxRecDepth 20000 in
theorem gL_law_X4_replace : GoodIn wsL_law (wsV RL 100 RX4 yX4_replace wsX4_replace) := goodIn_app (goodIn_of _ (by decide +kernel)) ggL_law_X4_replace
set_option maxRecDepth 20000 in
theorem ggL_law_X5_replace : GoodIn wsL_law wsX5_replace := goodIn_r _ [292, 200, 68, 69, 219, 220, 221, 5, 222, 211, 201, 202, 203, 204, 205, 206, 207, 208, 209, 210, 74, 75, 70, 76, 77, 78, 71, 80, 72, 212, 213, 214, 215, 216, 217, 218, 235, 236, 237, 238, 615, 616, 617, 618, 619, 620, 621, 622, 623, 624, 625, 626, 627, 628, 629, 630, 631, 632, 633] (by decide +kernel) (by decide +kernel)
set_option maxRecDepth 20000 in
theorem gL_law_X5_replace : GoodIn wsL_law (wsV RL 103 RX5 yX5_replace wsX5_replace) := goodIn_app (goodIn_of _ (by decide +kernel)) ggL_law_X5_replace
set_option maxRecDepth 20000 in
theorem ggL_law_X4_replaceIf : GoodIn wsL_law wsX4_replaceIf := goodIn_r _ [296, 16, 138, 139, 140, 15, 141, 34, 142, 143, 144, 27, 145, 45, 122, 123, 124, 125, 43, 126, 127, 128, 129, 268, 269, 270, 271, 272, 131, 132, 133, 44, 98, 99, 100, 2, 101, 24, 20, 102, 103, 104, 23, 105, 59, 106, 107, 108, 19, 109, 52, 51, 53, 110, 111, 112, 113, 114, 115, 116, 117, 35, 36, 37, 118, 119, 120, 121, 130, 134, 135, 136, 137, 146, 147, 148, 149, 150, 151, 152, 153, 154, 155, 156, 157, 158, 159, 160, 161, 162, 163, 164, 165, 611, 612, 613, 614, 634, 635, 636, 637, 645, 646, 647, 641, 642, 643, 644, 638, 639, 640] (by decide +kernel) (by decide +kernel)
set_option maxRecDepth 20000 in
theorem gL_law_X4_replaceIf : GoodIn wsL_law (wsV RL 104 RX4 yX4_replaceIf wsX4_replaceIf) := goodIn_app (goodIn_of _ (by decide +kernel)) ggL_law_X4_replaceIf
set_option maxRecDepth 20000 in
theorem ggL_law_X5_replaceIf : GoodIn wsL_law wsX5_replaceIf := goodIn_r _ [300, 200, 68, 69, 219, 220, 221, 5, 222, 211, 201, 202, 203, 204, 205, 206, 207, 208, 209, 210, 74, 75, 70, 76, 77, 78, 71, 80, 72, 212, 213, 214, 215, 216, 217, 218, 235, 236, 237, 238, 615, 616, 617, 618, 619, 620, 621, 622, 623, 624, 625, 626, 627, 628, 629, 630, 631, 632, 633] (by decide +kernel) (by decide +kernel)
set_option maxRecDepth 20000 in
theorem gL_law_X5_replaceIf : GoodIn wsL_law (wsV RL 108 RX5 yX5_replaceIf wsX5_replaceIf) := goodIn_app (goodIn_of _ (by decide +kernel)) ggL_law_X5_replaceIf
set_option maxRecDepth 20000 in
theorem ggL_law_L_look : GoodIn wsL_law wsL_look := goodIn_ca (goodIn_r _ [303, 257, 304, 305, 306, 2, 307, 16, 262, 263, 264, 265, 266, 267, 138, 139, 140, 15, 141, 34, 142, 143, 144, 27, 145, 45, 122, 123, 124, 125, 43, 126, 127, 128, 129, 268, 269, 270, 271, 272, 131, 132, 133, 44, 611, 612, 613, 614, 634, 635, 636, 637, 645, 646, 647] (by decide +kernel) (by decide +kernel)) (goodIn_sub (fun _ h => List.mem_append_left _ (List.mem_append_left _ (List.mem_append_right _ h))) (by decide +kernel))
set_option maxRecDepth 20000 in
theorem gL_law_L_look : GoodIn wsL_law (va_wsS RL 109 yL_look wsL_look) := goodIn_app (goodIn_of _ (by decide +kernel)) ggL_law_L_look
set_option maxRecDepth 20000 in
theorem ggL_law_X5_look : GoodIn wsL_law wsX5_look := goodIn_r _ [311, 68, 69, 219, 220, 221, 5, 222, 211, 196, 197, 198, 199, 200, 615, 616, 617, 618, 619, 620, 621, 622, 623, 624, 625, 626, 627, 628, 629, 630, 631, 632, 633] (by decide +kernel) (by decide +kernel)
set_option maxRecDepth 20000 in
theorem gL_law_X5_look : GoodIn wsL_law (wsV RL 111 RX5 yX5_look wsX5_look) := goodIn_app (goodIn_of _ (by decide +kernel)) ggL_law_X5_look
set_option maxRecDepth 20000 in
theorem ggL_law_X4_has : GoodIn wsL_law wsX4_has := goodIn_r _ [315, 16, 138, 139, 140, 15, 141, 34, 142, 143, 144, 27, 145, 45, 122, 123, 124, 125, 43, 126, 127, 128, 129, 611, 612, 613, 614, 634, 635, 636, 637, 645, 646, 647] (by decide +kernel) (by decide +kernel)
set_option maxRecDepth 20000 in
theorem gL_law_X4_has : GoodIn wsL_law (wsV RL 112 RX4 yX4_has wsX4_has) := goodIn_app (goodIn_of _ (by decide +kernel)) ggL_law_X4_has
set_option maxRecDepth 20000 in
theorem ggL_law_X5_has : GoodIn wsL_law wsX5_has := goodIn_r _ [319, 200, 68, 219, 220, 221, 5, 222, 211, 615, 616, 617, 618, 619, 620, 621, 622, 623, 624, 625, 626, 627, 628, 629, 630, 631, 632, 633] (by decide +kernel) (by decide +kernel)
set_option maxRecDepth 20000 in
theorem gL_law_X5_has : GoodIn wsL_law (wsV RL 116 RX5 yX5_has wsX5_has) := goodIn_app (goodIn_of _ (by decide +kernel)) ggL_law_X5_has
set_option maxRecDepth 20000 in
theorem ggL_law_L_remove : GoodIn wsL_law wsL_remove := goodIn_ca (goodIn_r _ [322, 257, 323, 324, 325, 2, 326, 16, 262, 263, 264, 265, 266, 267, 138, 139, 140, 15, 141, 34, 142, 143, 144, 27, 145, 45, 122, 123, 124, 125, 43, 126, 127, 128, 129, 268, 269, 270, 271, 272, 131, 132, 133, 44, 98, 99, 100, 101, 24, 20, 102, 103, 104, 23, 105, 59, 106, 107, 108, 19, 109, 52, 51, 53, 110, 111, 112, 113, 114, 115, 116, 117, 35, 36, 37, 118, 119, 120, 121, 130, 134, 135, 136, 137, 327, 184, 185, 186, 187, 163, 164, 165, 611, 612, 613, 614, 634, 635, 636, 637, 645, 646, 647, 641, 642, 643, 644, 638, 639, 640] (by decide +kernel) (by decide +kernel)) (goodIn_sub (fun _ h => List.mem_append_left _ (List.mem_append_left _ (List.mem_append_right _ h))) (by decide +kernel))
set_option maxRecDepth 20000 in
theorem gL_law_L_remove : GoodIn wsL_law (va_wsS RL 117 yL_remove wsL_remove) := goodIn_app (goodIn_of _ (by decide +kernel)) ggL_law_L_remove
set_option maxRecDepth 20000 in
theorem ggL_law_X5_remove : GoodIn wsL_law wsX5_remove := goodIn_r _ [331, 68, 69, 219, 220, 221, 5, 222, 211, 196, 197, 198, 199, 200, 201, 202, 203, 204, 205, 206, 207, 208, 209, 210, 74, 75, 70, 76, 77, 78, 71, 80, 72, 212, 213, 214, 215, 216, 217, 218, 231, 232, 233, 234, 615, 616, 617, 618, 619, 620, 621, 622, 623, 624, 625, 626, 627, 628, 629, 630, 631, 632, 633] (by decide +kernel) (by decide +kernel)
set_option maxRecDepth 20000 in
theorem gL_law_X5_remove : GoodIn wsL_law (wsV RL 119 RX5 yX5_remove wsX5_remove) := goodIn_app (goodIn_of _ (by decide +kernel)) ggL_law_X5_remove
set_option maxRecDepth 20000 in
theorem ggL_law_X4_size : GoodIn wsL_law wsX4_size := goodIn_r _ [335, 16, 336, 171, 172, 27, 173, 45, 611, 612, 613, 614, 634, 635, 636, 637, 645, 646, 647] (by decide +kernel) (by decide +kernel)
set_option maxRecDepth 20000 in
theorem gL_law_X4_size : GoodIn wsL_law (wsV RL 120 RX4 yX4_size wsX4_size) := goodIn_app (goodIn_of _ (by decide +kernel)) ggL_law_X4_size
set_option maxRecDepth 20000 in
theorem ggL_law_X5_size : GoodIn wsL_law wsX5_size := goodIn_r _ [340, 200, 211, 615, 616, 617, 618, 619, 620, 621, 622, 623, 624, 625, 626, 627, 628, 629, 630, 631, 632, 633] (by decide +kernel) (by decide +kernel)
set_option maxRecDepth 20000 in
theorem gL_law_X5_size : GoodIn wsL_law (wsV RL 123 RX5 yX5_size wsX5_size) := goodIn_app (goodIn_of _ (by decide +kernel)) ggL_law_X5_size
set_option maxRecDepth 20000 in
theorem ggL_law_L_limit : GoodIn wsL_law wsL_limit := goodIn_ca (goodIn_r _ [343, 87, 344, 345, 346, 2, 347, 96, 97, 16, 98, 99, 100, 101, 24, 20, 102, 103, 104, 23, 105, 59, 106, 107, 108, 19, 109, 52, 51, 53, 110, 111, 112, 113, 114, 115, 116, 15, 117, 34, 35, 36, 37, 118, 119, 120, 27, 121, 45, 122, 123, 124, 125, 43, 126, 127, 128, 129, 130, 131, 132, 133, 44, 134, 135, 136, 137, 348, 349, 350, 351, 352, 353, 354, 170, 171, 172, 173, 174, 175, 176, 177, 178, 179, 180, 181, 182, 183, 184, 185, 186, 142, 143, 144, 145, 187, 163, 164, 165, 611, 612, 613, 614, 634, 635, 636, 637, 641, 642, 643, 644, 638, 639, 640, 645, 646, 647] (by decide +kernel) (by decide +kernel)) (goodIn_sub (fun _ h => List.mem_append_left _ (List.mem_append_left _ (List.mem_append_left _ (List.mem_append_right _ h)))) (by decide +kernel))
set_option maxRecDepth 20000 in
theorem gL_law_L_limit : GoodIn wsL_law (va_wsS RL 124 yL_limit wsL_limit) := goodIn_app (goodIn_of _ (by decide +kernel)) ggL_law_L_limit
set_option maxRecDepth 20000 in
theorem ggL_law_X5_limit : GoodIn wsL_law wsX5_limit := goodIn_r _ [358, 71, 211, 72, 193, 194, 5, 195, 196, 197, 198, 199, 200, 201, 202, 203, 204, 205, 206, 207, 208, 209, 210, 68, 74, 69, 75, 70, 76, 77, 78, 80, 212, 213, 214, 215, 216, 217, 218, 227, 228, 229, 230, 231, 232, 233, 234, 219, 220, 221, 222, 615, 616, 617, 618, 619, 620, 621, 622, 623, 624, 625, 626, 627, 628, 629, 630, 631, 632, 633] (by decide +kernel) (by decide +kernel)
set_option maxRecDepth 20000 in
theorem gL_law_X5_limit : GoodIn wsL_law (wsV RL 126 RX5 yX5_limit wsX5_limit) := goodIn_app (goodIn_of _ (by decide +kernel)) ggL_law_X5_limit
set_option maxRecDepth 20000 in
theorem ggL_law_L_way : GoodIn wsL_law wsL_way := goodIn_ca (goodIn_r _ [361, 87, 362, 363, 364, 2, 365, 16, 366, 367, 368, 369, 96, 97, 98, 99, 100, 101, 24, 20, 102, 103, 104, 23, 105, 59, 106, 107, 108, 19, 109, 52, 51, 53, 110, 111, 112, 113, 114, 115, 116, 15, 117, 34, 35, 36, 37, 118, 119, 120, 27, 121, 45, 122, 123, 124, 125, 43, 126, 127, 128, 129, 130, 131, 132, 133, 44, 134, 135, 136, 137, 611, 612, 613, 614, 634, 635, 636, 637, 641, 642, 643, 644, 638, 639, 640, 645, 646, 647] (by decide +kernel) (by decide +kernel)) (goodIn_sub (fun _ h => List.mem_append_left _ (List.mem_append_left _ (List.mem_append_left _ (List.mem_append_right _ h)))) (by decide +kernel))
set_option maxRecDepth 20000 in
theorem gL_law_L_way : GoodIn wsL_law (va_wsS RL 127 yL_way wsL_way) := goodIn_app (goodIn_of _ (by decide +kernel)) ggL_law_L_way
set_option maxRecDepth 20000 in
theorem ggL_law_X5_way : GoodIn wsL_law wsX5_way := goodIn_r _ [373, 72, 374, 375, 5, 376, 196, 197, 198, 199, 200, 201, 202, 203, 204, 205, 206, 207, 208, 209, 210, 68, 74, 69, 75, 70, 76, 77, 211, 78, 71, 80, 212, 213, 214, 215, 216, 217, 218, 615, 616, 617, 618, 619, 620, 621, 622, 623, 624, 625, 626, 627, 628, 629, 630, 631, 632, 633] (by decide +kernel) (by decide +kernel)
set_option maxRecDepth 20000 in
theorem gL_law_X5_way : GoodIn wsL_law (wsV RL 130 RX5 yX5_way wsX5_way) := goodIn_app (goodIn_of _ (by decide +kernel)) ggL_law_X5_way
set_option maxRecDepth 20000 in
theorem ggL_law_L_keyAt : GoodIn wsL_law wsL_keyAt := goodIn_ca (goodIn_ca (goodIn_r _ [379, 87, 380, 381, 382, 383, 2, 384, 16, 366, 367, 368, 369, 96, 97, 385, 386, 387, 388, 389, 390, 391, 127, 128, 27, 129, 45, 43, 392, 179, 180, 15, 181, 35, 34, 393, 123, 124, 125, 126, 611, 612, 613, 614, 634, 635, 636, 637, 645, 646, 647] (by decide +kernel) (by decide +kernel)) (goodIn_sub (fun _ h => List.mem_append_left _ (List.mem_append_left _ (List.mem_append_left _ (List.mem_append_right _ h)))) (by decide +kernel))) (goodIn_sub (fun _ h => List.mem_append_left _ (List.mem_append_right _ h)) (by decide +kernel))
set_option maxRecDepth 20000 in
theorem gL_law_L_keyAt : GoodIn wsL_law (va_wsS RL 131 yL_keyAt wsL_keyAt) := goodIn_app (goodIn_of _ (by decide +kernel)) ggL_law_L_keyAt
set_option maxRecDepth 20000 in
theorem ggL_law_X5_keyAt : GoodIn wsL_law wsX5_keyAt := goodIn_r _ [397, 211, 374, 375, 5, 376, 196, 197, 198, 199, 200, 193, 194, 195, 227, 228, 229, 230, 68, 70, 615, 616, 617, 618, 619, 620, 621, 622, 623, 624, 625, 626, 627, 628, 629, 630, 631, 632, 633] (by decide +kernel) (by decide +kernel)
set_option maxRecDepth 20000 in
theorem gL_law_X5_keyAt : GoodIn wsL_law (wsV RL 134 RX5 yX5_keyAt wsX5_keyAt) := goodIn_app (goodIn_of _ (by decide +kernel)) ggL_law_X5_keyAt
set_option maxRecDepth 20000 in
theorem ggL_law_L_placeOf : GoodIn wsL_law wsL_placeOf := goodIn_ca (goodIn_ca (goodIn_r _ [400, 87, 257, 401, 402, 403, 2, 404, 16, 366, 367, 368, 369, 96, 97, 262, 263, 264, 265, 266, 267, 138, 139, 140, 15, 141, 34, 142, 143, 144, 27, 145, 45, 122, 123, 124, 125, 43, 126, 127, 128, 129, 392, 179, 180, 181, 35, 405, 611, 612, 613, 614, 634, 635, 636, 637, 645, 646, 647] (by decide +kernel) (by decide +kernel)) (goodIn_sub (fun _ h => List.mem_append_left _ (List.mem_append_left _ (List.mem_append_left _ (List.mem_append_right _ h)))) (by decide +kernel))) (goodIn_sub (fun _ h => List.mem_append_left _ (List.mem_append_left _ (List.mem_append_right _ h))) (by decide +kernel))
set_option maxRecDepth 20000 in
theorem gL_law_L_placeOf : GoodIn wsL_law (va_wsS RL 135 yL_placeOf wsL_placeOf) := goodIn_app (goodIn_of _ (by decide +kernel)) ggL_law_L_placeOf
set_option maxRecDepth 20000 in
theorem ggL_law_X5_placeOf : GoodIn wsL_law wsX5_placeOf := goodIn_r _ [409, 374, 375, 5, 376, 196, 197, 198, 199, 200, 227, 228, 229, 230, 68, 70, 219, 220, 221, 222, 211, 615, 616, 617, 618, 619, 620, 621, 622, 623, 624, 625, 626, 627, 628, 629, 630, 631, 632, 633] (by decide +kernel) (by decide +kernel)
set_option maxRecDepth 20000 in
theorem gL_law_X5_placeOf : GoodIn wsL_law (wsV RL 137 RX5 yX5_placeOf wsX5_placeOf) := goodIn_app (goodIn_of _ (by decide +kernel)) ggL_law_X5_placeOf
set_option maxRecDepth 20000 in
theorem ggL_law_L_setAt : GoodIn wsL_law wsL_setAt := goodIn_ca (goodIn_ca (goodIn_r _ [412, 87, 380, 413, 414, 415, 2, 416, 16, 366, 367, 368, 369, 96, 97, 385, 386, 387, 388, 389, 390, 391, 127, 128, 27, 129, 45, 43, 392, 179, 180, 15, 181, 35, 34, 417, 131, 132, 133, 44, 126, 98, 99, 100, 101, 24, 20, 102, 103, 104, 23, 105, 59, 106, 107, 108, 19, 109, 52, 51, 53, 110, 111, 112, 113, 114, 115, 116, 117, 36, 37, 118, 119, 120, 121, 122, 123, 124, 125, 130, 134, 135, 136, 137, 393, 146, 147, 148, 149, 142, 143, 144, 145, 150, 151, 152, 153, 611, 612, 613, 614, 634, 635, 636, 637, 645, 646, 647, 641, 642, 643, 644, 638, 639, 640] (by decide +kernel) (by decide +kernel)) (goodIn_sub (fun _ h => List.mem_append_left _ (List.mem_append_left _ (List.mem_append_left _ (List.mem_append_right _ h)))) (by decide +kernel))) (goodIn_sub (fun _ h => List.mem_append_left _ (List.mem_append_right _ h)) (by decide +kernel))
set_option maxRecDepth 20000 in
theorem gL_law_L_setAt : GoodIn wsL_law (va_wsS RL 138 yL_setAt wsL_setAt) := goodIn_app (goodIn_of _ (by decide +kernel)) ggL_law_L_setAt
set_option maxRecDepth 20000 in
theorem ggL_law_X5_setAt : GoodIn wsL_law wsX5_setAt := goodIn_r _ [421, 211, 68, 69, 374, 375, 5, 376, 196, 197, 198, 199, 200, 193, 194, 195, 201, 202, 203, 204, 205, 206, 207, 208, 209, 210, 74, 75, 70, 76, 77, 78, 71, 80, 72, 212, 213, 214, 215, 216, 217, 218, 227, 228, 229, 230, 219, 220, 221, 222, 615, 616, 617, 618, 619, 620, 621, 622, 623, 624, 625, 626, 627, 628, 629, 630, 631, 632, 633] (by decide +kernel) (by decide +kernel)
set_option maxRecDepth 20000 in
theorem gL_law_X5_setAt : GoodIn wsL_law (wsV RL 141 RX5 yX5_setAt wsX5_setAt) := goodIn_app (goodIn_of _ (by decide +kernel)) ggL_law_X5_setAt
set_option maxRecDepth 20000 in
theorem ggL_law_L_removeAt : GoodIn wsL_law wsL_removeAt := goodIn_ca (goodIn_ca (goodIn_r _ [424, 87, 380, 425, 426, 427, 2, 428, 16, 366, 367, 368, 369, 96, 97, 385, 386, 387, 388, 389, 390, 391, 127, 128, 27, 129, 45, 43, 392, 179, 180, 15, 181, 35, 34, 393, 123, 124, 125, 126, 98, 99, 100, 101, 24, 20, 102, 103, 104, 23, 105, 59, 106, 107, 108, 19, 109, 52, 51, 53, 110, 111, 112, 113, 114, 115, 116, 117, 36, 37, 118, 119, 120, 121, 122, 130, 131, 132, 133, 44, 134, 135, 136, 137, 327, 184, 185, 186, 142, 143, 144, 145, 187, 163, 164, 165, 611, 612, 613, 614, 634, 635, 636, 637, 645, 646, 647, 641, 642, 643, 644, 638, 639, 640] (by decide +kernel) (by decide +kernel)) (goodIn_sub (fun _ h => List.mem_append_left _ (List.mem_append_left _ (List.mem_append_left _ (List.mem_append_right _ h)))) (by decide +kernel))) (goodIn_sub (fun _ h => List.mem_append_left _ (List.mem_append_right _ h)) (by decide +kernel))
set_option maxRecDepth 20000 in
theorem gL_law_L_removeAt : GoodIn wsL_law (va_wsS RL 142 yL_removeAt wsL_removeAt) := goodIn_app (goodIn_of _ (by decide +kernel)) ggL_law_L_removeAt
set_option maxRecDepth 20000 in
theorem ggL_law_X5_removeAt : GoodIn wsL_law wsX5_removeAt := goodIn_r _ [432, 211, 374, 375, 5, 376, 196, 197, 198, 199, 200, 193, 194, 195, 201, 202, 203, 204, 205, 206, 207, 208, 209, 210, 68, 74, 69, 75, 70, 76, 77, 78, 71, 80, 72, 212, 213, 214, 215, 216, 217, 218, 227, 228, 229, 230, 231, 232, 233, 234, 219, 220, 221, 222, 615, 616, 617, 618, 619, 620, 621, 622, 623, 624, 625, 626, 627, 628, 629, 630, 631, 632, 633] (by decide +kernel) (by decide +kernel)
set_option maxRecDepth 20000 in
theorem gL_law_X5_removeAt : GoodIn wsL_law (wsV RL 144 RX5 yX5_removeAt wsX5_removeAt) := goodIn_app (goodIn_of _ (by decide +kernel)) ggL_law_X5_removeAt
set_option maxRecDepth 20000 in
theorem ggL_law_L_thin : GoodIn wsL_law wsL_thin := goodIn_ca (goodIn_r _ [435, 87, 436, 437, 438, 2, 439, 96, 97, 16, 366, 367, 368, 369, 336, 171, 172, 27, 173, 45, 98, 99, 100, 101, 24, 20, 102, 103, 104, 23, 105, 59, 106, 107, 108, 19, 109, 52, 51, 53, 110, 111, 112, 113, 114, 115, 116, 15, 117, 34, 35, 36, 37, 118, 119, 120, 121, 122, 123, 124, 125, 43, 126, 127, 128, 129, 130, 131, 132, 133, 44, 134, 135, 136, 137, 440, 441, 442, 443, 170, 178, 179, 180, 181, 182, 183, 184, 185, 186, 142, 143, 144, 145, 187, 163, 164, 165, 611, 612, 613, 614, 634, 635, 636, 637, 645, 646, 647, 641, 642, 643, 644, 638, 639, 640] (by decide +kernel) (by decide +kernel)) (goodIn_sub (fun _ h => List.mem_append_left _ (List.mem_append_left _ (List.mem_append_left _ (List.mem_append_right _ h)))) (by decide +kernel))
set_option maxRecDepth 20000 in
theorem gL_law_L_thin : GoodIn wsL_law (va_wsS RL 145 yL_thin wsL_thin) := goodIn_app (goodIn_of _ (by decide +kernel)) ggL_law_L_thin
set_option maxRecDepth 20000 in
theorem ggL_law_X5_thin : GoodIn wsL_law wsX5_thin := goodIn_r _ [447, 211, 374, 375, 5, 376, 193, 194, 195, 196, 197, 198, 199, 200, 201, 202, 203, 204, 205, 206, 207, 208, 209, 210, 68, 74, 69, 75, 70, 76, 77, 78, 71, 80, 72, 212, 213, 214, 215, 216, 217, 218, 227, 228, 229, 230, 231, 232, 233, 234, 219, 220, 221, 222, 615, 616, 617, 618, 619, 620, 621, 622, 623, 624, 625, 626, 627, 628, 629, 630, 631, 632, 633] (by decide +kernel) (by decide +kernel)
set_option maxRecDepth 20000 in
theorem gL_law_X5_thin : GoodIn wsL_law (wsV RL 147 RX5 yX5_thin wsX5_thin) := goodIn_app (goodIn_of _ (by decide +kernel)) ggL_law_X5_thin
set_option maxRecDepth 20000 in
theorem ggL_law_L_walk : GoodIn wsL_law wsL_walk := goodIn_ca (goodIn_r _ [450, 87, 451, 452, 453, 2, 454, 24, 16, 366, 367, 368, 369, 96, 97, 455, 456, 457, 23, 458, 59, 60, 61, 62, 336, 171, 172, 27, 173, 45, 611, 612, 613, 614, 634, 635, 636, 637, 641, 642, 643, 644, 645, 646, 647] (by decide +kernel) (by decide +kernel)) (goodIn_sub (fun _ h => List.mem_append_left _ (List.mem_append_left _ (List.mem_append_left _ (List.mem_append_right _ h)))) (by decide +kernel))
set_option maxRecDepth 20000 in
theorem gL_law_L_walk : GoodIn wsL_law (va_wsS RL 148 yL_walk wsL_walk) := goodIn_app (goodIn_of _ (by decide +kernel)) ggL_law_L_walk
set_option maxRecDepth 20000 in
theorem ggL_law_X5_walk : GoodIn wsL_law wsX5_walk := goodIn_r _ [462, 205, 81, 211, 463, 464, 82, 374, 375, 5, 376, 196, 197, 198, 199, 200, 227, 228, 229, 230, 68, 70, 216, 217, 218, 615, 616, 617, 618, 619, 620, 621, 622, 623, 624, 625, 626, 627, 628, 629, 630, 631, 632, 633] (by decide +kernel) (by decide +kernel)
set_option maxRecDepth 20000 in
theorem gL_law_X5_walk : GoodIn wsL_law (wsV RL 150 RX5 yX5_walk wsX5_walk) := goodIn_app (goodIn_of _ (by decide +kernel)) ggL_law_X5_walk
set_option maxRecDepth 20000 in
theorem ggL_law_L_step : GoodIn wsL_law wsL_step := goodIn_ca (goodIn_ca (goodIn_r _ [467, 468, 257, 469, 470, 471, 2, 472, 473, 474, 266, 267, 24, 16, 475, 476, 477, 23, 478, 59, 479, 480, 481, 482, 61, 483, 484, 485, 486, 60, 392, 179, 180, 15, 181, 35, 34, 391, 127, 128, 27, 129, 45, 43, 487, 488, 489, 490, 62, 393, 123, 124, 125, 126, 611, 612, 613, 614, 641, 642, 643, 644, 634, 635, 636, 637, 645, 646, 647] (by decide +kernel) (by decide +kernel)) (goodIn_sub (fun _ h => List.mem_append_right _ h) (by decide +kernel))) (goodIn_sub (fun _ h => List.mem_append_left _ (List.mem_append_left _ (List.mem_append_right _ h))) (by decide +kernel))
set_option maxRecDepth 20000 in
theorem gL_law_L_step : GoodIn wsL_law (va_wsS RL 151 yL_step wsL_step) := goodIn_app (goodIn_of _ (by decide +kernel)) ggL_law_L_step
set_option maxRecDepth 20000 in
theorem ggL_law_X5_step : GoodIn wsL_law wsX5_step := goodIn_r _ [494, 205, 464, 463, 81, 82, 196, 197, 198, 5, 199, 200, 615, 616, 617, 618, 619, 620, 621, 622, 623, 624, 625, 626, 627, 628, 629, 630, 631, 632, 633] (by decide +kernel) (by decide +kernel)
set_option maxRecDepth 20000 in
theorem gL_law_X5_step : GoodIn wsL_law (wsV RL 154 RX5 yX5_step wsX5_step) := goodIn_app (goodIn_of _ (by decide +kernel)) ggL_law_X5_step
set_option maxRecDepth 20000 in
theorem ggL_law_L_cut : GoodIn wsL_law wsL_cut := goodIn_ca (goodIn_r _ [497, 468, 498, 499, 500, 2, 501, 473, 474, 24, 20, 16, 475, 476, 477, 23, 478, 59, 502, 503, 504, 505, 62, 106, 107, 108, 19, 109, 52, 51, 53, 110, 111, 112, 113, 114, 115, 116, 15, 117, 34, 35, 36, 37, 118, 119, 120, 27, 121, 45, 122, 123, 124, 125, 43, 126, 127, 128, 129, 130, 131, 132, 133, 44, 134, 135, 136, 137, 483, 484, 485, 486, 60, 392, 179, 180, 181, 479, 480, 481, 482, 61, 393, 327, 184, 185, 186, 142, 143, 144, 145, 187, 163, 164, 165, 506, 507, 508, 509, 336, 171, 172, 173, 611, 612, 613, 614, 634, 635, 636, 637, 641, 642, 643, 644, 638, 639, 640, 645, 646, 647] (by decide +kernel) (by decide +kernel)) (goodIn_sub (fun _ h => List.mem_append_right _ h) (by decide +kernel))
set_option maxRecDepth 20000 in
theorem gL_law_L_cut : GoodIn wsL_law (va_wsS RL 155 yL_cut wsL_cut) := goodIn_app (goodIn_of _ (by decide +kernel)) ggL_law_L_cut
set_option maxRecDepth 20000 in
theorem ggL_law_X5_cut : GoodIn wsL_law wsX5_cut := goodIn_r _ [513, 205, 82, 211, 196, 197, 198, 5, 199, 200, 206, 207, 208, 209, 210, 68, 74, 69, 75, 70, 76, 77, 78, 71, 80, 72, 212, 213, 214, 215, 216, 217, 218, 231, 232, 233, 234, 219, 220, 221, 222, 615, 616, 617, 618, 619, 620, 621, 622, 623, 624, 625, 626, 627, 628, 629, 630, 631, 632, 633] (by decide +kernel) (by decide +kernel)
set_option maxRecDepth 20000 in
theorem gL_law_X5_cut : GoodIn wsL_law (wsV RL 157 RX5 yX5_cut wsX5_cut) := goodIn_app (goodIn_of _ (by decide +kernel)) ggL_law_X5_cut
set_option maxRecDepth 20000 in
theorem ggL_law_X4_moves : GoodIn wsL_law wsX4_moves := goodIn_r _ [517, 16, 336, 171, 172, 27, 173, 45, 518, 519, 520, 15, 521, 35, 34, 170, 182, 123, 124, 125, 43, 126, 127, 128, 129, 142, 143, 144, 145, 122, 611, 612, 613, 614, 634, 635, 636, 637, 645, 646, 647] (by decide +kernel) (by decide +kernel)
set_option maxRecDepth 20000 in
theorem gL_law_X4_moves : GoodIn wsL_law (wsV RL 158 RX4 yX4_moves wsX4_moves) := goodIn_app (goodIn_of _ (by decide +kernel)) ggL_law_X4_moves
set_option maxRecDepth 20000 in
theorem ggL_law_X5_moves : GoodIn wsL_law wsX5_moves := goodIn_r _ [525, 200, 211, 526, 527, 528, 5, 529, 68, 70, 219, 220, 221, 222, 615, 616, 617, 618, 619, 620, 621, 622, 623, 624, 625, 626, 627, 628, 629, 630, 631, 632, 633] (by decide +kernel) (by decide +kernel)
set_option maxRecDepth 20000 in
theorem gL_law_X5_moves : GoodIn wsL_law (wsV RL 161 RX5 yX5_moves wsX5_moves) := goodIn_app (goodIn_of _ (by decide +kernel)) ggL_law_X5_moves
set_option maxRecDepth 20000 in
theorem ggL_law_L_move : GoodIn wsL_law wsL_move := goodIn_ca (goodIn_r _ [532, 380, 533, 534, 535, 2, 536, 389, 390, 16, 518, 519, 520, 15, 521, 35, 34, 170, 171, 172, 27, 173, 45, 182, 123, 124, 125, 43, 126, 127, 128, 129, 142, 143, 144, 145, 122, 336, 393, 611, 612, 613, 614, 634, 635, 636, 637, 645, 646, 647] (by decide +kernel) (by decide +kernel)) (goodIn_sub (fun _ h => List.mem_append_left _ (List.mem_append_right _ h)) (by decide +kernel))
set_option maxRecDepth 20000 in
theorem gL_law_L_move : GoodIn wsL_law (va_wsS RL 162 yL_move wsL_move) := goodIn_app (goodIn_of _ (by decide +kernel)) ggL_law_L_move
set_option maxRecDepth 20000 in
theorem ggL_law_X5_move : GoodIn wsL_law wsX5_move := goodIn_r _ [540, 211, 70, 526, 527, 528, 5, 529, 68, 219, 220, 221, 222, 193, 194, 195, 196, 197, 198, 199, 200, 615, 616, 617, 618, 619, 620, 621, 622, 623, 624, 625, 626, 627, 628, 629, 630, 631, 632, 633] (by decide +kernel) (by decide +kernel)
set_option maxRecDepth 20000 in
theorem gL_law_X5_move : GoodIn wsL_law (wsV RL 164 RX5 yX5_move wsX5_move) := goodIn_app (goodIn_of _ (by decide +kernel)) ggL_law_X5_move
set_option maxRecDepth 20000 in
theorem ggL_law_X4_crossings : GoodIn wsL_law wsX4_crossings := goodIn_r _ [544, 16, 545, 546, 547, 15, 548, 35, 34, 170, 171, 172, 27, 173, 45, 182, 123, 124, 125, 43, 126, 127, 128, 129, 142, 143, 144, 145, 122, 611, 612, 613, 614, 634, 635, 636, 637, 645, 646, 647] (by decide +kernel) (by decide +kernel)
set_option maxRecDepth 20000 in
theorem gL_law_X4_crossings : GoodIn wsL_law (wsV RL 165 RX4 yX4_crossings wsX4_crossings) := goodIn_app (goodIn_of _ (by decide +kernel)) ggL_law_X4_crossings
set_option maxRecDepth 20000 in
theorem ggL_law_X5_crossings : GoodIn wsL_law wsX5_crossings := goodIn_r _ [552, 200, 211, 70, 68, 219, 220, 221, 5, 222, 615, 616, 617, 618, 619, 620, 621, 622, 623, 624, 625, 626, 627, 628, 629, 630, 631, 632, 633] (by decide +kernel) (by decide +kernel)
set_option maxRecDepth 20000 in
theorem gL_law_X5_crossings : GoodIn wsL_law (wsV RL 168 RX5 yX5_crossings wsX5_crossings) := goodIn_app (goodIn_of _ (by decide +kernel)) ggL_law_X5_crossings
set_option maxRecDepth 20000 in
theorem ggL_law_L_undo : GoodIn wsL_law wsL_undo := goodIn_ca (goodIn_r _ [555, 257, 556, 557, 558, 2, 559, 266, 267, 20, 24, 16, 560, 561, 562, 19, 563, 53, 102, 103, 104, 23, 105, 59, 564, 565, 566, 567, 52, 51, 114, 115, 116, 15, 117, 34, 35, 36, 37, 118, 119, 120, 27, 121, 45, 122, 123, 124, 125, 43, 126, 127, 128, 129, 130, 131, 132, 133, 44, 134, 135, 136, 137, 611, 612, 613, 614, 638, 639, 640, 641, 642, 643, 644, 634, 635, 636, 637, 645, 646, 647] (by decide +kernel) (by decide +kernel)) (goodIn_sub (fun _ h => List.mem_append_left _ (List.mem_append_left _ (List.mem_append_right _ h))) (by decide +kernel))
set_option maxRecDepth 20000 in
theorem gL_law_L_undo : GoodIn wsL_law (va_wsS RL 169 yL_undo wsL_undo) := goodIn_app (goodIn_of _ (by decide +kernel)) ggL_law_L_undo
set_option maxRecDepth 20000 in
theorem ggL_law_X5_undo : GoodIn wsL_law wsX5_undo := goodIn_r _ [571, 210, 74, 68, 75, 69, 76, 70, 77, 211, 78, 71, 80, 72, 205, 196, 197, 198, 5, 199, 200, 216, 217, 218, 615, 616, 617, 618, 619, 620, 621, 622, 623, 624, 625, 626, 627, 628, 629, 630, 631, 632, 633] (by decide +kernel) (by decide +kernel)
set_option maxRecDepth 20000 in
theorem gL_law_X5_undo : GoodIn wsL_law (wsV RL 171 RX5 yX5_undo wsX5_undo) := goodIn_app (goodIn_of _ (by decide +kernel)) ggL_law_X5_undo
set_option maxRecDepth 20000 in
theorem ggL_law_X4_isTrue : GoodIn wsL_law wsX4_isTrue := goodIn_r _ [575, 16, 576, 577, 578, 27, 579, 45, 122, 123, 124, 125, 43, 126, 127, 128, 129, 580, 143, 144, 145, 581, 582, 583, 584, 130, 131, 132, 133, 44, 336, 171, 172, 173, 585, 586, 587, 2, 588, 28, 589, 119, 120, 121, 134, 135, 136, 137, 518, 519, 520, 15, 521, 35, 34, 170, 182, 142, 393, 405, 590, 159, 160, 161, 162, 163, 164, 165, 591, 592, 593, 594, 611, 612, 613, 614, 634, 635, 636, 637, 645, 646, 647] (by decide +kernel) (by decide +kernel)
set_option maxRecDepth 20000 in
theorem gL_law_X4_isTrue : GoodIn wsL_law (wsV RL 172 RX4 yX4_isTrue wsX4_isTrue) := goodIn_app (goodIn_of _ (by decide +kernel)) ggL_law_X4_isTrue
set_option maxRecDepth 20000 in
theorem ggL_law_X5_isTrue : GoodIn wsL_law wsX5_isTrue := goodIn_r _ [598, 200, 615, 616, 617, 618, 619, 620, 621, 622, 623, 624, 625, 626, 627, 628, 629, 630, 631, 632, 633] (by decide +kernel) (by decide +kernel)
set_option maxRecDepth 20000 in
theorem gL_law_X5_isTrue : GoodIn wsL_law (wsV RL 176 RX5 yX5_isTrue wsX5_isTrue) := goodIn_app (goodIn_of _ (by decide +kernel)) ggL_law_X5_isTrue
set_option maxRecDepth 20000 in
theorem ggL_law_X4_checksum : GoodIn wsL_law wsX4_checksum := goodIn_r _ [602, 603, 16, 604, 20, 336, 171, 172, 27, 173, 45, 393, 123, 124, 125, 43, 126, 127, 128, 129, 417, 131, 132, 133, 44, 560, 561, 562, 19, 563, 53, 611, 612, 613, 614, 634, 635, 636, 637, 645, 646, 647, 638, 639, 640] (by decide +kernel) (by decide +kernel)
set_option maxRecDepth 20000 in
theorem gL_law_X4_checksum : GoodIn wsL_law (wsV RL 177 RX4 yX4_checksum wsX4_checksum) := goodIn_app (goodIn_of _ (by decide +kernel)) ggL_law_X4_checksum
set_option maxRecDepth 20000 in
theorem ggL_law_X5_checksum : GoodIn wsL_law wsX5_checksum := goodIn_r _ [608, 200, 609, 211, 610, 68, 69, 70, 71, 72, 210, 615, 616, 617, 618, 619, 620, 621, 622, 623, 624, 625, 626, 627, 628, 629, 630, 631, 632, 633] (by decide +kernel) (by decide +kernel)
set_option maxRecDepth 20000 in
theorem gL_law_X5_checksum : GoodIn wsL_law (wsV RL 181 RX5 yX5_checksum wsX5_checksum) := goodIn_app (goodIn_of _ (by decide +kernel)) ggL_law_X5_checksum

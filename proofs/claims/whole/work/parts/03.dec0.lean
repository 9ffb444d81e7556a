set_option maxRecDepth 20000 in
theorem ggX0_init_X2_init : GoodIn wsX0_init wsX2_init := goodIn_r _ [13, 14, 2, 3, 15, 16, 17, 18, 19, 20, 21] (by decide +kernel) (by decide +kernel)
set_option maxRecDepth 20000 in
theorem gX0_init_X2_init : GoodIn wsX0_init (wsX2_init) := ggX0_init_X2_init
theorem dX0_init_0 : decode cX0_init 0 = .ok (.aload_n 0, 1) := by decide +kernel
theorem dX0_init_1 : decode cX0_init 1 = .ok (.invokespecial 3, 3) := by decide +kernel
theorem dX0_init_4 : decode cX0_init 4 = .ok (.aload_n 0, 1) := by decide +kernel
theorem dX0_init_5 : decode cX0_init 5 = .ok (.new 9, 3) := by decide +kernel
theorem dX0_init_8 : decode cX0_init 8 = .ok (.dup, 1) := by decide +kernel
theorem dX0_init_9 : decode cX0_init 9 = .ok (.invokespecial 11, 3) := by decide +kernel
theorem dX0_init_12 : decode cX0_init 12 = .ok (.putfield 12, 3) := by decide +kernel
theorem dX0_init_15 : decode cX0_init 15 = .ok (.aload_n 0, 1) := by decide +kernel
theorem dX0_init_16 : decode cX0_init 16 = .ok (.new 9, 3) := by decide +kernel
theorem dX0_init_19 : decode cX0_init 19 = .ok (.dup, 1) := by decide +kernel
theorem dX0_init_20 : decode cX0_init 20 = .ok (.invokespecial 11, 3) := by decide +kernel
theorem dX0_init_23 : decode cX0_init 23 = .ok (.putfield 18, 3) := by decide +kernel
theorem dX0_init_26 : decode cX0_init 26 = .ok (.aload_n 0, 1) := by decide +kernel
theorem dX0_init_27 : decode cX0_init 27 = .ok (.bipush 8, 2) := by decide +kernel
theorem dX0_init_29 : decode cX0_init 29 = .ok (.putfield 21, 3) := by decide +kernel
theorem dX0_init_32 : decode cX0_init 32 = .ok (.aload_n 0, 1) := by decide +kernel
theorem dX0_init_33 : decode cX0_init 33 = .ok (.bipush 99, 2) := by decide +kernel
theorem dX0_init_35 : decode cX0_init 35 = .ok (.putfield 25, 3) := by decide +kernel
theorem dX0_init_38 : decode cX0_init 38 = .ok (.return_, 1) := by decide +kernel
theorem dX0_row_0 : decode cX0_row 0 = .ok (.iload_n 1, 1) := by decide +kernel
theorem dX0_row_1 : decode cX0_row 1 = .ok (.bipush 97, 2) := by decide +kernel
theorem dX0_row_3 : decode cX0_row 3 = .ok (.if_icmp .ne 10, 3) := by decide +kernel
theorem dX0_row_6 : decode cX0_row 6 = .ok (.aload_n 0, 1) := by decide +kernel
theorem dX0_row_7 : decode cX0_row 7 = .ok (.getfield 18, 3) := by decide +kernel
theorem dX0_row_10 : decode cX0_row 10 = .ok (.goto 7, 3) := by decide +kernel
theorem dX0_row_13 : decode cX0_row 13 = .ok (.aload_n 0, 1) := by decide +kernel
theorem dX0_row_14 : decode cX0_row 14 = .ok (.getfield 12, 3) := by decide +kernel
theorem dX0_row_17 : decode cX0_row 17 = .ok (.areturn, 1) := by decide +kernel
set_option maxRecDepth 20000 in
theorem ggX0_holds_X2_find : GoodIn wsX0_holds wsX2_find := goodIn_r _ [6, 7, 8, 9, 10, 5, 11, 12, 13, 14, 15, 16, 21, 22, 23] (by decide +kernel) (by decide +kernel)
set_option maxRecDepth 20000 in
theorem gX0_holds_X2_find : GoodIn wsX0_holds (wsV RX0 29 RX2 yX2_find wsX2_find) := goodIn_app (goodIn_of _ (by decide +kernel)) ggX0_holds_X2_find
theorem dX0_holds_0 : decode cX0_holds 0 = .ok (.aload_n 0, 1) := by decide +kernel
theorem dX0_holds_1 : decode cX0_holds 1 = .ok (.getfield 12, 3) := by decide +kernel
theorem dX0_holds_4 : decode cX0_holds 4 = .ok (.iload_n 1, 1) := by decide +kernel
theorem dX0_holds_5 : decode cX0_holds 5 = .ok (.invokevirtual 29, 3) := by decide +kernel
theorem dX0_holds_8 : decode cX0_holds 8 = .ok (.iconst (-1), 1) := by decide +kernel
theorem dX0_holds_9 : decode cX0_holds 9 = .ok (.if_icmp .eq 7, 3) := by decide +kernel
theorem dX0_holds_12 : decode cX0_holds 12 = .ok (.iconst 1, 1) := by decide +kernel
theorem dX0_holds_13 : decode cX0_holds 13 = .ok (.goto 4, 3) := by decide +kernel
theorem dX0_holds_16 : decode cX0_holds 16 = .ok (.iconst 0, 1) := by decide +kernel
theorem dX0_holds_17 : decode cX0_holds 17 = .ok (.ireturn, 1) := by decide +kernel
set_option maxRecDepth 20000 in
theorem ggX0_valueOf_X2_find : GoodIn wsX0_valueOf wsX2_find := goodIn_r _ [6, 7, 8, 9, 10, 5, 11, 12, 13, 14, 15, 16, 26, 27, 28] (by decide +kernel) (by decide +kernel)
set_option maxRecDepth 20000 in
theorem gX0_valueOf_X2_find : GoodIn wsX0_valueOf (wsV RX0 29 RX2 yX2_find wsX2_find) := goodIn_app (goodIn_of _ (by decide +kernel)) ggX0_valueOf_X2_find
set_option maxRecDepth 20000 in
theorem ggX0_valueOf_X2_valueIn : GoodIn wsX0_valueOf wsX2_valueIn := goodIn_r _ [20, 21, 13, 14, 15, 5, 16, 7, 12, 26, 27, 28] (by decide +kernel) (by decide +kernel)
set_option maxRecDepth 20000 in
theorem gX0_valueOf_X2_valueIn : GoodIn wsX0_valueOf (wsV RX0 33 RX2 yX2_valueIn wsX2_valueIn) := goodIn_app (goodIn_of _ (by decide +kernel)) ggX0_valueOf_X2_valueIn
theorem dX0_valueOf_0 : decode cX0_valueOf 0 = .ok (.aload_n 0, 1) := by decide +kernel
theorem dX0_valueOf_1 : decode cX0_valueOf 1 = .ok (.getfield 12, 3) := by decide +kernel
theorem dX0_valueOf_4 : decode cX0_valueOf 4 = .ok (.aload_n 0, 1) := by decide +kernel
theorem dX0_valueOf_5 : decode cX0_valueOf 5 = .ok (.getfield 12, 3) := by decide +kernel
theorem dX0_valueOf_8 : decode cX0_valueOf 8 = .ok (.iload_n 1, 1) := by decide +kernel
theorem dX0_valueOf_9 : decode cX0_valueOf 9 = .ok (.invokevirtual 29, 3) := by decide +kernel
theorem dX0_valueOf_12 : decode cX0_valueOf 12 = .ok (.invokevirtual 33, 3) := by decide +kernel
theorem dX0_valueOf_15 : decode cX0_valueOf 15 = .ok (.ireturn, 1) := by decide +kernel
set_option maxRecDepth 20000 in
theorem ggX0_giveKey_X2_find : GoodIn wsX0_giveKey wsX2_find := goodIn_r _ [7, 8, 9, 10, 11, 6, 12, 13, 14, 15, 16, 17, 27, 28, 29] (by decide +kernel) (by decide +kernel)
set_option maxRecDepth 20000 in
theorem gX0_giveKey_X2_find : GoodIn wsX0_giveKey (wsV RX0 29 RX2 yX2_find wsX2_find) := goodIn_app (goodIn_of _ (by decide +kernel)) ggX0_giveKey_X2_find
set_option maxRecDepth 20000 in
theorem ggX0_giveKey_X2_give : GoodIn wsX0_giveKey wsX2_give := goodIn_r _ [21, 22, 14, 15, 16, 6, 17, 8, 13, 27, 28, 29] (by decide +kernel) (by decide +kernel)
set_option maxRecDepth 20000 in
theorem gX0_giveKey_X2_give : GoodIn wsX0_giveKey (wsV RX0 36 RX2 yX2_give wsX2_give) := goodIn_app (goodIn_of _ (by decide +kernel)) ggX0_giveKey_X2_give
theorem dX0_giveKey_0 : decode cX0_giveKey 0 = .ok (.aload_n 0, 1) := by decide +kernel
theorem dX0_giveKey_1 : decode cX0_giveKey 1 = .ok (.getfield 12, 3) := by decide +kernel
theorem dX0_giveKey_4 : decode cX0_giveKey 4 = .ok (.aload_n 0, 1) := by decide +kernel
theorem dX0_giveKey_5 : decode cX0_giveKey 5 = .ok (.getfield 12, 3) := by decide +kernel
theorem dX0_giveKey_8 : decode cX0_giveKey 8 = .ok (.iload_n 1, 1) := by decide +kernel
theorem dX0_giveKey_9 : decode cX0_giveKey 9 = .ok (.invokevirtual 29, 3) := by decide +kernel
theorem dX0_giveKey_12 : decode cX0_giveKey 12 = .ok (.iload_n 2, 1) := by decide +kernel
theorem dX0_giveKey_13 : decode cX0_giveKey 13 = .ok (.invokevirtual 36, 3) := by decide +kernel
theorem dX0_giveKey_16 : decode cX0_giveKey 16 = .ok (.aload_n 0, 1) := by decide +kernel
theorem dX0_giveKey_17 : decode cX0_giveKey 17 = .ok (.getfield 18, 3) := by decide +kernel
theorem dX0_giveKey_20 : decode cX0_giveKey 20 = .ok (.aload_n 0, 1) := by decide +kernel
theorem dX0_giveKey_21 : decode cX0_giveKey 21 = .ok (.getfield 18, 3) := by decide +kernel
theorem dX0_giveKey_24 : decode cX0_giveKey 24 = .ok (.iload_n 1, 1) := by decide +kernel
theorem dX0_giveKey_25 : decode cX0_giveKey 25 = .ok (.invokevirtual 29, 3) := by decide +kernel
theorem dX0_giveKey_28 : decode cX0_giveKey 28 = .ok (.iload_n 2, 1) := by decide +kernel
theorem dX0_giveKey_29 : decode cX0_giveKey 29 = .ok (.invokevirtual 36, 3) := by decide +kernel
theorem dX0_giveKey_32 : decode cX0_giveKey 32 = .ok (.return_, 1) := by decide +kernel
set_option maxRecDepth 20000 in
theorem ggX0_touch_X2_find : GoodIn wsX0_touch wsX2_find := goodIn_r _ [6, 7, 8, 9, 10, 5, 11, 12, 13, 14, 15, 16, 34, 35, 36] (by decide +kernel) (by decide +kernel)
set_option maxRecDepth 20000 in
theorem gX0_touch_X2_find : GoodIn wsX0_touch (wsV RX0 29 RX2 yX2_find wsX2_find) := goodIn_app (goodIn_of _ (by decide +kernel)) ggX0_touch_X2_find
set_option maxRecDepth 20000 in
theorem ggX0_touch_X2_putLast : GoodIn wsX0_touch wsX2_putLast := goodIn_r _ [20, 12, 21, 13, 14, 15, 5, 16, 7, 22, 23, 24, 25, 26, 27, 28, 29, 34, 35, 36] (by decide +kernel) (by decide +kernel)
set_option maxRecDepth 20000 in
theorem gX0_touch_X2_putLast : GoodIn wsX0_touch (wsV RX0 40 RX2 yX2_putLast wsX2_putLast) := goodIn_app (goodIn_of _ (by decide +kernel)) ggX0_touch_X2_putLast
theorem dX0_touch_0 : decode cX0_touch 0 = .ok (.aload_n 0, 1) := by decide +kernel
theorem dX0_touch_1 : decode cX0_touch 1 = .ok (.getfield 18, 3) := by decide +kernel
theorem dX0_touch_4 : decode cX0_touch 4 = .ok (.aload_n 0, 1) := by decide +kernel
theorem dX0_touch_5 : decode cX0_touch 5 = .ok (.getfield 18, 3) := by decide +kernel
theorem dX0_touch_8 : decode cX0_touch 8 = .ok (.iload_n 1, 1) := by decide +kernel
theorem dX0_touch_9 : decode cX0_touch 9 = .ok (.invokevirtual 29, 3) := by decide +kernel
theorem dX0_touch_12 : decode cX0_touch 12 = .ok (.invokevirtual 40, 3) := by decide +kernel
theorem dX0_touch_15 : decode cX0_touch 15 = .ok (.return_, 1) := by decide +kernel
set_option maxRecDepth 20000 in
theorem ggX0_takeOut_X2_find : GoodIn wsX0_takeOut wsX2_find := goodIn_r _ [7, 8, 9, 10, 11, 6, 12, 13, 14, 15, 16, 17, 27, 28, 29] (by decide +kernel) (by decide +kernel)
set_option maxRecDepth 20000 in
theorem gX0_takeOut_X2_find : GoodIn wsX0_takeOut (wsV RX0 29 RX2 yX2_find wsX2_find) := goodIn_app (goodIn_of _ (by decide +kernel)) ggX0_takeOut_X2_find
set_option maxRecDepth 20000 in
theorem ggX0_takeOut_X2_close : GoodIn wsX0_takeOut wsX2_close := goodIn_r _ [21, 8, 13, 22, 14, 15, 16, 6, 17, 27, 28, 29] (by decide +kernel) (by decide +kernel)
set_option maxRecDepth 20000 in
theorem gX0_takeOut_X2_close : GoodIn wsX0_takeOut (wsV RX0 44 RX2 yX2_close wsX2_close) := goodIn_app (goodIn_of _ (by decide +kernel)) ggX0_takeOut_X2_close
theorem dX0_takeOut_0 : decode cX0_takeOut 0 = .ok (.aload_n 0, 1) := by decide +kernel
theorem dX0_takeOut_1 : decode cX0_takeOut 1 = .ok (.getfield 12, 3) := by decide +kernel
theorem dX0_takeOut_4 : decode cX0_takeOut 4 = .ok (.aload_n 0, 1) := by decide +kernel
theorem dX0_takeOut_5 : decode cX0_takeOut 5 = .ok (.getfield 12, 3) := by decide +kernel
theorem dX0_takeOut_8 : decode cX0_takeOut 8 = .ok (.iload_n 1, 1) := by decide +kernel
theorem dX0_takeOut_9 : decode cX0_takeOut 9 = .ok (.invokevirtual 29, 3) := by decide +kernel
theorem dX0_takeOut_12 : decode cX0_takeOut 12 = .ok (.invokevirtual 44, 3) := by decide +kernel
theorem dX0_takeOut_15 : decode cX0_takeOut 15 = .ok (.aload_n 0, 1) := by decide +kernel
theorem dX0_takeOut_16 : decode cX0_takeOut 16 = .ok (.getfield 18, 3) := by decide +kernel
theorem dX0_takeOut_19 : decode cX0_takeOut 19 = .ok (.aload_n 0, 1) := by decide +kernel
theorem dX0_takeOut_20 : decode cX0_takeOut 20 = .ok (.getfield 18, 3) := by decide +kernel
theorem dX0_takeOut_23 : decode cX0_takeOut 23 = .ok (.iload_n 1, 1) := by decide +kernel
theorem dX0_takeOut_24 : decode cX0_takeOut 24 = .ok (.invokevirtual 29, 3) := by decide +kernel
theorem dX0_takeOut_27 : decode cX0_takeOut 27 = .ok (.invokevirtual 44, 3) := by decide +kernel
theorem dX0_takeOut_30 : decode cX0_takeOut 30 = .ok (.return_, 1) := by decide +kernel
set_option maxRecDepth 20000 in
theorem ggX0_letIn_X2_count : GoodIn wsX0_letIn wsX2_count := goodIn_r _ [8, 9, 51, 52, 53] (by decide +kernel) (by decide +kernel)
set_option maxRecDepth 20000 in
theorem gX0_letIn_X2_count : GoodIn wsX0_letIn (wsV RX0 47 RX2 yX2_count wsX2_count) := goodIn_app (goodIn_of _ (by decide +kernel)) ggX0_letIn_X2_count
set_option maxRecDepth 20000 in
theorem ggX0_letIn_X0_dropEldest : GoodIn wsX0_letIn wsX0_dropEldest := goodIn_r _ [14, 15, 16, 17, 18, 13, 19, 3, 1, 20, 21, 22, 7, 23, 24, 25, 26, 27, 28, 9, 29, 30, 31, 32, 33, 34, 35, 36, 37, 38, 39, 40, 41, 42, 47, 48, 49, 50, 51, 52, 53] (by decide +kernel) (by decide +kernel)
set_option maxRecDepth 20000 in
theorem gX0_letIn_X0_dropEldest : GoodIn wsX0_letIn (wsV RX0 51 RX0 yX0_dropEldest wsX0_dropEldest) := goodIn_app (goodIn_of _ (by decide +kernel)) ggX0_letIn_X0_dropEldest
set_option maxRecDepth 20000 in
theorem ggX0_letIn_X2_append : GoodIn wsX0_letIn wsX2_append := goodIn_r _ [46, 9, 24, 42, 51, 52, 53] (by decide +kernel) (by decide +kernel)
set_option maxRecDepth 20000 in
theorem gX0_letIn_X2_append : GoodIn wsX0_letIn (wsV RX0 54 RX2 yX2_append wsX2_append) := goodIn_app (goodIn_of _ (by decide +kernel)) ggX0_letIn_X2_append
theorem dX0_letIn_0 : decode cX0_letIn 0 = .ok (.aload_n 0, 1) := by decide +kernel
theorem dX0_letIn_1 : decode cX0_letIn 1 = .ok (.getfield 12, 3) := by decide +kernel
theorem dX0_letIn_4 : decode cX0_letIn 4 = .ok (.invokevirtual 47, 3) := by decide +kernel
theorem dX0_letIn_7 : decode cX0_letIn 7 = .ok (.aload_n 0, 1) := by decide +kernel
theorem dX0_letIn_8 : decode cX0_letIn 8 = .ok (.getfield 21, 3) := by decide +kernel
theorem dX0_letIn_11 : decode cX0_letIn 11 = .ok (.if_icmp .ge 7, 3) := by decide +kernel
theorem dX0_letIn_14 : decode cX0_letIn 14 = .ok (.iconst (-1), 1) := by decide +kernel
theorem dX0_letIn_15 : decode cX0_letIn 15 = .ok (.goto 7, 3) := by decide +kernel
theorem dX0_letIn_18 : decode cX0_letIn 18 = .ok (.aload_n 0, 1) := by decide +kernel
theorem dX0_letIn_19 : decode cX0_letIn 19 = .ok (.invokevirtual 51, 3) := by decide +kernel
theorem dX0_letIn_22 : decode cX0_letIn 22 = .ok (.istore_n 3, 1) := by decide +kernel
theorem dX0_letIn_23 : decode cX0_letIn 23 = .ok (.aload_n 0, 1) := by decide +kernel
theorem dX0_letIn_24 : decode cX0_letIn 24 = .ok (.getfield 12, 3) := by decide +kernel
theorem dX0_letIn_27 : decode cX0_letIn 27 = .ok (.iload_n 1, 1) := by decide +kernel
theorem dX0_letIn_28 : decode cX0_letIn 28 = .ok (.iload_n 2, 1) := by decide +kernel
theorem dX0_letIn_29 : decode cX0_letIn 29 = .ok (.invokevirtual 54, 3) := by decide +kernel
theorem dX0_letIn_32 : decode cX0_letIn 32 = .ok (.aload_n 0, 1) := by decide +kernel
theorem dX0_letIn_33 : decode cX0_letIn 33 = .ok (.getfield 18, 3) := by decide +kernel
theorem dX0_letIn_36 : decode cX0_letIn 36 = .ok (.iload_n 1, 1) := by decide +kernel
theorem dX0_letIn_37 : decode cX0_letIn 37 = .ok (.iload_n 2, 1) := by decide +kernel
theorem dX0_letIn_38 : decode cX0_letIn 38 = .ok (.invokevirtual 54, 3) := by decide +kernel
theorem dX0_letIn_41 : decode cX0_letIn 41 = .ok (.iload_n 3, 1) := by decide +kernel
theorem dX0_letIn_42 : decode cX0_letIn 42 = .ok (.ireturn, 1) := by decide +kernel
set_option maxRecDepth 20000 in
theorem ggX0_dropWhatIsOver_X2_count : GoodIn wsX0_dropWhatIsOver wsX2_count := goodIn_r _ [11, 12, 51, 52, 53] (by decide +kernel) (by decide +kernel)
set_option maxRecDepth 20000 in
theorem gX0_dropWhatIsOver_X2_count : GoodIn wsX0_dropWhatIsOver (wsV RX0 47 RX2 yX2_count wsX2_count) := goodIn_app (goodIn_of _ (by decide +kernel)) ggX0_dropWhatIsOver_X2_count
set_option maxRecDepth 20000 in
theorem ggX0_dropWhatIsOver_X0_dropEldest : GoodIn wsX0_dropWhatIsOver wsX0_dropEldest := goodIn_r _ [17, 18, 19, 20, 21, 16, 22, 23, 1, 24, 25, 26, 10, 27, 28, 29, 30, 31, 32, 12, 33, 34, 35, 36, 37, 38, 39, 40, 41, 42, 43, 44, 45, 46, 47, 48, 49, 50, 51, 52, 53] (by decide +kernel) (by decide +kernel)
set_option maxRecDepth 20000 in
theorem gX0_dropWhatIsOver_X0_dropEldest : GoodIn wsX0_dropWhatIsOver (wsV RX0 51 RX0 yX0_dropEldest wsX0_dropEldest) := goodIn_app (goodIn_of _ (by decide +kernel)) ggX0_dropWhatIsOver_X0_dropEldest
theorem dX0_dropWhatIsOver_0 : decode cX0_dropWhatIsOver 0 = .ok (.aload_n 0, 1) := by decide +kernel
theorem dX0_dropWhatIsOver_1 : decode cX0_dropWhatIsOver 1 = .ok (.getfield 12, 3) := by decide +kernel
theorem dX0_dropWhatIsOver_4 : decode cX0_dropWhatIsOver 4 = .ok (.invokevirtual 47, 3) := by decide +kernel
theorem dX0_dropWhatIsOver_7 : decode cX0_dropWhatIsOver 7 = .ok (.aload_n 0, 1) := by decide +kernel
theorem dX0_dropWhatIsOver_8 : decode cX0_dropWhatIsOver 8 = .ok (.getfield 21, 3) := by decide +kernel
theorem dX0_dropWhatIsOver_11 : decode cX0_dropWhatIsOver 11 = .ok (.isub, 1) := by decide +kernel
theorem dX0_dropWhatIsOver_12 : decode cX0_dropWhatIsOver 12 = .ok (.iconst 0, 1) := by decide +kernel
theorem dX0_dropWhatIsOver_13 : decode cX0_dropWhatIsOver 13 = .ok (.invokestatic 57, 3) := by decide +kernel
theorem dX0_dropWhatIsOver_16 : decode cX0_dropWhatIsOver 16 = .ok (.istore_n 1, 1) := by decide +kernel
theorem dX0_dropWhatIsOver_17 : decode cX0_dropWhatIsOver 17 = .ok (.iconst 0, 1) := by decide +kernel
theorem dX0_dropWhatIsOver_18 : decode cX0_dropWhatIsOver 18 = .ok (.istore_n 2, 1) := by decide +kernel
theorem dX0_dropWhatIsOver_19 : decode cX0_dropWhatIsOver 19 = .ok (.iload_n 2, 1) := by decide +kernel
theorem dX0_dropWhatIsOver_20 : decode cX0_dropWhatIsOver 20 = .ok (.iload_n 1, 1) := by decide +kernel
theorem dX0_dropWhatIsOver_21 : decode cX0_dropWhatIsOver 21 = .ok (.if_icmp .ge 14, 3) := by decide +kernel
theorem dX0_dropWhatIsOver_24 : decode cX0_dropWhatIsOver 24 = .ok (.aload_n 0, 1) := by decide +kernel
theorem dX0_dropWhatIsOver_25 : decode cX0_dropWhatIsOver 25 = .ok (.invokevirtual 51, 3) := by decide +kernel
theorem dX0_dropWhatIsOver_28 : decode cX0_dropWhatIsOver 28 = .ok (.pop, 1) := by decide +kernel
theorem dX0_dropWhatIsOver_29 : decode cX0_dropWhatIsOver 29 = .ok (.iinc 2 1, 3) := by decide +kernel
theorem dX0_dropWhatIsOver_32 : decode cX0_dropWhatIsOver 32 = .ok (.goto (-13), 3) := by decide +kernel
theorem dX0_dropWhatIsOver_35 : decode cX0_dropWhatIsOver 35 = .ok (.iload_n 1, 1) := by decide +kernel
theorem dX0_dropWhatIsOver_36 : decode cX0_dropWhatIsOver 36 = .ok (.ireturn, 1) := by decide +kernel
set_option maxRecDepth 20000 in
theorem ggX0_dropEldest_X0_row : GoodIn wsX0_dropEldest wsX0_row := goodIn_r _ [6, 7, 8, 34, 35, 36, 37] (by decide +kernel) (by decide +kernel)
set_option maxRecDepth 20000 in
theorem gX0_dropEldest_X0_row : GoodIn wsX0_dropEldest (wsV RX0 63 RX0 yX0_row wsX0_row) := goodIn_app (goodIn_of _ (by decide +kernel)) ggX0_dropEldest_X0_row
set_option maxRecDepth 20000 in
theorem ggX0_dropEldest_X2_keyIn : GoodIn wsX0_dropEldest wsX2_keyIn := goodIn_r _ [13, 14, 15, 16, 17, 12, 18, 19, 38, 39, 40] (by decide +kernel) (by decide +kernel)
set_option maxRecDepth 20000 in
theorem gX0_dropEldest_X2_keyIn : GoodIn wsX0_dropEldest (wsV RX0 67 RX2 yX2_keyIn wsX2_keyIn) := goodIn_app (goodIn_of _ (by decide +kernel)) ggX0_dropEldest_X2_keyIn
set_option maxRecDepth 20000 in
theorem ggX0_dropEldest_X0_takeOut : GoodIn wsX0_dropEldest wsX0_takeOut := goodIn_r _ [23, 8, 7, 24, 25, 26, 12, 27, 19, 28, 10, 11, 13, 14, 15, 16, 17, 18, 29, 30, 31, 32, 33, 34, 35, 36, 37, 38, 39, 40] (by decide +kernel) (by decide +kernel)
set_option maxRecDepth 20000 in
theorem gX0_dropEldest_X0_takeOut : GoodIn wsX0_dropEldest (wsV RX0 70 RX0 yX0_takeOut wsX0_takeOut) := goodIn_app (goodIn_of _ (by decide +kernel)) ggX0_dropEldest_X0_takeOut
theorem dX0_dropEldest_0 : decode cX0_dropEldest 0 = .ok (.aload_n 0, 1) := by decide +kernel
theorem dX0_dropEldest_1 : decode cX0_dropEldest 1 = .ok (.aload_n 0, 1) := by decide +kernel
theorem dX0_dropEldest_2 : decode cX0_dropEldest 2 = .ok (.getfield 25, 3) := by decide +kernel
theorem dX0_dropEldest_5 : decode cX0_dropEldest 5 = .ok (.invokevirtual 63, 3) := by decide +kernel
theorem dX0_dropEldest_8 : decode cX0_dropEldest 8 = .ok (.iconst 0, 1) := by decide +kernel
theorem dX0_dropEldest_9 : decode cX0_dropEldest 9 = .ok (.invokevirtual 67, 3) := by decide +kernel
theorem dX0_dropEldest_12 : decode cX0_dropEldest 12 = .ok (.istore_n 1, 1) := by decide +kernel
theorem dX0_dropEldest_13 : decode cX0_dropEldest 13 = .ok (.aload_n 0, 1) := by decide +kernel
theorem dX0_dropEldest_14 : decode cX0_dropEldest 14 = .ok (.iload_n 1, 1) := by decide +kernel
theorem dX0_dropEldest_15 : decode cX0_dropEldest 15 = .ok (.invokevirtual 70, 3) := by decide +kernel
theorem dX0_dropEldest_18 : decode cX0_dropEldest 18 = .ok (.iload_n 1, 1) := by decide +kernel
theorem dX0_dropEldest_19 : decode cX0_dropEldest 19 = .ok (.ireturn, 1) := by decide +kernel
set_option maxRecDepth 20000 in
theorem ggX0_takeOutEach_X2_count : GoodIn wsX0_takeOutEach wsX2_count := goodIn_r _ [6, 7, 41, 42, 43] (by decide +kernel) (by decide +kernel)
set_option maxRecDepth 20000 in
theorem gX0_takeOutEach_X2_count : GoodIn wsX0_takeOutEach (wsV RX0 47 RX2 yX2_count wsX2_count) := goodIn_app (goodIn_of _ (by decide +kernel)) ggX0_takeOutEach_X2_count
set_option maxRecDepth 20000 in
theorem ggX0_takeOutEach_X0_row : GoodIn wsX0_takeOutEach wsX0_row := goodIn_r _ [12, 13, 1, 37, 38, 39, 40] (by decide +kernel) (by decide +kernel)
set_option maxRecDepth 20000 in
theorem gX0_takeOutEach_X0_row : GoodIn wsX0_takeOutEach (wsV RX0 63 RX0 yX0_row wsX0_row) := goodIn_app (goodIn_of _ (by decide +kernel)) ggX0_takeOutEach_X0_row
set_option maxRecDepth 20000 in
theorem ggX0_takeOutEach_X2_keyIn : GoodIn wsX0_takeOutEach wsX2_keyIn := goodIn_r _ [17, 18, 19, 20, 21, 5, 22, 7, 41, 42, 43] (by decide +kernel) (by decide +kernel)
set_option maxRecDepth 20000 in
theorem gX0_takeOutEach_X2_keyIn : GoodIn wsX0_takeOutEach (wsV RX0 67 RX2 yX2_keyIn wsX2_keyIn) := goodIn_app (goodIn_of _ (by decide +kernel)) ggX0_takeOutEach_X2_keyIn
set_option maxRecDepth 20000 in
theorem ggX0_takeOutEach_X0_takeOut : GoodIn wsX0_takeOutEach wsX0_takeOut := goodIn_r _ [26, 1, 13, 27, 28, 29, 5, 30, 7, 31, 15, 16, 17, 18, 19, 20, 21, 22, 32, 33, 34, 35, 36, 37, 38, 39, 40, 41, 42, 43] (by decide +kernel) (by decide +kernel)
set_option maxRecDepth 20000 in
theorem gX0_takeOutEach_X0_takeOut : GoodIn wsX0_takeOutEach (wsV RX0 70 RX0 yX0_takeOut wsX0_takeOut) := goodIn_app (goodIn_of _ (by decide +kernel)) ggX0_takeOutEach_X0_takeOut
theorem dX0_takeOutEach_0 : decode cX0_takeOutEach 0 = .ok (.iload_n 2, 1) := by decide +kernel
theorem dX0_takeOutEach_1 : decode cX0_takeOutEach 1 = .ok (.iconst 1, 1) := by decide +kernel
theorem dX0_takeOutEach_2 : decode cX0_takeOutEach 2 = .ok (.if_icmp .ge 5, 3) := by decide +kernel
theorem dX0_takeOutEach_5 : decode cX0_takeOutEach 5 = .ok (.iconst 0, 1) := by decide +kernel
theorem dX0_takeOutEach_6 : decode cX0_takeOutEach 6 = .ok (.ireturn, 1) := by decide +kernel
theorem dX0_takeOutEach_7 : decode cX0_takeOutEach 7 = .ok (.aload_n 0, 1) := by decide +kernel
theorem dX0_takeOutEach_8 : decode cX0_takeOutEach 8 = .ok (.getfield 12, 3) := by decide +kernel
theorem dX0_takeOutEach_11 : decode cX0_takeOutEach 11 = .ok (.invokevirtual 47, 3) := by decide +kernel
theorem dX0_takeOutEach_14 : decode cX0_takeOutEach 14 = .ok (.iload_n 2, 1) := by decide +kernel
theorem dX0_takeOutEach_15 : decode cX0_takeOutEach 15 = .ok (.idiv, 1) := by decide +kernel
theorem dX0_takeOutEach_16 : decode cX0_takeOutEach 16 = .ok (.istore_n 3, 1) := by decide +kernel
theorem dX0_takeOutEach_17 : decode cX0_takeOutEach 17 = .ok (.iload_n 3, 1) := by decide +kernel
theorem dX0_takeOutEach_18 : decode cX0_takeOutEach 18 = .ok (.istore 4, 2) := by decide +kernel
theorem dX0_takeOutEach_20 : decode cX0_takeOutEach 20 = .ok (.iload 4, 2) := by decide +kernel
theorem dX0_takeOutEach_22 : decode cX0_takeOutEach 22 = .ok (.iconst 1, 1) := by decide +kernel
theorem dX0_takeOutEach_23 : decode cX0_takeOutEach 23 = .ok (.if_icmp .lt 27, 3) := by decide +kernel
theorem dX0_takeOutEach_26 : decode cX0_takeOutEach 26 = .ok (.aload_n 0, 1) := by decide +kernel
theorem dX0_takeOutEach_27 : decode cX0_takeOutEach 27 = .ok (.aload_n 0, 1) := by decide +kernel
theorem dX0_takeOutEach_28 : decode cX0_takeOutEach 28 = .ok (.iload_n 1, 1) := by decide +kernel
theorem dX0_takeOutEach_29 : decode cX0_takeOutEach 29 = .ok (.invokevirtual 63, 3) := by decide +kernel
theorem dX0_takeOutEach_32 : decode cX0_takeOutEach 32 = .ok (.iload 4, 2) := by decide +kernel
theorem dX0_takeOutEach_34 : decode cX0_takeOutEach 34 = .ok (.iload_n 2, 1) := by decide +kernel
theorem dX0_takeOutEach_35 : decode cX0_takeOutEach 35 = .ok (.imul, 1) := by decide +kernel
theorem dX0_takeOutEach_36 : decode cX0_takeOutEach 36 = .ok (.iconst 1, 1) := by decide +kernel
theorem dX0_takeOutEach_37 : decode cX0_takeOutEach 37 = .ok (.isub, 1) := by decide +kernel
theorem dX0_takeOutEach_38 : decode cX0_takeOutEach 38 = .ok (.invokevirtual 67, 3) := by decide +kernel
theorem dX0_takeOutEach_41 : decode cX0_takeOutEach 41 = .ok (.invokevirtual 70, 3) := by decide +kernel
theorem dX0_takeOutEach_44 : decode cX0_takeOutEach 44 = .ok (.iinc 4 (-1), 3) := by decide +kernel
theorem dX0_takeOutEach_47 : decode cX0_takeOutEach 47 = .ok (.goto (-27), 3) := by decide +kernel
theorem dX0_takeOutEach_50 : decode cX0_takeOutEach 50 = .ok (.iload_n 3, 1) := by decide +kernel
theorem dX0_takeOutEach_51 : decode cX0_takeOutEach 51 = .ok (.ireturn, 1) := by decide +kernel
set_option maxRecDepth 20000 in
theorem ggX0_staying_X2_count : GoodIn wsX0_staying wsX2_count := goodIn_r _ [7, 8, 27, 28, 29] (by decide +kernel) (by decide +kernel)
set_option maxRecDepth 20000 in
theorem gX0_staying_X2_count : GoodIn wsX0_staying (wsV RX0 47 RX2 yX2_count wsX2_count) := goodIn_app (goodIn_of _ (by decide +kernel)) ggX0_staying_X2_count
set_option maxRecDepth 20000 in
theorem ggX0_staying_X2_keyIn : GoodIn wsX0_staying wsX2_keyIn := goodIn_r _ [12, 13, 14, 15, 16, 6, 17, 8, 27, 28, 29] (by decide +kernel) (by decide +kernel)
set_option maxRecDepth 20000 in
theorem gX0_staying_X2_keyIn : GoodIn wsX0_staying (wsV RX0 67 RX2 yX2_keyIn wsX2_keyIn) := goodIn_app (goodIn_of _ (by decide +kernel)) ggX0_staying_X2_keyIn
set_option maxRecDepth 20000 in
theorem ggX0_staying_X2_find : GoodIn wsX0_staying wsX2_find := goodIn_r _ [21, 8, 22, 10, 11, 6, 12, 13, 14, 15, 16, 17, 27, 28, 29] (by decide +kernel) (by decide +kernel)
set_option maxRecDepth 20000 in
theorem gX0_staying_X2_find : GoodIn wsX0_staying (wsV RX0 29 RX2 yX2_find wsX2_find) := goodIn_app (goodIn_of _ (by decide +kernel)) ggX0_staying_X2_find
theorem dX0_staying_0 : decode cX0_staying 0 = .ok (.iconst (-1), 1) := by decide +kernel
theorem dX0_staying_1 : decode cX0_staying 1 = .ok (.istore_n 1, 1) := by decide +kernel
theorem dX0_staying_2 : decode cX0_staying 2 = .ok (.iconst 0, 1) := by decide +kernel
theorem dX0_staying_3 : decode cX0_staying 3 = .ok (.istore_n 2, 1) := by decide +kernel
theorem dX0_staying_4 : decode cX0_staying 4 = .ok (.iload_n 2, 1) := by decide +kernel
theorem dX0_staying_5 : decode cX0_staying 5 = .ok (.aload_n 0, 1) := by decide +kernel
theorem dX0_staying_6 : decode cX0_staying 6 = .ok (.getfield 18, 3) := by decide +kernel
theorem dX0_staying_9 : decode cX0_staying 9 = .ok (.invokevirtual 47, 3) := by decide +kernel
theorem dX0_staying_12 : decode cX0_staying 12 = .ok (.if_icmp .ge 34, 3) := by decide +kernel
theorem dX0_staying_15 : decode cX0_staying 15 = .ok (.aload_n 0, 1) := by decide +kernel
theorem dX0_staying_16 : decode cX0_staying 16 = .ok (.getfield 12, 3) := by decide +kernel
theorem dX0_staying_19 : decode cX0_staying 19 = .ok (.aload_n 0, 1) := by decide +kernel
theorem dX0_staying_20 : decode cX0_staying 20 = .ok (.getfield 18, 3) := by decide +kernel
theorem dX0_staying_23 : decode cX0_staying 23 = .ok (.iload_n 2, 1) := by decide +kernel
theorem dX0_staying_24 : decode cX0_staying 24 = .ok (.invokevirtual 67, 3) := by decide +kernel
theorem dX0_staying_27 : decode cX0_staying 27 = .ok (.invokevirtual 29, 3) := by decide +kernel
theorem dX0_staying_30 : decode cX0_staying 30 = .ok (.istore_n 3, 1) := by decide +kernel
theorem dX0_staying_31 : decode cX0_staying 31 = .ok (.iload_n 3, 1) := by decide +kernel
theorem dX0_staying_32 : decode cX0_staying 32 = .ok (.iload_n 1, 1) := by decide +kernel
theorem dX0_staying_33 : decode cX0_staying 33 = .ok (.if_icmp .ge 5, 3) := by decide +kernel
theorem dX0_staying_36 : decode cX0_staying 36 = .ok (.iload_n 2, 1) := by decide +kernel
theorem dX0_staying_37 : decode cX0_staying 37 = .ok (.ireturn, 1) := by decide +kernel
theorem dX0_staying_38 : decode cX0_staying 38 = .ok (.iload_n 3, 1) := by decide +kernel
theorem dX0_staying_39 : decode cX0_staying 39 = .ok (.istore_n 1, 1) := by decide +kernel
theorem dX0_staying_40 : decode cX0_staying 40 = .ok (.iinc 2 1, 3) := by decide +kernel
theorem dX0_staying_43 : decode cX0_staying 43 = .ok (.goto (-39), 3) := by decide +kernel
theorem dX0_staying_46 : decode cX0_staying 46 = .ok (.aload_n 0, 1) := by decide +kernel
theorem dX0_staying_47 : decode cX0_staying 47 = .ok (.getfield 18, 3) := by decide +kernel
theorem dX0_staying_50 : decode cX0_staying 50 = .ok (.invokevirtual 47, 3) := by decide +kernel
theorem dX0_staying_53 : decode cX0_staying 53 = .ok (.ireturn, 1) := by decide +kernel
set_option maxRecDepth 20000 in
theorem ggX0_crossedPairs_X2_count : GoodIn wsX0_crossedPairs wsX2_count := goodIn_r _ [7, 8, 27, 28, 29] (by decide +kernel) (by decide +kernel)
set_option maxRecDepth 20000 in
theorem gX0_crossedPairs_X2_count : GoodIn wsX0_crossedPairs (wsV RX0 47 RX2 yX2_count wsX2_count) := goodIn_app (goodIn_of _ (by decide +kernel)) ggX0_crossedPairs_X2_count
set_option maxRecDepth 20000 in
theorem ggX0_crossedPairs_X2_keyIn : GoodIn wsX0_crossedPairs wsX2_keyIn := goodIn_r _ [12, 13, 14, 15, 16, 6, 17, 8, 27, 28, 29] (by decide +kernel) (by decide +kernel)
set_option maxRecDepth 20000 in
theorem gX0_crossedPairs_X2_keyIn : GoodIn wsX0_crossedPairs (wsV RX0 67 RX2 yX2_keyIn wsX2_keyIn) := goodIn_app (goodIn_of _ (by decide +kernel)) ggX0_crossedPairs_X2_keyIn
set_option maxRecDepth 20000 in
theorem ggX0_crossedPairs_X2_find : GoodIn wsX0_crossedPairs wsX2_find := goodIn_r _ [21, 8, 22, 10, 11, 6, 12, 13, 14, 15, 16, 17, 27, 28, 29] (by decide +kernel) (by decide +kernel)
set_option maxRecDepth 20000 in
theorem gX0_crossedPairs_X2_find : GoodIn wsX0_crossedPairs (wsV RX0 29 RX2 yX2_find wsX2_find) := goodIn_app (goodIn_of _ (by decide +kernel)) ggX0_crossedPairs_X2_find
theorem dX0_crossedPairs_0 : decode cX0_crossedPairs 0 = .ok (.iconst 0, 1) := by decide +kernel
theorem dX0_crossedPairs_1 : decode cX0_crossedPairs 1 = .ok (.istore_n 1, 1) := by decide +kernel
theorem dX0_crossedPairs_2 : decode cX0_crossedPairs 2 = .ok (.iconst 1, 1) := by decide +kernel
theorem dX0_crossedPairs_3 : decode cX0_crossedPairs 3 = .ok (.istore_n 2, 1) := by decide +kernel
theorem dX0_crossedPairs_4 : decode cX0_crossedPairs 4 = .ok (.iload_n 2, 1) := by decide +kernel
theorem dX0_crossedPairs_5 : decode cX0_crossedPairs 5 = .ok (.aload_n 0, 1) := by decide +kernel
theorem dX0_crossedPairs_6 : decode cX0_crossedPairs 6 = .ok (.getfield 18, 3) := by decide +kernel
theorem dX0_crossedPairs_9 : decode cX0_crossedPairs 9 = .ok (.invokevirtual 47, 3) := by decide +kernel
theorem dX0_crossedPairs_12 : decode cX0_crossedPairs 12 = .ok (.if_icmp .ge 63, 3) := by decide +kernel
theorem dX0_crossedPairs_15 : decode cX0_crossedPairs 15 = .ok (.aload_n 0, 1) := by decide +kernel
theorem dX0_crossedPairs_16 : decode cX0_crossedPairs 16 = .ok (.getfield 12, 3) := by decide +kernel
theorem dX0_crossedPairs_19 : decode cX0_crossedPairs 19 = .ok (.aload_n 0, 1) := by decide +kernel
theorem dX0_crossedPairs_20 : decode cX0_crossedPairs 20 = .ok (.getfield 18, 3) := by decide +kernel
theorem dX0_crossedPairs_23 : decode cX0_crossedPairs 23 = .ok (.iload_n 2, 1) := by decide +kernel
theorem dX0_crossedPairs_24 : decode cX0_crossedPairs 24 = .ok (.invokevirtual 67, 3) := by decide +kernel
theorem dX0_crossedPairs_27 : decode cX0_crossedPairs 27 = .ok (.invokevirtual 29, 3) := by decide +kernel
theorem dX0_crossedPairs_30 : decode cX0_crossedPairs 30 = .ok (.istore_n 3, 1) := by decide +kernel
theorem dX0_crossedPairs_31 : decode cX0_crossedPairs 31 = .ok (.iconst 0, 1) := by decide +kernel
theorem dX0_crossedPairs_32 : decode cX0_crossedPairs 32 = .ok (.istore 4, 2) := by decide +kernel
theorem dX0_crossedPairs_34 : decode cX0_crossedPairs 34 = .ok (.iload 4, 2) := by decide +kernel
theorem dX0_crossedPairs_36 : decode cX0_crossedPairs 36 = .ok (.iload_n 2, 1) := by decide +kernel
theorem dX0_crossedPairs_37 : decode cX0_crossedPairs 37 = .ok (.if_icmp .ge 32, 3) := by decide +kernel
theorem dX0_crossedPairs_40 : decode cX0_crossedPairs 40 = .ok (.aload_n 0, 1) := by decide +kernel
theorem dX0_crossedPairs_41 : decode cX0_crossedPairs 41 = .ok (.getfield 12, 3) := by decide +kernel
theorem dX0_crossedPairs_44 : decode cX0_crossedPairs 44 = .ok (.aload_n 0, 1) := by decide +kernel
theorem dX0_crossedPairs_45 : decode cX0_crossedPairs 45 = .ok (.getfield 18, 3) := by decide +kernel
theorem dX0_crossedPairs_48 : decode cX0_crossedPairs 48 = .ok (.iload 4, 2) := by decide +kernel
theorem dX0_crossedPairs_50 : decode cX0_crossedPairs 50 = .ok (.invokevirtual 67, 3) := by decide +kernel
theorem dX0_crossedPairs_53 : decode cX0_crossedPairs 53 = .ok (.invokevirtual 29, 3) := by decide +kernel
theorem dX0_crossedPairs_56 : decode cX0_crossedPairs 56 = .ok (.iload_n 3, 1) := by decide +kernel
theorem dX0_crossedPairs_57 : decode cX0_crossedPairs 57 = .ok (.if_icmp .le 6, 3) := by decide +kernel
theorem dX0_crossedPairs_60 : decode cX0_crossedPairs 60 = .ok (.iinc 1 1, 3) := by decide +kernel
theorem dX0_crossedPairs_63 : decode cX0_crossedPairs 63 = .ok (.iinc 4 1, 3) := by decide +kernel
theorem dX0_crossedPairs_66 : decode cX0_crossedPairs 66 = .ok (.goto (-32), 3) := by decide +kernel
theorem dX0_crossedPairs_69 : decode cX0_crossedPairs 69 = .ok (.iinc 2 1, 3) := by decide +kernel
theorem dX0_crossedPairs_72 : decode cX0_crossedPairs 72 = .ok (.goto (-68), 3) := by decide +kernel
theorem dX0_crossedPairs_75 : decode cX0_crossedPairs 75 = .ok (.iload_n 1, 1) := by decide +kernel
theorem dX0_crossedPairs_76 : decode cX0_crossedPairs 76 = .ok (.ireturn, 1) := by decide +kernel
set_option maxRecDepth 20000 in
theorem ggX0_become_X2_become : GoodIn wsX0_become wsX2_become := goodIn_r _ [9, 10, 11, 12, 13, 8, 14, 15, 16, 17, 18, 19, 20, 21, 22, 23, 24, 25, 26, 27, 28, 33, 34, 35] (by decide +kernel) (by decide +kernel)
set_option maxRecDepth 20000 in
theorem gX0_become_X2_become : GoodIn wsX0_become (wsV RX0 73 RX2 yX2_become wsX2_become) := goodIn_app (goodIn_of _ (by decide +kernel)) ggX0_become_X2_become
theorem dX0_become_0 : decode cX0_become 0 = .ok (.aload_n 0, 1) := by decide +kernel
theorem dX0_become_1 : decode cX0_become 1 = .ok (.getfield 12, 3) := by decide +kernel
theorem dX0_become_4 : decode cX0_become 4 = .ok (.aload_n 1, 1) := by decide +kernel
theorem dX0_become_5 : decode cX0_become 5 = .ok (.getfield 12, 3) := by decide +kernel
theorem dX0_become_8 : decode cX0_become 8 = .ok (.invokevirtual 73, 3) := by decide +kernel
theorem dX0_become_11 : decode cX0_become 11 = .ok (.aload_n 0, 1) := by decide +kernel
theorem dX0_become_12 : decode cX0_become 12 = .ok (.getfield 18, 3) := by decide +kernel
theorem dX0_become_15 : decode cX0_become 15 = .ok (.aload_n 1, 1) := by decide +kernel
theorem dX0_become_16 : decode cX0_become 16 = .ok (.getfield 18, 3) := by decide +kernel
theorem dX0_become_19 : decode cX0_become 19 = .ok (.invokevirtual 73, 3) := by decide +kernel
theorem dX0_become_22 : decode cX0_become 22 = .ok (.aload_n 0, 1) := by decide +kernel
theorem dX0_become_23 : decode cX0_become 23 = .ok (.aload_n 1, 1) := by decide +kernel
theorem dX0_become_24 : decode cX0_become 24 = .ok (.getfield 21, 3) := by decide +kernel
theorem dX0_become_27 : decode cX0_become 27 = .ok (.putfield 21, 3) := by decide +kernel
theorem dX0_become_30 : decode cX0_become 30 = .ok (.aload_n 0, 1) := by decide +kernel
theorem dX0_become_31 : decode cX0_become 31 = .ok (.aload_n 1, 1) := by decide +kernel
theorem dX0_become_32 : decode cX0_become 32 = .ok (.getfield 25, 3) := by decide +kernel
theorem dX0_become_35 : decode cX0_become 35 = .ok (.putfield 25, 3) := by decide +kernel
theorem dX0_become_38 : decode cX0_become 38 = .ok (.return_, 1) := by decide +kernel
set_option maxRecDepth 20000 in
theorem ggX1_init_X0_init : GoodIn wsX1_init wsX0_init := goodIn_r _ [12, 13, 2, 3, 14, 15, 16, 17, 18, 19, 20, 21, 22, 23, 24, 25, 26, 27, 28, 36, 37, 38, 32, 33, 34, 35] (by decide +kernel) (by decide +kernel)
set_option maxRecDepth 20000 in
theorem gX1_init_X0_init : GoodIn wsX1_init (wsX0_init) := ggX1_init_X0_init
theorem dX1_init_0 : decode cX1_init 0 = .ok (.aload_n 0, 1) := by decide +kernel
theorem dX1_init_1 : decode cX1_init 1 = .ok (.invokespecial 3, 3) := by decide +kernel
theorem dX1_init_4 : decode cX1_init 4 = .ok (.aload_n 0, 1) := by decide +kernel
theorem dX1_init_5 : decode cX1_init 5 = .ok (.bipush 8, 2) := by decide +kernel
theorem dX1_init_7 : decode cX1_init 7 = .ok (.anewarray 9, 3) := by decide +kernel
theorem dX1_init_10 : decode cX1_init 10 = .ok (.putfield 11, 3) := by decide +kernel
theorem dX1_init_13 : decode cX1_init 13 = .ok (.iconst 0, 1) := by decide +kernel
theorem dX1_init_14 : decode cX1_init 14 = .ok (.istore_n 1, 1) := by decide +kernel
theorem dX1_init_15 : decode cX1_init 15 = .ok (.iload_n 1, 1) := by decide +kernel
theorem dX1_init_16 : decode cX1_init 16 = .ok (.aload_n 0, 1) := by decide +kernel
theorem dX1_init_17 : decode cX1_init 17 = .ok (.getfield 11, 3) := by decide +kernel
theorem dX1_init_20 : decode cX1_init 20 = .ok (.arraylength, 1) := by decide +kernel
theorem dX1_init_21 : decode cX1_init 21 = .ok (.if_icmp .ge 22, 3) := by decide +kernel
theorem dX1_init_24 : decode cX1_init 24 = .ok (.aload_n 0, 1) := by decide +kernel
theorem dX1_init_25 : decode cX1_init 25 = .ok (.getfield 11, 3) := by decide +kernel
theorem dX1_init_28 : decode cX1_init 28 = .ok (.iload_n 1, 1) := by decide +kernel
theorem dX1_init_29 : decode cX1_init 29 = .ok (.new 9, 3) := by decide +kernel
theorem dX1_init_32 : decode cX1_init 32 = .ok (.dup, 1) := by decide +kernel
theorem dX1_init_33 : decode cX1_init 33 = .ok (.invokespecial 17, 3) := by decide +kernel
theorem dX1_init_36 : decode cX1_init 36 = .ok (.aastore, 1) := by decide +kernel
theorem dX1_init_37 : decode cX1_init 37 = .ok (.iinc 1 1, 3) := by decide +kernel
theorem dX1_init_40 : decode cX1_init 40 = .ok (.goto (-25), 3) := by decide +kernel
theorem dX1_init_43 : decode cX1_init 43 = .ok (.aload_n 0, 1) := by decide +kernel
theorem dX1_init_44 : decode cX1_init 44 = .ok (.iconst 0, 1) := by decide +kernel
theorem dX1_init_45 : decode cX1_init 45 = .ok (.putfield 18, 3) := by decide +kernel
theorem dX1_init_48 : decode cX1_init 48 = .ok (.aload_n 0, 1) := by decide +kernel
theorem dX1_init_49 : decode cX1_init 49 = .ok (.iconst 0, 1) := by decide +kernel
theorem dX1_init_50 : decode cX1_init 50 = .ok (.putfield 22, 3) := by decide +kernel
theorem dX1_init_53 : decode cX1_init 53 = .ok (.return_, 1) := by decide +kernel
theorem dX1_kept_0 : decode cX1_kept 0 = .ok (.aload_n 0, 1) := by decide +kernel
theorem dX1_kept_1 : decode cX1_kept 1 = .ok (.getfield 22, 3) := by decide +kernel
theorem dX1_kept_4 : decode cX1_kept 4 = .ok (.ireturn, 1) := by decide +kernel
set_option maxRecDepth 20000 in
theorem ggX1_keep_X0_become : GoodIn wsX1_keep wsX0_become := goodIn_r _ [12, 13, 14, 15, 16, 17, 18, 19, 20, 21, 22, 23, 24, 25, 26, 27, 28, 29, 30, 31, 32, 33, 34, 35, 36, 37, 38, 39, 40, 44, 45, 46, 47, 48, 49, 50] (by decide +kernel) (by decide +kernel)
set_option maxRecDepth 20000 in
theorem gX1_keep_X0_become : GoodIn wsX1_keep (wsV RX1 25 RX0 yX0_become wsX0_become) := goodIn_app (goodIn_of _ (by decide +kernel)) ggX1_keep_X0_become
theorem dX1_keep_0 : decode cX1_keep 0 = .ok (.aload_n 0, 1) := by decide +kernel
theorem dX1_keep_1 : decode cX1_keep 1 = .ok (.getfield 18, 3) := by decide +kernel
theorem dX1_keep_4 : decode cX1_keep 4 = .ok (.ifCond .lt 15, 3) := by decide +kernel
theorem dX1_keep_7 : decode cX1_keep 7 = .ok (.aload_n 0, 1) := by decide +kernel
theorem dX1_keep_8 : decode cX1_keep 8 = .ok (.getfield 18, 3) := by decide +kernel
theorem dX1_keep_11 : decode cX1_keep 11 = .ok (.aload_n 0, 1) := by decide +kernel
theorem dX1_keep_12 : decode cX1_keep 12 = .ok (.getfield 11, 3) := by decide +kernel
theorem dX1_keep_15 : decode cX1_keep 15 = .ok (.arraylength, 1) := by decide +kernel
theorem dX1_keep_16 : decode cX1_keep 16 = .ok (.if_icmp .lt 4, 3) := by decide +kernel
theorem dX1_keep_19 : decode cX1_keep 19 = .ok (.return_, 1) := by decide +kernel
theorem dX1_keep_20 : decode cX1_keep 20 = .ok (.aload_n 0, 1) := by decide +kernel
theorem dX1_keep_21 : decode cX1_keep 21 = .ok (.getfield 11, 3) := by decide +kernel
theorem dX1_keep_24 : decode cX1_keep 24 = .ok (.aload_n 0, 1) := by decide +kernel
theorem dX1_keep_25 : decode cX1_keep 25 = .ok (.getfield 18, 3) := by decide +kernel
theorem dX1_keep_28 : decode cX1_keep 28 = .ok (.aaload, 1) := by decide +kernel
theorem dX1_keep_29 : decode cX1_keep 29 = .ok (.aload_n 1, 1) := by decide +kernel
theorem dX1_keep_30 : decode cX1_keep 30 = .ok (.invokevirtual 25, 3) := by decide +kernel
theorem dX1_keep_33 : decode cX1_keep 33 = .ok (.aload_n 0, 1) := by decide +kernel
theorem dX1_keep_34 : decode cX1_keep 34 = .ok (.aload_n 0, 1) := by decide +kernel
theorem dX1_keep_35 : decode cX1_keep 35 = .ok (.getfield 18, 3) := by decide +kernel
theorem dX1_keep_38 : decode cX1_keep 38 = .ok (.iconst 1, 1) := by decide +kernel
theorem dX1_keep_39 : decode cX1_keep 39 = .ok (.iadd, 1) := by decide +kernel
theorem dX1_keep_40 : decode cX1_keep 40 = .ok (.aload_n 0, 1) := by decide +kernel
theorem dX1_keep_41 : decode cX1_keep 41 = .ok (.getfield 11, 3) := by decide +kernel
theorem dX1_keep_44 : decode cX1_keep 44 = .ok (.arraylength, 1) := by decide +kernel
theorem dX1_keep_45 : decode cX1_keep 45 = .ok (.if_icmp .ge 12, 3) := by decide +kernel
theorem dX1_keep_48 : decode cX1_keep 48 = .ok (.aload_n 0, 1) := by decide +kernel
theorem dX1_keep_49 : decode cX1_keep 49 = .ok (.getfield 18, 3) := by decide +kernel
theorem dX1_keep_52 : decode cX1_keep 52 = .ok (.iconst 1, 1) := by decide +kernel
theorem dX1_keep_53 : decode cX1_keep 53 = .ok (.iadd, 1) := by decide +kernel
theorem dX1_keep_54 : decode cX1_keep 54 = .ok (.goto 4, 3) := by decide +kernel
theorem dX1_keep_57 : decode cX1_keep 57 = .ok (.iconst 0, 1) := by decide +kernel
theorem dX1_keep_58 : decode cX1_keep 58 = .ok (.putfield 18, 3) := by decide +kernel
theorem dX1_keep_61 : decode cX1_keep 61 = .ok (.aload_n 0, 1) := by decide +kernel
theorem dX1_keep_62 : decode cX1_keep 62 = .ok (.aload_n 0, 1) := by decide +kernel
theorem dX1_keep_63 : decode cX1_keep 63 = .ok (.getfield 22, 3) := by decide +kernel
theorem dX1_keep_66 : decode cX1_keep 66 = .ok (.iconst 1, 1) := by decide +kernel
theorem dX1_keep_67 : decode cX1_keep 67 = .ok (.iadd, 1) := by decide +kernel
theorem dX1_keep_68 : decode cX1_keep 68 = .ok (.aload_n 0, 1) := by decide +kernel
theorem dX1_keep_69 : decode cX1_keep 69 = .ok (.getfield 11, 3) := by decide +kernel
theorem dX1_keep_72 : decode cX1_keep 72 = .ok (.arraylength, 1) := by decide +kernel
theorem dX1_keep_73 : decode cX1_keep 73 = .ok (.invokestatic 29, 3) := by decide +kernel
theorem dX1_keep_76 : decode cX1_keep 76 = .ok (.putfield 22, 3) := by decide +kernel
theorem dX1_keep_79 : decode cX1_keep 79 = .ok (.return_, 1) := by decide +kernel
set_option maxRecDepth 20000 in
theorem ggX1_bringBack_X0_become : GoodIn wsX1_bringBack wsX0_become := goodIn_r _ [8, 9, 10, 11, 12, 13, 14, 15, 16, 17, 18, 19, 20, 21, 22, 23, 24, 25, 26, 27, 28, 29, 30, 31, 32, 33, 34, 35, 36, 40, 41, 42, 43, 44, 45, 46] (by decide +kernel) (by decide +kernel)
set_option maxRecDepth 20000 in
theorem gX1_bringBack_X0_become : GoodIn wsX1_bringBack (wsV RX1 25 RX0 yX0_become wsX0_become) := goodIn_app (goodIn_of _ (by decide +kernel)) ggX1_bringBack_X0_become
theorem dX1_bringBack_0 : decode cX1_bringBack 0 = .ok (.aload_n 0, 1) := by decide +kernel
theorem dX1_bringBack_1 : decode cX1_bringBack 1 = .ok (.getfield 18, 3) := by decide +kernel
theorem dX1_bringBack_4 : decode cX1_bringBack 4 = .ok (.ifCond .le 12, 3) := by decide +kernel
theorem dX1_bringBack_7 : decode cX1_bringBack 7 = .ok (.aload_n 0, 1) := by decide +kernel
theorem dX1_bringBack_8 : decode cX1_bringBack 8 = .ok (.getfield 18, 3) := by decide +kernel
theorem dX1_bringBack_11 : decode cX1_bringBack 11 = .ok (.iconst 1, 1) := by decide +kernel
theorem dX1_bringBack_12 : decode cX1_bringBack 12 = .ok (.isub, 1) := by decide +kernel
theorem dX1_bringBack_13 : decode cX1_bringBack 13 = .ok (.goto 10, 3) := by decide +kernel
theorem dX1_bringBack_16 : decode cX1_bringBack 16 = .ok (.aload_n 0, 1) := by decide +kernel
theorem dX1_bringBack_17 : decode cX1_bringBack 17 = .ok (.getfield 11, 3) := by decide +kernel
theorem dX1_bringBack_20 : decode cX1_bringBack 20 = .ok (.arraylength, 1) := by decide +kernel
theorem dX1_bringBack_21 : decode cX1_bringBack 21 = .ok (.iconst 1, 1) := by decide +kernel
theorem dX1_bringBack_22 : decode cX1_bringBack 22 = .ok (.isub, 1) := by decide +kernel
theorem dX1_bringBack_23 : decode cX1_bringBack 23 = .ok (.istore_n 2, 1) := by decide +kernel
theorem dX1_bringBack_24 : decode cX1_bringBack 24 = .ok (.aload_n 0, 1) := by decide +kernel
theorem dX1_bringBack_25 : decode cX1_bringBack 25 = .ok (.getfield 22, 3) := by decide +kernel
theorem dX1_bringBack_28 : decode cX1_bringBack 28 = .ok (.ifCond .eq 16, 3) := by decide +kernel
theorem dX1_bringBack_31 : decode cX1_bringBack 31 = .ok (.iload_n 2, 1) := by decide +kernel
theorem dX1_bringBack_32 : decode cX1_bringBack 32 = .ok (.ifCond .lt 12, 3) := by decide +kernel
theorem dX1_bringBack_35 : decode cX1_bringBack 35 = .ok (.iload_n 2, 1) := by decide +kernel
theorem dX1_bringBack_36 : decode cX1_bringBack 36 = .ok (.aload_n 0, 1) := by decide +kernel
theorem dX1_bringBack_37 : decode cX1_bringBack 37 = .ok (.getfield 11, 3) := by decide +kernel
theorem dX1_bringBack_40 : decode cX1_bringBack 40 = .ok (.arraylength, 1) := by decide +kernel
theorem dX1_bringBack_41 : decode cX1_bringBack 41 = .ok (.if_icmp .lt 4, 3) := by decide +kernel
theorem dX1_bringBack_44 : decode cX1_bringBack 44 = .ok (.return_, 1) := by decide +kernel
theorem dX1_bringBack_45 : decode cX1_bringBack 45 = .ok (.aload_n 1, 1) := by decide +kernel
theorem dX1_bringBack_46 : decode cX1_bringBack 46 = .ok (.aload_n 0, 1) := by decide +kernel
theorem dX1_bringBack_47 : decode cX1_bringBack 47 = .ok (.getfield 11, 3) := by decide +kernel
theorem dX1_bringBack_50 : decode cX1_bringBack 50 = .ok (.iload_n 2, 1) := by decide +kernel
theorem dX1_bringBack_51 : decode cX1_bringBack 51 = .ok (.aaload, 1) := by decide +kernel
theorem dX1_bringBack_52 : decode cX1_bringBack 52 = .ok (.invokevirtual 25, 3) := by decide +kernel
theorem dX1_bringBack_55 : decode cX1_bringBack 55 = .ok (.aload_n 0, 1) := by decide +kernel
theorem dX1_bringBack_56 : decode cX1_bringBack 56 = .ok (.iload_n 2, 1) := by decide +kernel
theorem dX1_bringBack_57 : decode cX1_bringBack 57 = .ok (.putfield 18, 3) := by decide +kernel
theorem dX1_bringBack_60 : decode cX1_bringBack 60 = .ok (.aload_n 0, 1) := by decide +kernel
theorem dX1_bringBack_61 : decode cX1_bringBack 61 = .ok (.dup, 1) := by decide +kernel
theorem dX1_bringBack_62 : decode cX1_bringBack 62 = .ok (.getfield 22, 3) := by decide +kernel
theorem dX1_bringBack_65 : decode cX1_bringBack 65 = .ok (.iconst 1, 1) := by decide +kernel
theorem dX1_bringBack_66 : decode cX1_bringBack 66 = .ok (.isub, 1) := by decide +kernel
theorem dX1_bringBack_67 : decode cX1_bringBack 67 = .ok (.putfield 22, 3) := by decide +kernel
theorem dX1_bringBack_70 : decode cX1_bringBack 70 = .ok (.return_, 1) := by decide +kernel
theorem dX2_init_0 : decode cX2_init 0 = .ok (.aload_n 0, 1) := by decide +kernel
theorem dX2_init_1 : decode cX2_init 1 = .ok (.invokespecial 3, 3) := by decide +kernel
theorem dX2_init_4 : decode cX2_init 4 = .ok (.aload_n 0, 1) := by decide +kernel
theorem dX2_init_5 : decode cX2_init 5 = .ok (.bipush 12, 2) := by decide +kernel
theorem dX2_init_7 : decode cX2_init 7 = .ok (.newarray .int, 2) := by decide +kernel
theorem dX2_init_9 : decode cX2_init 9 = .ok (.putfield 9, 3) := by decide +kernel
theorem dX2_init_12 : decode cX2_init 12 = .ok (.aload_n 0, 1) := by decide +kernel
theorem dX2_init_13 : decode cX2_init 13 = .ok (.bipush 12, 2) := by decide +kernel
theorem dX2_init_15 : decode cX2_init 15 = .ok (.newarray .int, 2) := by decide +kernel
theorem dX2_init_17 : decode cX2_init 17 = .ok (.putfield 15, 3) := by decide +kernel
theorem dX2_init_20 : decode cX2_init 20 = .ok (.aload_n 0, 1) := by decide +kernel
theorem dX2_init_21 : decode cX2_init 21 = .ok (.iconst 0, 1) := by decide +kernel
theorem dX2_init_22 : decode cX2_init 22 = .ok (.putfield 18, 3) := by decide +kernel
theorem dX2_init_25 : decode cX2_init 25 = .ok (.return_, 1) := by decide +kernel
theorem dX2_count_0 : decode cX2_count 0 = .ok (.aload_n 0, 1) := by decide +kernel
theorem dX2_count_1 : decode cX2_count 1 = .ok (.getfield 18, 3) := by decide +kernel
theorem dX2_count_4 : decode cX2_count 4 = .ok (.ireturn, 1) := by decide +kernel
theorem dX2_holdsPlace_0 : decode cX2_holdsPlace 0 = .ok (.iload_n 1, 1) := by decide +kernel
theorem dX2_holdsPlace_1 : decode cX2_holdsPlace 1 = .ok (.ifCond .lt 24, 3) := by decide +kernel
theorem dX2_holdsPlace_4 : decode cX2_holdsPlace 4 = .ok (.iload_n 1, 1) := by decide +kernel
theorem dX2_holdsPlace_5 : decode cX2_holdsPlace 5 = .ok (.aload_n 0, 1) := by decide +kernel
theorem dX2_holdsPlace_6 : decode cX2_holdsPlace 6 = .ok (.getfield 18, 3) := by decide +kernel
theorem dX2_holdsPlace_9 : decode cX2_holdsPlace 9 = .ok (.if_icmp .ge 16, 3) := by decide +kernel
theorem dX2_holdsPlace_12 : decode cX2_holdsPlace 12 = .ok (.iload_n 1, 1) := by decide +kernel
theorem dX2_holdsPlace_13 : decode cX2_holdsPlace 13 = .ok (.aload_n 0, 1) := by decide +kernel
theorem dX2_holdsPlace_14 : decode cX2_holdsPlace 14 = .ok (.getfield 9, 3) := by decide +kernel
theorem dX2_holdsPlace_17 : decode cX2_holdsPlace 17 = .ok (.arraylength, 1) := by decide +kernel
theorem dX2_holdsPlace_18 : decode cX2_holdsPlace 18 = .ok (.if_icmp .ge 7, 3) := by decide +kernel
theorem dX2_holdsPlace_21 : decode cX2_holdsPlace 21 = .ok (.iconst 1, 1) := by decide +kernel
theorem dX2_holdsPlace_22 : decode cX2_holdsPlace 22 = .ok (.goto 4, 3) := by decide +kernel
theorem dX2_holdsPlace_25 : decode cX2_holdsPlace 25 = .ok (.iconst 0, 1) := by decide +kernel
theorem dX2_holdsPlace_26 : decode cX2_holdsPlace 26 = .ok (.ireturn, 1) := by decide +kernel
set_option maxRecDepth 20000 in
theorem ggX2_keyIn_X2_holdsPlace : GoodIn wsX2_keyIn wsX2_holdsPlace := goodIn_r _ [6, 7, 1, 8, 9, 10] (by decide +kernel) (by decide +kernel)
set_option maxRecDepth 20000 in
theorem gX2_keyIn_X2_holdsPlace : GoodIn wsX2_keyIn (wsV RX2 22 RX2 yX2_holdsPlace wsX2_holdsPlace) := goodIn_app (goodIn_of _ (by decide +kernel)) ggX2_keyIn_X2_holdsPlace
theorem dX2_keyIn_0 : decode cX2_keyIn 0 = .ok (.aload_n 0, 1) := by decide +kernel
theorem dX2_keyIn_1 : decode cX2_keyIn 1 = .ok (.iload_n 1, 1) := by decide +kernel
theorem dX2_keyIn_2 : decode cX2_keyIn 2 = .ok (.invokevirtual 22, 3) := by decide +kernel
theorem dX2_keyIn_5 : decode cX2_keyIn 5 = .ok (.ifCond .eq 12, 3) := by decide +kernel
theorem dX2_keyIn_8 : decode cX2_keyIn 8 = .ok (.aload_n 0, 1) := by decide +kernel
theorem dX2_keyIn_9 : decode cX2_keyIn 9 = .ok (.getfield 9, 3) := by decide +kernel
theorem dX2_keyIn_12 : decode cX2_keyIn 12 = .ok (.iload_n 1, 1) := by decide +kernel
theorem dX2_keyIn_13 : decode cX2_keyIn 13 = .ok (.iaload, 1) := by decide +kernel
theorem dX2_keyIn_14 : decode cX2_keyIn 14 = .ok (.goto 4, 3) := by decide +kernel
theorem dX2_keyIn_17 : decode cX2_keyIn 17 = .ok (.iconst (-1), 1) := by decide +kernel
theorem dX2_keyIn_18 : decode cX2_keyIn 18 = .ok (.ireturn, 1) := by decide +kernel
set_option maxRecDepth 20000 in
theorem ggX2_valueIn_X2_holdsPlace : GoodIn wsX2_valueIn wsX2_holdsPlace := goodIn_r _ [6, 7, 8, 9, 10, 11] (by decide +kernel) (by decide +kernel)
set_option maxRecDepth 20000 in
theorem gX2_valueIn_X2_holdsPlace : GoodIn wsX2_valueIn (wsV RX2 22 RX2 yX2_holdsPlace wsX2_holdsPlace) := goodIn_app (goodIn_of _ (by decide +kernel)) ggX2_valueIn_X2_holdsPlace
theorem dX2_valueIn_0 : decode cX2_valueIn 0 = .ok (.aload_n 0, 1) := by decide +kernel
theorem dX2_valueIn_1 : decode cX2_valueIn 1 = .ok (.iload_n 1, 1) := by decide +kernel
theorem dX2_valueIn_2 : decode cX2_valueIn 2 = .ok (.invokevirtual 22, 3) := by decide +kernel
theorem dX2_valueIn_5 : decode cX2_valueIn 5 = .ok (.ifCond .eq 12, 3) := by decide +kernel
theorem dX2_valueIn_8 : decode cX2_valueIn 8 = .ok (.aload_n 0, 1) := by decide +kernel
theorem dX2_valueIn_9 : decode cX2_valueIn 9 = .ok (.getfield 15, 3) := by decide +kernel
theorem dX2_valueIn_12 : decode cX2_valueIn 12 = .ok (.iload_n 1, 1) := by decide +kernel
theorem dX2_valueIn_13 : decode cX2_valueIn 13 = .ok (.iaload, 1) := by decide +kernel
theorem dX2_valueIn_14 : decode cX2_valueIn 14 = .ok (.goto 4, 3) := by decide +kernel
theorem dX2_valueIn_17 : decode cX2_valueIn 17 = .ok (.iconst 0, 1) := by decide +kernel
theorem dX2_valueIn_18 : decode cX2_valueIn 18 = .ok (.ireturn, 1) := by decide +kernel
set_option maxRecDepth 20000 in
theorem ggX2_find_X2_keyIn : GoodIn wsX2_find wsX2_keyIn := goodIn_r _ [6, 7, 8, 9, 10, 5, 11, 1, 12, 13, 14] (by decide +kernel) (by decide +kernel)
set_option maxRecDepth 20000 in
theorem gX2_find_X2_keyIn : GoodIn wsX2_find (wsV RX2 26 RX2 yX2_keyIn wsX2_keyIn) := goodIn_app (goodIn_of _ (by decide +kernel)) ggX2_find_X2_keyIn
theorem dX2_find_0 : decode cX2_find 0 = .ok (.iconst 0, 1) := by decide +kernel
theorem dX2_find_1 : decode cX2_find 1 = .ok (.istore_n 2, 1) := by decide +kernel
theorem dX2_find_2 : decode cX2_find 2 = .ok (.iload_n 2, 1) := by decide +kernel
theorem dX2_find_3 : decode cX2_find 3 = .ok (.aload_n 0, 1) := by decide +kernel
theorem dX2_find_4 : decode cX2_find 4 = .ok (.getfield 18, 3) := by decide +kernel
theorem dX2_find_7 : decode cX2_find 7 = .ok (.if_icmp .ge 20, 3) := by decide +kernel
theorem dX2_find_10 : decode cX2_find 10 = .ok (.aload_n 0, 1) := by decide +kernel
theorem dX2_find_11 : decode cX2_find 11 = .ok (.iload_n 2, 1) := by decide +kernel
theorem dX2_find_12 : decode cX2_find 12 = .ok (.invokevirtual 26, 3) := by decide +kernel
theorem dX2_find_15 : decode cX2_find 15 = .ok (.iload_n 1, 1) := by decide +kernel
theorem dX2_find_16 : decode cX2_find 16 = .ok (.if_icmp .ne 5, 3) := by decide +kernel
theorem dX2_find_19 : decode cX2_find 19 = .ok (.iload_n 2, 1) := by decide +kernel
theorem dX2_find_20 : decode cX2_find 20 = .ok (.ireturn, 1) := by decide +kernel
theorem dX2_find_21 : decode cX2_find 21 = .ok (.iinc 2 1, 3) := by decide +kernel
theorem dX2_find_24 : decode cX2_find 24 = .ok (.goto (-22), 3) := by decide +kernel
theorem dX2_find_27 : decode cX2_find 27 = .ok (.iconst (-1), 1) := by decide +kernel
theorem dX2_find_28 : decode cX2_find 28 = .ok (.ireturn, 1) := by decide +kernel
set_option maxRecDepth 20000 in
theorem ggX2_give_X2_holdsPlace : GoodIn wsX2_give wsX2_holdsPlace := goodIn_r _ [6, 7, 8, 9, 10, 11] (by decide +kernel) (by decide +kernel)
set_option maxRecDepth 20000 in
theorem gX2_give_X2_holdsPlace : GoodIn wsX2_give (wsV RX2 22 RX2 yX2_holdsPlace wsX2_holdsPlace) := goodIn_app (goodIn_of _ (by decide +kernel)) ggX2_give_X2_holdsPlace
theorem dX2_give_0 : decode cX2_give 0 = .ok (.aload_n 0, 1) := by decide +kernel
theorem dX2_give_1 : decode cX2_give 1 = .ok (.iload_n 1, 1) := by decide +kernel
theorem dX2_give_2 : decode cX2_give 2 = .ok (.invokevirtual 22, 3) := by decide +kernel
theorem dX2_give_5 : decode cX2_give 5 = .ok (.ifCond .eq 10, 3) := by decide +kernel
theorem dX2_give_8 : decode cX2_give 8 = .ok (.aload_n 0, 1) := by decide +kernel
theorem dX2_give_9 : decode cX2_give 9 = .ok (.getfield 15, 3) := by decide +kernel
theorem dX2_give_12 : decode cX2_give 12 = .ok (.iload_n 1, 1) := by decide +kernel
theorem dX2_give_13 : decode cX2_give 13 = .ok (.iload_n 2, 1) := by decide +kernel
theorem dX2_give_14 : decode cX2_give 14 = .ok (.iastore, 1) := by decide +kernel
theorem dX2_give_15 : decode cX2_give 15 = .ok (.return_, 1) := by decide +kernel
theorem dX2_append_0 : decode cX2_append 0 = .ok (.aload_n 0, 1) := by decide +kernel
theorem dX2_append_1 : decode cX2_append 1 = .ok (.getfield 18, 3) := by decide +kernel
theorem dX2_append_4 : decode cX2_append 4 = .ok (.aload_n 0, 1) := by decide +kernel
theorem dX2_append_5 : decode cX2_append 5 = .ok (.getfield 9, 3) := by decide +kernel
theorem dX2_append_8 : decode cX2_append 8 = .ok (.arraylength, 1) := by decide +kernel
theorem dX2_append_9 : decode cX2_append 9 = .ok (.if_icmp .ge 33, 3) := by decide +kernel
theorem dX2_append_12 : decode cX2_append 12 = .ok (.aload_n 0, 1) := by decide +kernel
theorem dX2_append_13 : decode cX2_append 13 = .ok (.getfield 9, 3) := by decide +kernel
theorem dX2_append_16 : decode cX2_append 16 = .ok (.aload_n 0, 1) := by decide +kernel
theorem dX2_append_17 : decode cX2_append 17 = .ok (.getfield 18, 3) := by decide +kernel
theorem dX2_append_20 : decode cX2_append 20 = .ok (.iload_n 1, 1) := by decide +kernel
theorem dX2_append_21 : decode cX2_append 21 = .ok (.iastore, 1) := by decide +kernel
theorem dX2_append_22 : decode cX2_append 22 = .ok (.aload_n 0, 1) := by decide +kernel
theorem dX2_append_23 : decode cX2_append 23 = .ok (.getfield 15, 3) := by decide +kernel
theorem dX2_append_26 : decode cX2_append 26 = .ok (.aload_n 0, 1) := by decide +kernel
theorem dX2_append_27 : decode cX2_append 27 = .ok (.getfield 18, 3) := by decide +kernel
theorem dX2_append_30 : decode cX2_append 30 = .ok (.iload_n 2, 1) := by decide +kernel
theorem dX2_append_31 : decode cX2_append 31 = .ok (.iastore, 1) := by decide +kernel
theorem dX2_append_32 : decode cX2_append 32 = .ok (.aload_n 0, 1) := by decide +kernel
theorem dX2_append_33 : decode cX2_append 33 = .ok (.dup, 1) := by decide +kernel
theorem dX2_append_34 : decode cX2_append 34 = .ok (.getfield 18, 3) := by decide +kernel
theorem dX2_append_37 : decode cX2_append 37 = .ok (.iconst 1, 1) := by decide +kernel
theorem dX2_append_38 : decode cX2_append 38 = .ok (.iadd, 1) := by decide +kernel
theorem dX2_append_39 : decode cX2_append 39 = .ok (.putfield 18, 3) := by decide +kernel
theorem dX2_append_42 : decode cX2_append 42 = .ok (.return_, 1) := by decide +kernel
set_option maxRecDepth 20000 in
theorem ggX2_close_X2_holdsPlace : GoodIn wsX2_close wsX2_holdsPlace := goodIn_r _ [8, 1, 2, 9, 10, 11] (by decide +kernel) (by decide +kernel)
set_option maxRecDepth 20000 in
theorem gX2_close_X2_holdsPlace : GoodIn wsX2_close (wsV RX2 22 RX2 yX2_holdsPlace wsX2_holdsPlace) := goodIn_app (goodIn_of _ (by decide +kernel)) ggX2_close_X2_holdsPlace
theorem dX2_close_0 : decode cX2_close 0 = .ok (.aload_n 0, 1) := by decide +kernel
theorem dX2_close_1 : decode cX2_close 1 = .ok (.iload_n 1, 1) := by decide +kernel
theorem dX2_close_2 : decode cX2_close 2 = .ok (.invokevirtual 22, 3) := by decide +kernel
theorem dX2_close_5 : decode cX2_close 5 = .ok (.ifCond .ne 4, 3) := by decide +kernel
theorem dX2_close_8 : decode cX2_close 8 = .ok (.return_, 1) := by decide +kernel
theorem dX2_close_9 : decode cX2_close 9 = .ok (.iload_n 1, 1) := by decide +kernel
theorem dX2_close_10 : decode cX2_close 10 = .ok (.iconst 1, 1) := by decide +kernel
theorem dX2_close_11 : decode cX2_close 11 = .ok (.iadd, 1) := by decide +kernel
theorem dX2_close_12 : decode cX2_close 12 = .ok (.istore_n 2, 1) := by decide +kernel
theorem dX2_close_13 : decode cX2_close 13 = .ok (.iload_n 2, 1) := by decide +kernel
theorem dX2_close_14 : decode cX2_close 14 = .ok (.aload_n 0, 1) := by decide +kernel
theorem dX2_close_15 : decode cX2_close 15 = .ok (.getfield 18, 3) := by decide +kernel
theorem dX2_close_18 : decode cX2_close 18 = .ok (.if_icmp .ge 46, 3) := by decide +kernel
theorem dX2_close_21 : decode cX2_close 21 = .ok (.iload_n 2, 1) := by decide +kernel
theorem dX2_close_22 : decode cX2_close 22 = .ok (.aload_n 0, 1) := by decide +kernel
theorem dX2_close_23 : decode cX2_close 23 = .ok (.getfield 9, 3) := by decide +kernel
theorem dX2_close_26 : decode cX2_close 26 = .ok (.arraylength, 1) := by decide +kernel
theorem dX2_close_27 : decode cX2_close 27 = .ok (.if_icmp .ge 37, 3) := by decide +kernel
theorem dX2_close_30 : decode cX2_close 30 = .ok (.aload_n 0, 1) := by decide +kernel
theorem dX2_close_31 : decode cX2_close 31 = .ok (.getfield 9, 3) := by decide +kernel
theorem dX2_close_34 : decode cX2_close 34 = .ok (.iload_n 2, 1) := by decide +kernel
theorem dX2_close_35 : decode cX2_close 35 = .ok (.iconst 1, 1) := by decide +kernel
theorem dX2_close_36 : decode cX2_close 36 = .ok (.isub, 1) := by decide +kernel
theorem dX2_close_37 : decode cX2_close 37 = .ok (.aload_n 0, 1) := by decide +kernel
theorem dX2_close_38 : decode cX2_close 38 = .ok (.getfield 9, 3) := by decide +kernel
theorem dX2_close_41 : decode cX2_close 41 = .ok (.iload_n 2, 1) := by decide +kernel
theorem dX2_close_42 : decode cX2_close 42 = .ok (.iaload, 1) := by decide +kernel
theorem dX2_close_43 : decode cX2_close 43 = .ok (.iastore, 1) := by decide +kernel
theorem dX2_close_44 : decode cX2_close 44 = .ok (.aload_n 0, 1) := by decide +kernel
theorem dX2_close_45 : decode cX2_close 45 = .ok (.getfield 15, 3) := by decide +kernel
theorem dX2_close_48 : decode cX2_close 48 = .ok (.iload_n 2, 1) := by decide +kernel
theorem dX2_close_49 : decode cX2_close 49 = .ok (.iconst 1, 1) := by decide +kernel
theorem dX2_close_50 : decode cX2_close 50 = .ok (.isub, 1) := by decide +kernel
theorem dX2_close_51 : decode cX2_close 51 = .ok (.aload_n 0, 1) := by decide +kernel
theorem dX2_close_52 : decode cX2_close 52 = .ok (.getfield 15, 3) := by decide +kernel
theorem dX2_close_55 : decode cX2_close 55 = .ok (.iload_n 2, 1) := by decide +kernel
theorem dX2_close_56 : decode cX2_close 56 = .ok (.iaload, 1) := by decide +kernel
theorem dX2_close_57 : decode cX2_close 57 = .ok (.iastore, 1) := by decide +kernel
theorem dX2_close_58 : decode cX2_close 58 = .ok (.iinc 2 1, 3) := by decide +kernel
theorem dX2_close_61 : decode cX2_close 61 = .ok (.goto (-48), 3) := by decide +kernel
theorem dX2_close_64 : decode cX2_close 64 = .ok (.aload_n 0, 1) := by decide +kernel
theorem dX2_close_65 : decode cX2_close 65 = .ok (.dup, 1) := by decide +kernel
theorem dX2_close_66 : decode cX2_close 66 = .ok (.getfield 18, 3) := by decide +kernel
theorem dX2_close_69 : decode cX2_close 69 = .ok (.iconst 1, 1) := by decide +kernel
theorem dX2_close_70 : decode cX2_close 70 = .ok (.isub, 1) := by decide +kernel
theorem dX2_close_71 : decode cX2_close 71 = .ok (.putfield 18, 3) := by decide +kernel
theorem dX2_close_74 : decode cX2_close 74 = .ok (.return_, 1) := by decide +kernel
set_option maxRecDepth 20000 in
theorem ggX2_putLast_X2_holdsPlace : GoodIn wsX2_putLast wsX2_holdsPlace := goodIn_r _ [7, 8, 1, 17, 18, 19] (by decide +kernel) (by decide +kernel)
set_option maxRecDepth 20000 in
theorem gX2_putLast_X2_holdsPlace : GoodIn wsX2_putLast (wsV RX2 22 RX2 yX2_holdsPlace wsX2_holdsPlace) := goodIn_app (goodIn_of _ (by decide +kernel)) ggX2_putLast_X2_holdsPlace
set_option maxRecDepth 20000 in
theorem ggX2_putLast_X2_close : GoodIn wsX2_putLast wsX2_close := goodIn_r _ [12, 8, 1, 2, 3, 4, 5, 6, 7, 17, 18, 19] (by decide +kernel) (by decide +kernel)
set_option maxRecDepth 20000 in
theorem gX2_putLast_X2_close : GoodIn wsX2_putLast (wsV RX2 30 RX2 yX2_close wsX2_close) := goodIn_app (goodIn_of _ (by decide +kernel)) ggX2_putLast_X2_close
set_option maxRecDepth 20000 in
theorem ggX2_putLast_X2_append : GoodIn wsX2_putLast wsX2_append := goodIn_r _ [16, 8, 1, 2, 17, 18, 19] (by decide +kernel) (by decide +kernel)
set_option maxRecDepth 20000 in
theorem gX2_putLast_X2_append : GoodIn wsX2_putLast (wsV RX2 34 RX2 yX2_append wsX2_append) := goodIn_app (goodIn_of _ (by decide +kernel)) ggX2_putLast_X2_append
theorem dX2_putLast_0 : decode cX2_putLast 0 = .ok (.aload_n 0, 1) := by decide +kernel
theorem dX2_putLast_1 : decode cX2_putLast 1 = .ok (.iload_n 1, 1) := by decide +kernel
theorem dX2_putLast_2 : decode cX2_putLast 2 = .ok (.invokevirtual 22, 3) := by decide +kernel
theorem dX2_putLast_5 : decode cX2_putLast 5 = .ok (.ifCond .ne 4, 3) := by decide +kernel
theorem dX2_putLast_8 : decode cX2_putLast 8 = .ok (.return_, 1) := by decide +kernel
theorem dX2_putLast_9 : decode cX2_putLast 9 = .ok (.aload_n 0, 1) := by decide +kernel
theorem dX2_putLast_10 : decode cX2_putLast 10 = .ok (.getfield 9, 3) := by decide +kernel
theorem dX2_putLast_13 : decode cX2_putLast 13 = .ok (.iload_n 1, 1) := by decide +kernel
theorem dX2_putLast_14 : decode cX2_putLast 14 = .ok (.iaload, 1) := by decide +kernel
theorem dX2_putLast_15 : decode cX2_putLast 15 = .ok (.istore_n 2, 1) := by decide +kernel
theorem dX2_putLast_16 : decode cX2_putLast 16 = .ok (.aload_n 0, 1) := by decide +kernel
theorem dX2_putLast_17 : decode cX2_putLast 17 = .ok (.getfield 15, 3) := by decide +kernel
theorem dX2_putLast_20 : decode cX2_putLast 20 = .ok (.iload_n 1, 1) := by decide +kernel
theorem dX2_putLast_21 : decode cX2_putLast 21 = .ok (.iaload, 1) := by decide +kernel
theorem dX2_putLast_22 : decode cX2_putLast 22 = .ok (.istore_n 3, 1) := by decide +kernel
theorem dX2_putLast_23 : decode cX2_putLast 23 = .ok (.aload_n 0, 1) := by decide +kernel
theorem dX2_putLast_24 : decode cX2_putLast 24 = .ok (.iload_n 1, 1) := by decide +kernel
theorem dX2_putLast_25 : decode cX2_putLast 25 = .ok (.invokevirtual 30, 3) := by decide +kernel
theorem dX2_putLast_28 : decode cX2_putLast 28 = .ok (.aload_n 0, 1) := by decide +kernel
theorem dX2_putLast_29 : decode cX2_putLast 29 = .ok (.iload_n 2, 1) := by decide +kernel
theorem dX2_putLast_30 : decode cX2_putLast 30 = .ok (.iload_n 3, 1) := by decide +kernel
theorem dX2_putLast_31 : decode cX2_putLast 31 = .ok (.invokevirtual 34, 3) := by decide +kernel
theorem dX2_putLast_34 : decode cX2_putLast 34 = .ok (.return_, 1) := by decide +kernel
set_option maxRecDepth 20000 in
theorem ggX2_become_X2_keyIn : GoodIn wsX2_become wsX2_keyIn := goodIn_r _ [6, 7, 8, 9, 10, 5, 11, 1, 21, 22, 23] (by decide +kernel) (by decide +kernel)
set_option maxRecDepth 20000 in
theorem gX2_become_X2_keyIn : GoodIn wsX2_become (wsV RX2 26 RX2 yX2_keyIn wsX2_keyIn) := goodIn_app (goodIn_of _ (by decide +kernel)) ggX2_become_X2_keyIn
set_option maxRecDepth 20000 in
theorem ggX2_become_X2_valueIn : GoodIn wsX2_become wsX2_valueIn := goodIn_r _ [15, 16, 8, 9, 10, 5, 11, 1, 7, 21, 22, 23] (by decide +kernel) (by decide +kernel)
set_option maxRecDepth 20000 in
theorem gX2_become_X2_valueIn : GoodIn wsX2_become (wsV RX2 38 RX2 yX2_valueIn wsX2_valueIn) := goodIn_app (goodIn_of _ (by decide +kernel)) ggX2_become_X2_valueIn
set_option maxRecDepth 20000 in
theorem ggX2_become_X2_append : GoodIn wsX2_become wsX2_append := goodIn_r _ [20, 1, 7, 16, 21, 22, 23] (by decide +kernel) (by decide +kernel)
set_option maxRecDepth 20000 in
theorem gX2_become_X2_append : GoodIn wsX2_become (wsV RX2 34 RX2 yX2_append wsX2_append) := goodIn_app (goodIn_of _ (by decide +kernel)) ggX2_become_X2_append
theorem dX2_become_0 : decode cX2_become 0 = .ok (.aload_n 0, 1) := by decide +kernel
theorem dX2_become_1 : decode cX2_become 1 = .ok (.iconst 0, 1) := by decide +kernel
theorem dX2_become_2 : decode cX2_become 2 = .ok (.putfield 18, 3) := by decide +kernel
theorem dX2_become_5 : decode cX2_become 5 = .ok (.iconst 0, 1) := by decide +kernel
theorem dX2_become_6 : decode cX2_become 6 = .ok (.istore_n 2, 1) := by decide +kernel
theorem dX2_become_7 : decode cX2_become 7 = .ok (.iload_n 2, 1) := by decide +kernel
theorem dX2_become_8 : decode cX2_become 8 = .ok (.aload_n 1, 1) := by decide +kernel
theorem dX2_become_9 : decode cX2_become 9 = .ok (.getfield 18, 3) := by decide +kernel
theorem dX2_become_12 : decode cX2_become 12 = .ok (.if_icmp .ge 23, 3) := by decide +kernel
theorem dX2_become_15 : decode cX2_become 15 = .ok (.aload_n 0, 1) := by decide +kernel
theorem dX2_become_16 : decode cX2_become 16 = .ok (.aload_n 1, 1) := by decide +kernel
theorem dX2_become_17 : decode cX2_become 17 = .ok (.iload_n 2, 1) := by decide +kernel
theorem dX2_become_18 : decode cX2_become 18 = .ok (.invokevirtual 26, 3) := by decide +kernel
theorem dX2_become_21 : decode cX2_become 21 = .ok (.aload_n 1, 1) := by decide +kernel
theorem dX2_become_22 : decode cX2_become 22 = .ok (.iload_n 2, 1) := by decide +kernel
theorem dX2_become_23 : decode cX2_become 23 = .ok (.invokevirtual 38, 3) := by decide +kernel
theorem dX2_become_26 : decode cX2_become 26 = .ok (.invokevirtual 34, 3) := by decide +kernel
theorem dX2_become_29 : decode cX2_become 29 = .ok (.iinc 2 1, 3) := by decide +kernel
theorem dX2_become_32 : decode cX2_become 32 = .ok (.goto (-25), 3) := by decide +kernel
theorem dX2_become_35 : decode cX2_become 35 = .ok (.return_, 1) := by decide +kernel
set_option maxRecDepth 20000 in
theorem ggX2_tellsAlike_X2_keyIn : GoodIn wsX2_tellsAlike wsX2_keyIn := goodIn_r _ [6, 7, 8, 9, 10, 5, 11, 1, 16, 17, 18] (by decide +kernel) (by decide +kernel)
set_option maxRecDepth 20000 in
theorem gX2_tellsAlike_X2_keyIn : GoodIn wsX2_tellsAlike (wsV RX2 26 RX2 yX2_keyIn wsX2_keyIn) := goodIn_app (goodIn_of _ (by decide +kernel)) ggX2_tellsAlike_X2_keyIn
set_option maxRecDepth 20000 in
theorem ggX2_tellsAlike_X2_find : GoodIn wsX2_tellsAlike wsX2_find := goodIn_r _ [15, 1, 2, 3, 4, 5, 6, 7, 8, 9, 10, 11, 16, 17, 18] (by decide +kernel) (by decide +kernel)
set_option maxRecDepth 20000 in
theorem gX2_tellsAlike_X2_find : GoodIn wsX2_tellsAlike (wsV RX2 41 RX2 yX2_find wsX2_find) := goodIn_app (goodIn_of _ (by decide +kernel)) ggX2_tellsAlike_X2_find
theorem dX2_tellsAlike_0 : decode cX2_tellsAlike 0 = .ok (.iconst 0, 1) := by decide +kernel
theorem dX2_tellsAlike_1 : decode cX2_tellsAlike 1 = .ok (.istore_n 1, 1) := by decide +kernel
theorem dX2_tellsAlike_2 : decode cX2_tellsAlike 2 = .ok (.iload_n 1, 1) := by decide +kernel
theorem dX2_tellsAlike_3 : decode cX2_tellsAlike 3 = .ok (.aload_n 0, 1) := by decide +kernel
theorem dX2_tellsAlike_4 : decode cX2_tellsAlike 4 = .ok (.getfield 18, 3) := by decide +kernel
theorem dX2_tellsAlike_7 : decode cX2_tellsAlike 7 = .ok (.if_icmp .ge 24, 3) := by decide +kernel
theorem dX2_tellsAlike_10 : decode cX2_tellsAlike 10 = .ok (.aload_n 0, 1) := by decide +kernel
theorem dX2_tellsAlike_11 : decode cX2_tellsAlike 11 = .ok (.aload_n 0, 1) := by decide +kernel
theorem dX2_tellsAlike_12 : decode cX2_tellsAlike 12 = .ok (.iload_n 1, 1) := by decide +kernel
theorem dX2_tellsAlike_13 : decode cX2_tellsAlike 13 = .ok (.invokevirtual 26, 3) := by decide +kernel
theorem dX2_tellsAlike_16 : decode cX2_tellsAlike 16 = .ok (.invokevirtual 41, 3) := by decide +kernel
theorem dX2_tellsAlike_19 : decode cX2_tellsAlike 19 = .ok (.iload_n 1, 1) := by decide +kernel
theorem dX2_tellsAlike_20 : decode cX2_tellsAlike 20 = .ok (.if_icmp .eq 5, 3) := by decide +kernel
theorem dX2_tellsAlike_23 : decode cX2_tellsAlike 23 = .ok (.iconst 0, 1) := by decide +kernel
theorem dX2_tellsAlike_24 : decode cX2_tellsAlike 24 = .ok (.ireturn, 1) := by decide +kernel
theorem dX2_tellsAlike_25 : decode cX2_tellsAlike 25 = .ok (.iinc 1 1, 3) := by decide +kernel
theorem dX2_tellsAlike_28 : decode cX2_tellsAlike 28 = .ok (.goto (-26), 3) := by decide +kernel
theorem dX2_tellsAlike_31 : decode cX2_tellsAlike 31 = .ok (.iconst 1, 1) := by decide +kernel
theorem dX2_tellsAlike_32 : decode cX2_tellsAlike 32 = .ok (.ireturn, 1) := by decide +kernel
set_option maxRecDepth 20000 in
theorem ggX2_hasEntriesOf_X2_keyIn : GoodIn wsX2_hasEntriesOf wsX2_keyIn := goodIn_r _ [6, 7, 8, 9, 10, 5, 11, 1, 21, 22, 23] (by decide +kernel) (by decide +kernel)
set_option maxRecDepth 20000 in
theorem gX2_hasEntriesOf_X2_keyIn : GoodIn wsX2_hasEntriesOf (wsV RX2 26 RX2 yX2_keyIn wsX2_keyIn) := goodIn_app (goodIn_of _ (by decide +kernel)) ggX2_hasEntriesOf_X2_keyIn
set_option maxRecDepth 20000 in
theorem ggX2_hasEntriesOf_X2_find : GoodIn wsX2_hasEntriesOf wsX2_find := goodIn_r _ [15, 1, 2, 3, 4, 5, 6, 7, 8, 9, 10, 11, 21, 22, 23] (by decide +kernel) (by decide +kernel)
set_option maxRecDepth 20000 in
theorem gX2_hasEntriesOf_X2_find : GoodIn wsX2_hasEntriesOf (wsV RX2 41 RX2 yX2_find wsX2_find) := goodIn_app (goodIn_of _ (by decide +kernel)) ggX2_hasEntriesOf_X2_find
set_option maxRecDepth 20000 in
theorem ggX2_hasEntriesOf_X2_valueIn : GoodIn wsX2_hasEntriesOf wsX2_valueIn := goodIn_r _ [19, 20, 8, 9, 10, 5, 11, 1, 7, 21, 22, 23] (by decide +kernel) (by decide +kernel)
set_option maxRecDepth 20000 in
theorem gX2_hasEntriesOf_X2_valueIn : GoodIn wsX2_hasEntriesOf (wsV RX2 38 RX2 yX2_valueIn wsX2_valueIn) := goodIn_app (goodIn_of _ (by decide +kernel)) ggX2_hasEntriesOf_X2_valueIn
theorem dX2_hasEntriesOf_0 : decode cX2_hasEntriesOf 0 = .ok (.iconst 0, 1) := by decide +kernel
theorem dX2_hasEntriesOf_1 : decode cX2_hasEntriesOf 1 = .ok (.istore_n 2, 1) := by decide +kernel
theorem dX2_hasEntriesOf_2 : decode cX2_hasEntriesOf 2 = .ok (.iload_n 2, 1) := by decide +kernel
theorem dX2_hasEntriesOf_3 : decode cX2_hasEntriesOf 3 = .ok (.aload_n 1, 1) := by decide +kernel
theorem dX2_hasEntriesOf_4 : decode cX2_hasEntriesOf 4 = .ok (.getfield 18, 3) := by decide +kernel
theorem dX2_hasEntriesOf_7 : decode cX2_hasEntriesOf 7 = .ok (.if_icmp .ge 39, 3) := by decide +kernel
theorem dX2_hasEntriesOf_10 : decode cX2_hasEntriesOf 10 = .ok (.aload_n 0, 1) := by decide +kernel
theorem dX2_hasEntriesOf_11 : decode cX2_hasEntriesOf 11 = .ok (.aload_n 1, 1) := by decide +kernel
theorem dX2_hasEntriesOf_12 : decode cX2_hasEntriesOf 12 = .ok (.iload_n 2, 1) := by decide +kernel
theorem dX2_hasEntriesOf_13 : decode cX2_hasEntriesOf 13 = .ok (.invokevirtual 26, 3) := by decide +kernel
theorem dX2_hasEntriesOf_16 : decode cX2_hasEntriesOf 16 = .ok (.invokevirtual 41, 3) := by decide +kernel
theorem dX2_hasEntriesOf_19 : decode cX2_hasEntriesOf 19 = .ok (.istore_n 3, 1) := by decide +kernel
theorem dX2_hasEntriesOf_20 : decode cX2_hasEntriesOf 20 = .ok (.iload_n 3, 1) := by decide +kernel
theorem dX2_hasEntriesOf_21 : decode cX2_hasEntriesOf 21 = .ok (.iconst (-1), 1) := by decide +kernel
theorem dX2_hasEntriesOf_22 : decode cX2_hasEntriesOf 22 = .ok (.if_icmp .eq 16, 3) := by decide +kernel
theorem dX2_hasEntriesOf_25 : decode cX2_hasEntriesOf 25 = .ok (.aload_n 0, 1) := by decide +kernel
theorem dX2_hasEntriesOf_26 : decode cX2_hasEntriesOf 26 = .ok (.iload_n 3, 1) := by decide +kernel
theorem dX2_hasEntriesOf_27 : decode cX2_hasEntriesOf 27 = .ok (.invokevirtual 38, 3) := by decide +kernel
theorem dX2_hasEntriesOf_30 : decode cX2_hasEntriesOf 30 = .ok (.aload_n 1, 1) := by decide +kernel
theorem dX2_hasEntriesOf_31 : decode cX2_hasEntriesOf 31 = .ok (.iload_n 2, 1) := by decide +kernel
theorem dX2_hasEntriesOf_32 : decode cX2_hasEntriesOf 32 = .ok (.invokevirtual 38, 3) := by decide +kernel
theorem dX2_hasEntriesOf_35 : decode cX2_hasEntriesOf 35 = .ok (.if_icmp .eq 5, 3) := by decide +kernel
theorem dX2_hasEntriesOf_38 : decode cX2_hasEntriesOf 38 = .ok (.iconst 0, 1) := by decide +kernel
theorem dX2_hasEntriesOf_39 : decode cX2_hasEntriesOf 39 = .ok (.ireturn, 1) := by decide +kernel
theorem dX2_hasEntriesOf_40 : decode cX2_hasEntriesOf 40 = .ok (.iinc 2 1, 3) := by decide +kernel
theorem dX2_hasEntriesOf_43 : decode cX2_hasEntriesOf 43 = .ok (.goto (-41), 3) := by decide +kernel
theorem dX2_hasEntriesOf_46 : decode cX2_hasEntriesOf 46 = .ok (.iconst 1, 1) := by decide +kernel
theorem dX2_hasEntriesOf_47 : decode cX2_hasEntriesOf 47 = .ok (.ireturn, 1) := by decide +kernel
set_option maxRecDepth 20000 in
theorem ggX2_sameAs_X2_keyIn : GoodIn wsX2_sameAs wsX2_keyIn := goodIn_r _ [6, 7, 8, 9, 10, 5, 11, 1, 17, 18, 19] (by decide +kernel) (by decide +kernel)
set_option maxRecDepth 20000 in
theorem gX2_sameAs_X2_keyIn : GoodIn wsX2_sameAs (wsV RX2 26 RX2 yX2_keyIn wsX2_keyIn) := goodIn_app (goodIn_of _ (by decide +kernel)) ggX2_sameAs_X2_keyIn
set_option maxRecDepth 20000 in
theorem ggX2_sameAs_X2_valueIn : GoodIn wsX2_sameAs wsX2_valueIn := goodIn_r _ [15, 16, 8, 9, 10, 5, 11, 1, 7, 17, 18, 19] (by decide +kernel) (by decide +kernel)
set_option maxRecDepth 20000 in
theorem gX2_sameAs_X2_valueIn : GoodIn wsX2_sameAs (wsV RX2 38 RX2 yX2_valueIn wsX2_valueIn) := goodIn_app (goodIn_of _ (by decide +kernel)) ggX2_sameAs_X2_valueIn
theorem dX2_sameAs_0 : decode cX2_sameAs 0 = .ok (.aload_n 0, 1) := by decide +kernel
theorem dX2_sameAs_1 : decode cX2_sameAs 1 = .ok (.getfield 18, 3) := by decide +kernel
theorem dX2_sameAs_4 : decode cX2_sameAs 4 = .ok (.aload_n 1, 1) := by decide +kernel
theorem dX2_sameAs_5 : decode cX2_sameAs 5 = .ok (.getfield 18, 3) := by decide +kernel
theorem dX2_sameAs_8 : decode cX2_sameAs 8 = .ok (.if_icmp .eq 5, 3) := by decide +kernel
theorem dX2_sameAs_11 : decode cX2_sameAs 11 = .ok (.iconst 0, 1) := by decide +kernel
theorem dX2_sameAs_12 : decode cX2_sameAs 12 = .ok (.ireturn, 1) := by decide +kernel
theorem dX2_sameAs_13 : decode cX2_sameAs 13 = .ok (.iconst 0, 1) := by decide +kernel
theorem dX2_sameAs_14 : decode cX2_sameAs 14 = .ok (.istore_n 2, 1) := by decide +kernel
theorem dX2_sameAs_15 : decode cX2_sameAs 15 = .ok (.iload_n 2, 1) := by decide +kernel
theorem dX2_sameAs_16 : decode cX2_sameAs 16 = .ok (.aload_n 0, 1) := by decide +kernel
theorem dX2_sameAs_17 : decode cX2_sameAs 17 = .ok (.getfield 18, 3) := by decide +kernel
theorem dX2_sameAs_20 : decode cX2_sameAs 20 = .ok (.if_icmp .ge 37, 3) := by decide +kernel
theorem dX2_sameAs_23 : decode cX2_sameAs 23 = .ok (.aload_n 0, 1) := by decide +kernel
theorem dX2_sameAs_24 : decode cX2_sameAs 24 = .ok (.iload_n 2, 1) := by decide +kernel
theorem dX2_sameAs_25 : decode cX2_sameAs 25 = .ok (.invokevirtual 26, 3) := by decide +kernel
theorem dX2_sameAs_28 : decode cX2_sameAs 28 = .ok (.aload_n 1, 1) := by decide +kernel
theorem dX2_sameAs_29 : decode cX2_sameAs 29 = .ok (.iload_n 2, 1) := by decide +kernel
theorem dX2_sameAs_30 : decode cX2_sameAs 30 = .ok (.invokevirtual 26, 3) := by decide +kernel
theorem dX2_sameAs_33 : decode cX2_sameAs 33 = .ok (.if_icmp .ne 16, 3) := by decide +kernel
theorem dX2_sameAs_36 : decode cX2_sameAs 36 = .ok (.aload_n 0, 1) := by decide +kernel
theorem dX2_sameAs_37 : decode cX2_sameAs 37 = .ok (.iload_n 2, 1) := by decide +kernel
theorem dX2_sameAs_38 : decode cX2_sameAs 38 = .ok (.invokevirtual 38, 3) := by decide +kernel
theorem dX2_sameAs_41 : decode cX2_sameAs 41 = .ok (.aload_n 1, 1) := by decide +kernel
theorem dX2_sameAs_42 : decode cX2_sameAs 42 = .ok (.iload_n 2, 1) := by decide +kernel
theorem dX2_sameAs_43 : decode cX2_sameAs 43 = .ok (.invokevirtual 38, 3) := by decide +kernel
theorem dX2_sameAs_46 : decode cX2_sameAs 46 = .ok (.if_icmp .eq 5, 3) := by decide +kernel
theorem dX2_sameAs_49 : decode cX2_sameAs 49 = .ok (.iconst 0, 1) := by decide +kernel
theorem dX2_sameAs_50 : decode cX2_sameAs 50 = .ok (.ireturn, 1) := by decide +kernel
theorem dX2_sameAs_51 : decode cX2_sameAs 51 = .ok (.iinc 2 1, 3) := by decide +kernel
theorem dX2_sameAs_54 : decode cX2_sameAs 54 = .ok (.goto (-39), 3) := by decide +kernel
theorem dX2_sameAs_57 : decode cX2_sameAs 57 = .ok (.iconst 1, 1) := by decide +kernel
theorem dX2_sameAs_58 : decode cX2_sameAs 58 = .ok (.ireturn, 1) := by decide +kernel
theorem dX3_init_0 : decode cX3_init 0 = .ok (.aload_n 0, 1) := by decide +kernel
theorem dX3_init_1 : decode cX3_init 1 = .ok (.invokespecial 3, 3) := by decide +kernel
theorem dX3_init_4 : decode cX3_init 4 = .ok (.aload_n 0, 1) := by decide +kernel
theorem dX3_init_5 : decode cX3_init 5 = .ok (.iconst 0, 1) := by decide +kernel
theorem dX3_init_6 : decode cX3_init 6 = .ok (.putfield 9, 3) := by decide +kernel
theorem dX3_init_9 : decode cX3_init 9 = .ok (.aload_n 0, 1) := by decide +kernel
theorem dX3_init_10 : decode cX3_init 10 = .ok (.bipush 99, 2) := by decide +kernel
theorem dX3_init_12 : decode cX3_init 12 = .ok (.putfield 15, 3) := by decide +kernel
theorem dX3_init_15 : decode cX3_init 15 = .ok (.aload_n 0, 1) := by decide +kernel
theorem dX3_init_16 : decode cX3_init 16 = .ok (.iconst 0, 1) := by decide +kernel
theorem dX3_init_17 : decode cX3_init 17 = .ok (.putfield 19, 3) := by decide +kernel
theorem dX3_init_20 : decode cX3_init 20 = .ok (.aload_n 0, 1) := by decide +kernel
theorem dX3_init_21 : decode cX3_init 21 = .ok (.iconst 0, 1) := by decide +kernel
theorem dX3_init_22 : decode cX3_init 22 = .ok (.putfield 23, 3) := by decide +kernel
theorem dX3_init_25 : decode cX3_init 25 = .ok (.return_, 1) := by decide +kernel
theorem dX3_begin_0 : decode cX3_begin 0 = .ok (.aload_n 0, 1) := by decide +kernel
theorem dX3_begin_1 : decode cX3_begin 1 = .ok (.iconst 1, 1) := by decide +kernel
theorem dX3_begin_2 : decode cX3_begin 2 = .ok (.putfield 9, 3) := by decide +kernel
theorem dX3_begin_5 : decode cX3_begin 5 = .ok (.aload_n 0, 1) := by decide +kernel
theorem dX3_begin_6 : decode cX3_begin 6 = .ok (.iload_n 1, 1) := by decide +kernel
theorem dX3_begin_7 : decode cX3_begin 7 = .ok (.putfield 15, 3) := by decide +kernel
theorem dX3_begin_10 : decode cX3_begin 10 = .ok (.aload_n 0, 1) := by decide +kernel
theorem dX3_begin_11 : decode cX3_begin 11 = .ok (.iconst 0, 1) := by decide +kernel
theorem dX3_begin_12 : decode cX3_begin 12 = .ok (.putfield 19, 3) := by decide +kernel
theorem dX3_begin_15 : decode cX3_begin 15 = .ok (.aload_n 0, 1) := by decide +kernel
theorem dX3_begin_16 : decode cX3_begin 16 = .ok (.iconst 0, 1) := by decide +kernel
theorem dX3_begin_17 : decode cX3_begin 17 = .ok (.putfield 23, 3) := by decide +kernel
theorem dX3_begin_20 : decode cX3_begin 20 = .ok (.return_, 1) := by decide +kernel
theorem dX3_end_0 : decode cX3_end 0 = .ok (.aload_n 0, 1) := by decide +kernel
theorem dX3_end_1 : decode cX3_end 1 = .ok (.iconst 0, 1) := by decide +kernel
theorem dX3_end_2 : decode cX3_end 2 = .ok (.putfield 9, 3) := by decide +kernel
theorem dX3_end_5 : decode cX3_end 5 = .ok (.return_, 1) := by decide +kernel
theorem dX3_isOn_0 : decode cX3_isOn 0 = .ok (.aload_n 0, 1) := by decide +kernel
theorem dX3_isOn_1 : decode cX3_isOn 1 = .ok (.getfield 9, 3) := by decide +kernel
theorem dX3_isOn_4 : decode cX3_isOn 4 = .ok (.ireturn, 1) := by decide +kernel
theorem dX3_order_0 : decode cX3_order 0 = .ok (.aload_n 0, 1) := by decide +kernel
theorem dX3_order_1 : decode cX3_order 1 = .ok (.getfield 15, 3) := by decide +kernel
theorem dX3_order_4 : decode cX3_order 4 = .ok (.ireturn, 1) := by decide +kernel
theorem dX3_nextPlace_0 : decode cX3_nextPlace 0 = .ok (.aload_n 0, 1) := by decide +kernel
theorem dX3_nextPlace_1 : decode cX3_nextPlace 1 = .ok (.getfield 19, 3) := by decide +kernel
theorem dX3_nextPlace_4 : decode cX3_nextPlace 4 = .ok (.ireturn, 1) := by decide +kernel
theorem dX3_mayCut_0 : decode cX3_mayCut 0 = .ok (.aload_n 0, 1) := by decide +kernel
theorem dX3_mayCut_1 : decode cX3_mayCut 1 = .ok (.getfield 23, 3) := by decide +kernel
theorem dX3_mayCut_4 : decode cX3_mayCut 4 = .ok (.ireturn, 1) := by decide +kernel
theorem dX3_goOver_0 : decode cX3_goOver 0 = .ok (.aload_n 0, 1) := by decide +kernel
theorem dX3_goOver_1 : decode cX3_goOver 1 = .ok (.dup, 1) := by decide +kernel
theorem dX3_goOver_2 : decode cX3_goOver 2 = .ok (.getfield 19, 3) := by decide +kernel
theorem dX3_goOver_5 : decode cX3_goOver 5 = .ok (.iconst 1, 1) := by decide +kernel
theorem dX3_goOver_6 : decode cX3_goOver 6 = .ok (.iadd, 1) := by decide +kernel
theorem dX3_goOver_7 : decode cX3_goOver 7 = .ok (.putfield 19, 3) := by decide +kernel
theorem dX3_goOver_10 : decode cX3_goOver 10 = .ok (.aload_n 0, 1) := by decide +kernel
theorem dX3_goOver_11 : decode cX3_goOver 11 = .ok (.iconst 1, 1) := by decide +kernel
theorem dX3_goOver_12 : decode cX3_goOver 12 = .ok (.putfield 23, 3) := by decide +kernel
theorem dX3_goOver_15 : decode cX3_goOver 15 = .ok (.return_, 1) := by decide +kernel
theorem dX3_goBack_0 : decode cX3_goBack 0 = .ok (.aload_n 0, 1) := by decide +kernel
theorem dX3_goBack_1 : decode cX3_goBack 1 = .ok (.dup, 1) := by decide +kernel
theorem dX3_goBack_2 : decode cX3_goBack 2 = .ok (.getfield 19, 3) := by decide +kernel
theorem dX3_goBack_5 : decode cX3_goBack 5 = .ok (.iconst 1, 1) := by decide +kernel
theorem dX3_goBack_6 : decode cX3_goBack 6 = .ok (.isub, 1) := by decide +kernel
theorem dX3_goBack_7 : decode cX3_goBack 7 = .ok (.putfield 19, 3) := by decide +kernel
theorem dX3_goBack_10 : decode cX3_goBack 10 = .ok (.aload_n 0, 1) := by decide +kernel
theorem dX3_goBack_11 : decode cX3_goBack 11 = .ok (.iconst 0, 1) := by decide +kernel
theorem dX3_goBack_12 : decode cX3_goBack 12 = .ok (.putfield 23, 3) := by decide +kernel
theorem dX3_goBack_15 : decode cX3_goBack 15 = .ok (.return_, 1) := by decide +kernel

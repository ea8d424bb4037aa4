set_option maxRecDepth 20000 in
theorem ggL_setWage_X0_setWage : GoodIn wsL_setWage wsX0_setWage := goodIn_ca (goodIn_ca (goodIn_r _ [7, 8, 9, 10, 11, 12, 13, 14, 6, 15, 16, 17, 18, 19, 20, 21, 22, 23, 24, 25, 26, 27, 28, 29, 30, 31, 32, 33, 34] (by decide +kernel) (by decide +kernel)) (goodIn_sub (fun _ h => List.mem_cons_of_mem _ (List.mem_append_left _ (List.mem_append_right _ h))) (by decide +kernel))) (goodIn_sub (fun _ h => List.mem_cons_of_mem _ (List.mem_append_right _ h)) (by decide +kernel))
set_option maxRecDepth 20000 in
theorem gL_setWage_X0_setWage : GoodIn wsL_setWage (wsV RL 7 RX0 yX0_setWage wsX0_setWage) := goodIn_app (goodIn_of _ (by decide +kernel)) ggL_setWage_X0_setWage
theorem dL_setWage_0 : decode cL_setWage 0 = .ok (.aload_n 3, 1) := by decide +kernel
theorem dL_setWage_1 : decode cL_setWage 1 = .ok (.iconst 0, 1) := by decide +kernel
theorem dL_setWage_2 : decode cL_setWage 2 = .ok (.aload_n 0, 1) := by decide +kernel
theorem dL_setWage_3 : decode cL_setWage 3 = .ok (.iload_n 1, 1) := by decide +kernel
theorem dL_setWage_4 : decode cL_setWage 4 = .ok (.iload_n 2, 1) := by decide +kernel
theorem dL_setWage_5 : decode cL_setWage 5 = .ok (.invokevirtual 7, 3) := by decide +kernel
theorem dL_setWage_8 : decode cL_setWage 8 = .ok (.i2l, 1) := by decide +kernel
theorem dL_setWage_9 : decode cL_setWage 9 = .ok (.lastore, 1) := by decide +kernel
theorem dL_setWage_10 : decode cL_setWage 10 = .ok (.goto 11, 3) := by decide +kernel
theorem dL_setWage_13 : decode cL_setWage 13 = .ok (.astore 4, 2) := by decide +kernel
theorem dL_setWage_15 : decode cL_setWage 15 = .ok (.iconst 1, 1) := by decide +kernel
theorem dL_setWage_16 : decode cL_setWage 16 = .ok (.ireturn, 1) := by decide +kernel
theorem dL_setWage_17 : decode cL_setWage 17 = .ok (.astore 4, 2) := by decide +kernel
theorem dL_setWage_19 : decode cL_setWage 19 = .ok (.iconst 2, 1) := by decide +kernel
theorem dL_setWage_20 : decode cL_setWage 20 = .ok (.ireturn, 1) := by decide +kernel
theorem dL_setWage_21 : decode cL_setWage 21 = .ok (.iconst 0, 1) := by decide +kernel
theorem dL_setWage_22 : decode cL_setWage 22 = .ok (.ireturn, 1) := by decide +kernel
set_option maxRecDepth 20000 in
theorem ggL_setRate_X0_setRate : GoodIn wsL_setRate wsX0_setRate := goodIn_ca (goodIn_r _ [6, 7, 8, 9, 10, 11, 12, 13, 14, 15, 16, 17, 18, 19, 20, 21, 22, 23, 24, 25, 26, 27, 28] (by decide +kernel) (by decide +kernel)) (goodIn_sub (fun _ h => List.mem_cons_of_mem _ (List.mem_append_right _ h)) (by decide +kernel))
set_option maxRecDepth 20000 in
theorem gL_setRate_X0_setRate : GoodIn wsL_setRate (wsV RL 17 RX0 yX0_setRate wsX0_setRate) := goodIn_app (goodIn_of _ (by decide +kernel)) ggL_setRate_X0_setRate
theorem dL_setRate_0 : decode cL_setRate 0 = .ok (.aload_n 2, 1) := by decide +kernel
theorem dL_setRate_1 : decode cL_setRate 1 = .ok (.iconst 0, 1) := by decide +kernel
theorem dL_setRate_2 : decode cL_setRate 2 = .ok (.aload_n 0, 1) := by decide +kernel
theorem dL_setRate_3 : decode cL_setRate 3 = .ok (.iload_n 1, 1) := by decide +kernel
theorem dL_setRate_4 : decode cL_setRate 4 = .ok (.invokevirtual 17, 3) := by decide +kernel
theorem dL_setRate_7 : decode cL_setRate 7 = .ok (.i2l, 1) := by decide +kernel
theorem dL_setRate_8 : decode cL_setRate 8 = .ok (.lastore, 1) := by decide +kernel
theorem dL_setRate_9 : decode cL_setRate 9 = .ok (.goto 6, 3) := by decide +kernel
theorem dL_setRate_12 : decode cL_setRate 12 = .ok (.astore_n 3, 1) := by decide +kernel
theorem dL_setRate_13 : decode cL_setRate 13 = .ok (.iconst 1, 1) := by decide +kernel
theorem dL_setRate_14 : decode cL_setRate 14 = .ok (.ireturn, 1) := by decide +kernel
theorem dL_setRate_15 : decode cL_setRate 15 = .ok (.iconst 0, 1) := by decide +kernel
theorem dL_setRate_16 : decode cL_setRate 16 = .ok (.ireturn, 1) := by decide +kernel
set_option maxRecDepth 20000 in
theorem ggL_buy_X0_buy : GoodIn wsL_buy wsX0_buy := goodIn_ca (goodIn_ca (goodIn_r _ [7, 8, 9, 10, 11, 12, 13, 14, 15, 16, 17, 6, 18, 19, 20, 21, 22, 23, 24, 25, 26, 27, 28, 29, 30, 31, 32, 33, 34, 35, 36, 37, 38, 39, 40, 41, 42, 43, 44, 45] (by decide +kernel) (by decide +kernel)) (goodIn_sub (fun _ h => List.mem_cons_of_mem _ (List.mem_append_left _ (List.mem_append_right _ h))) (by decide +kernel))) (goodIn_sub (fun _ h => List.mem_cons_of_mem _ (List.mem_append_right _ h)) (by decide +kernel))
set_option maxRecDepth 20000 in
theorem gL_buy_X0_buy : GoodIn wsL_buy (wsV RL 21 RX0 yX0_buy wsX0_buy) := goodIn_app (goodIn_of _ (by decide +kernel)) ggL_buy_X0_buy
theorem dL_buy_0 : decode cL_buy 0 = .ok (.aload_n 2, 1) := by decide +kernel
theorem dL_buy_1 : decode cL_buy 1 = .ok (.iconst 0, 1) := by decide +kernel
theorem dL_buy_2 : decode cL_buy 2 = .ok (.aload_n 0, 1) := by decide +kernel
theorem dL_buy_3 : decode cL_buy 3 = .ok (.iload_n 1, 1) := by decide +kernel
theorem dL_buy_4 : decode cL_buy 4 = .ok (.invokevirtual 21, 3) := by decide +kernel
theorem dL_buy_7 : decode cL_buy 7 = .ok (.i2l, 1) := by decide +kernel
theorem dL_buy_8 : decode cL_buy 8 = .ok (.lastore, 1) := by decide +kernel
theorem dL_buy_9 : decode cL_buy 9 = .ok (.goto 9, 3) := by decide +kernel
theorem dL_buy_12 : decode cL_buy 12 = .ok (.astore_n 3, 1) := by decide +kernel
theorem dL_buy_13 : decode cL_buy 13 = .ok (.iconst 1, 1) := by decide +kernel
theorem dL_buy_14 : decode cL_buy 14 = .ok (.ireturn, 1) := by decide +kernel
theorem dL_buy_15 : decode cL_buy 15 = .ok (.astore_n 3, 1) := by decide +kernel
theorem dL_buy_16 : decode cL_buy 16 = .ok (.iconst 2, 1) := by decide +kernel
theorem dL_buy_17 : decode cL_buy 17 = .ok (.ireturn, 1) := by decide +kernel
theorem dL_buy_18 : decode cL_buy 18 = .ok (.iconst 0, 1) := by decide +kernel
theorem dL_buy_19 : decode cL_buy 19 = .ok (.ireturn, 1) := by decide +kernel
set_option maxRecDepth 20000 in
theorem ggL_sell_X0_sell : GoodIn wsL_sell wsX0_sell := goodIn_ca (goodIn_ca (goodIn_r _ [7, 8, 9, 10, 11, 12, 13, 14, 15, 16, 17, 18, 6, 19, 20, 21, 22, 23, 24, 25, 26, 27, 28, 29, 30, 31, 32, 33, 34, 35, 36, 37, 38, 39, 40, 41] (by decide +kernel) (by decide +kernel)) (goodIn_sub (fun _ h => List.mem_cons_of_mem _ (List.mem_append_left _ (List.mem_append_right _ h))) (by decide +kernel))) (goodIn_sub (fun _ h => List.mem_cons_of_mem _ (List.mem_append_right _ h)) (by decide +kernel))
set_option maxRecDepth 20000 in
theorem gL_sell_X0_sell : GoodIn wsL_sell (wsV RL 26 RX0 yX0_sell wsX0_sell) := goodIn_app (goodIn_of _ (by decide +kernel)) ggL_sell_X0_sell
theorem dL_sell_0 : decode cL_sell 0 = .ok (.aload_n 2, 1) := by decide +kernel
theorem dL_sell_1 : decode cL_sell 1 = .ok (.iconst 0, 1) := by decide +kernel
theorem dL_sell_2 : decode cL_sell 2 = .ok (.aload_n 0, 1) := by decide +kernel
theorem dL_sell_3 : decode cL_sell 3 = .ok (.iload_n 1, 1) := by decide +kernel
theorem dL_sell_4 : decode cL_sell 4 = .ok (.invokevirtual 26, 3) := by decide +kernel
theorem dL_sell_7 : decode cL_sell 7 = .ok (.i2l, 1) := by decide +kernel
theorem dL_sell_8 : decode cL_sell 8 = .ok (.lastore, 1) := by decide +kernel
theorem dL_sell_9 : decode cL_sell 9 = .ok (.goto 9, 3) := by decide +kernel
theorem dL_sell_12 : decode cL_sell 12 = .ok (.astore_n 3, 1) := by decide +kernel
theorem dL_sell_13 : decode cL_sell 13 = .ok (.iconst 1, 1) := by decide +kernel
theorem dL_sell_14 : decode cL_sell 14 = .ok (.ireturn, 1) := by decide +kernel
theorem dL_sell_15 : decode cL_sell 15 = .ok (.astore_n 3, 1) := by decide +kernel
theorem dL_sell_16 : decode cL_sell 16 = .ok (.iconst 2, 1) := by decide +kernel
theorem dL_sell_17 : decode cL_sell 17 = .ok (.ireturn, 1) := by decide +kernel
theorem dL_sell_18 : decode cL_sell 18 = .ok (.iconst 0, 1) := by decide +kernel
theorem dL_sell_19 : decode cL_sell 19 = .ok (.ireturn, 1) := by decide +kernel
set_option maxRecDepth 20000 in
theorem ggL_drop_X0_drop : GoodIn wsL_drop wsX0_drop := goodIn_ca (goodIn_ca (goodIn_r _ [7, 8, 9, 10, 11, 12, 13, 14, 15, 6, 16, 17, 18, 19, 20, 21, 22, 23, 24, 25, 26, 27, 28, 29, 30, 31, 32, 33, 34, 35, 36, 37, 38, 39, 40] (by decide +kernel) (by decide +kernel)) (goodIn_sub (fun _ h => List.mem_cons_of_mem _ (List.mem_append_left _ (List.mem_append_right _ h))) (by decide +kernel))) (goodIn_sub (fun _ h => List.mem_cons_of_mem _ (List.mem_append_right _ h)) (by decide +kernel))
set_option maxRecDepth 20000 in
theorem gL_drop_X0_drop : GoodIn wsL_drop (wsV RL 29 RX0 yX0_drop wsX0_drop) := goodIn_app (goodIn_of _ (by decide +kernel)) ggL_drop_X0_drop
theorem dL_drop_0 : decode cL_drop 0 = .ok (.aload_n 2, 1) := by decide +kernel
theorem dL_drop_1 : decode cL_drop 1 = .ok (.iconst 0, 1) := by decide +kernel
theorem dL_drop_2 : decode cL_drop 2 = .ok (.aload_n 0, 1) := by decide +kernel
theorem dL_drop_3 : decode cL_drop 3 = .ok (.iload_n 1, 1) := by decide +kernel
theorem dL_drop_4 : decode cL_drop 4 = .ok (.invokevirtual 29, 3) := by decide +kernel
theorem dL_drop_7 : decode cL_drop 7 = .ok (.i2l, 1) := by decide +kernel
theorem dL_drop_8 : decode cL_drop 8 = .ok (.lastore, 1) := by decide +kernel
theorem dL_drop_9 : decode cL_drop 9 = .ok (.goto 9, 3) := by decide +kernel
theorem dL_drop_12 : decode cL_drop 12 = .ok (.astore_n 3, 1) := by decide +kernel
theorem dL_drop_13 : decode cL_drop 13 = .ok (.iconst 1, 1) := by decide +kernel
theorem dL_drop_14 : decode cL_drop 14 = .ok (.ireturn, 1) := by decide +kernel
theorem dL_drop_15 : decode cL_drop 15 = .ok (.astore_n 3, 1) := by decide +kernel
theorem dL_drop_16 : decode cL_drop 16 = .ok (.iconst 2, 1) := by decide +kernel
theorem dL_drop_17 : decode cL_drop 17 = .ok (.ireturn, 1) := by decide +kernel
theorem dL_drop_18 : decode cL_drop 18 = .ok (.iconst 0, 1) := by decide +kernel
theorem dL_drop_19 : decode cL_drop 19 = .ok (.ireturn, 1) := by decide +kernel
set_option maxRecDepth 20000 in
theorem ggL_touch_X0_touch : GoodIn wsL_touch wsX0_touch := goodIn_ca (goodIn_ca (goodIn_r _ [7, 8, 9, 10, 11, 12, 13, 14, 15, 16, 17, 18, 19, 6, 20, 21, 22, 23, 24, 25, 26, 27, 28, 29, 30, 31, 32, 33, 34, 35, 36, 37, 38, 39, 40, 41, 42, 43, 44, 45, 46, 47, 48, 49, 50, 51, 52, 53, 54, 55, 56, 57, 58, 59, 60, 61, 62, 63, 64, 65, 66, 67, 68, 69, 70, 71, 72, 73, 74, 75, 76, 77, 78, 79, 80, 81, 82, 83, 84, 85, 86, 87, 88, 89, 90, 91, 92, 93, 94, 95, 96, 97, 98, 99, 100, 101, 102, 103, 104, 105, 106, 107] (by decide +kernel) (by decide +kernel)) (goodIn_sub (fun _ h => List.mem_cons_of_mem _ (List.mem_append_left _ (List.mem_append_right _ h))) (by decide +kernel))) (goodIn_sub (fun _ h => List.mem_cons_of_mem _ (List.mem_append_right _ h)) (by decide +kernel))
set_option maxRecDepth 20000 in
theorem gL_touch_X0_touch : GoodIn wsL_touch (wsV RL 32 RX0 yX0_touch wsX0_touch) := goodIn_app (goodIn_of _ (by decide +kernel)) ggL_touch_X0_touch
theorem dL_touch_0 : decode cL_touch 0 = .ok (.aload_n 3, 1) := by decide +kernel
theorem dL_touch_1 : decode cL_touch 1 = .ok (.iconst 0, 1) := by decide +kernel
theorem dL_touch_2 : decode cL_touch 2 = .ok (.aload_n 0, 1) := by decide +kernel
theorem dL_touch_3 : decode cL_touch 3 = .ok (.iload_n 1, 1) := by decide +kernel
theorem dL_touch_4 : decode cL_touch 4 = .ok (.iload_n 2, 1) := by decide +kernel
theorem dL_touch_5 : decode cL_touch 5 = .ok (.invokevirtual 32, 3) := by decide +kernel
theorem dL_touch_8 : decode cL_touch 8 = .ok (.i2l, 1) := by decide +kernel
theorem dL_touch_9 : decode cL_touch 9 = .ok (.lastore, 1) := by decide +kernel
theorem dL_touch_10 : decode cL_touch 10 = .ok (.goto 11, 3) := by decide +kernel
theorem dL_touch_13 : decode cL_touch 13 = .ok (.astore 4, 2) := by decide +kernel
theorem dL_touch_15 : decode cL_touch 15 = .ok (.iconst 1, 1) := by decide +kernel
theorem dL_touch_16 : decode cL_touch 16 = .ok (.ireturn, 1) := by decide +kernel
theorem dL_touch_17 : decode cL_touch 17 = .ok (.astore 4, 2) := by decide +kernel
theorem dL_touch_19 : decode cL_touch 19 = .ok (.iconst 2, 1) := by decide +kernel
theorem dL_touch_20 : decode cL_touch 20 = .ok (.ireturn, 1) := by decide +kernel
theorem dL_touch_21 : decode cL_touch 21 = .ok (.iconst 0, 1) := by decide +kernel
theorem dL_touch_22 : decode cL_touch 22 = .ok (.ireturn, 1) := by decide +kernel
set_option maxRecDepth 20000 in
theorem ggL_payBack_X0_payBack : GoodIn wsL_payBack wsX0_payBack := goodIn_ca (goodIn_ca (goodIn_r _ [7, 8, 9, 10, 11, 12, 13, 14, 15, 16, 17, 6, 18, 19, 20, 21, 22, 23, 24, 25, 26, 27, 28, 29, 30, 31, 32, 33, 34, 35, 36, 37, 38, 39, 40, 41, 42, 43, 44, 45, 46, 47, 48, 49, 50, 51, 52, 53, 54, 55, 56, 57, 58] (by decide +kernel) (by decide +kernel)) (goodIn_sub (fun _ h => List.mem_cons_of_mem _ (List.mem_append_left _ (List.mem_append_right _ h))) (by decide +kernel))) (goodIn_sub (fun _ h => List.mem_cons_of_mem _ (List.mem_append_right _ h)) (by decide +kernel))
set_option maxRecDepth 20000 in
theorem gL_payBack_X0_payBack : GoodIn wsL_payBack (wsV RL 35 RX0 yX0_payBack wsX0_payBack) := goodIn_app (goodIn_of _ (by decide +kernel)) ggL_payBack_X0_payBack
theorem dL_payBack_0 : decode cL_payBack 0 = .ok (.aload_n 2, 1) := by decide +kernel
theorem dL_payBack_1 : decode cL_payBack 1 = .ok (.iconst 0, 1) := by decide +kernel
theorem dL_payBack_2 : decode cL_payBack 2 = .ok (.aload_n 0, 1) := by decide +kernel
theorem dL_payBack_3 : decode cL_payBack 3 = .ok (.iload_n 1, 1) := by decide +kernel
theorem dL_payBack_4 : decode cL_payBack 4 = .ok (.invokevirtual 35, 3) := by decide +kernel
theorem dL_payBack_7 : decode cL_payBack 7 = .ok (.i2l, 1) := by decide +kernel
theorem dL_payBack_8 : decode cL_payBack 8 = .ok (.lastore, 1) := by decide +kernel
theorem dL_payBack_9 : decode cL_payBack 9 = .ok (.goto 9, 3) := by decide +kernel
theorem dL_payBack_12 : decode cL_payBack 12 = .ok (.astore_n 3, 1) := by decide +kernel
theorem dL_payBack_13 : decode cL_payBack 13 = .ok (.iconst 1, 1) := by decide +kernel
theorem dL_payBack_14 : decode cL_payBack 14 = .ok (.ireturn, 1) := by decide +kernel
theorem dL_payBack_15 : decode cL_payBack 15 = .ok (.astore_n 3, 1) := by decide +kernel
theorem dL_payBack_16 : decode cL_payBack 16 = .ok (.iconst 2, 1) := by decide +kernel
theorem dL_payBack_17 : decode cL_payBack 17 = .ok (.ireturn, 1) := by decide +kernel
theorem dL_payBack_18 : decode cL_payBack 18 = .ok (.iconst 0, 1) := by decide +kernel
theorem dL_payBack_19 : decode cL_payBack 19 = .ok (.ireturn, 1) := by decide +kernel
set_option maxRecDepth 20000 in
theorem ggL_advance_X0_advance : GoodIn wsL_advance wsX0_advance := goodIn_ca (goodIn_ca (goodIn_r _ [7, 8, 9, 10, 11, 12, 13, 14, 15, 16, 6, 17, 18, 19, 20, 21, 22, 23, 24, 25, 26, 27, 28, 29, 30, 31, 32, 33, 34, 35, 36, 37, 38, 39, 40, 41, 42, 43, 44, 45, 46, 47, 48, 49, 50, 51, 52, 53, 54, 55, 56, 57, 58, 59, 60, 61, 62, 63, 64, 65, 66, 67, 68, 69, 70, 71, 72, 73, 74, 75, 76, 77, 78, 79, 80, 81, 82, 83, 84, 85, 86, 87, 88, 89, 90, 91, 92, 93, 94, 95, 96, 97, 98, 99, 100, 101, 102, 103, 104, 105, 106, 107, 108, 109, 110, 111, 112, 113, 114, 115] (by decide +kernel) (by decide +kernel)) (goodIn_sub (fun _ h => List.mem_cons_of_mem _ (List.mem_append_left _ (List.mem_append_right _ h))) (by decide +kernel))) (goodIn_sub (fun _ h => List.mem_cons_of_mem _ (List.mem_append_right _ h)) (by decide +kernel))
set_option maxRecDepth 20000 in
theorem gL_advance_X0_advance : GoodIn wsL_advance (wsV RL 38 RX0 yX0_advance wsX0_advance) := goodIn_app (goodIn_of _ (by decide +kernel)) ggL_advance_X0_advance
theorem dL_advance_0 : decode cL_advance 0 = .ok (.aload_n 2, 1) := by decide +kernel
theorem dL_advance_1 : decode cL_advance 1 = .ok (.iconst 0, 1) := by decide +kernel
theorem dL_advance_2 : decode cL_advance 2 = .ok (.aload_n 0, 1) := by decide +kernel
theorem dL_advance_3 : decode cL_advance 3 = .ok (.iload_n 1, 1) := by decide +kernel
theorem dL_advance_4 : decode cL_advance 4 = .ok (.invokevirtual 38, 3) := by decide +kernel
theorem dL_advance_7 : decode cL_advance 7 = .ok (.i2l, 1) := by decide +kernel
theorem dL_advance_8 : decode cL_advance 8 = .ok (.lastore, 1) := by decide +kernel
theorem dL_advance_9 : decode cL_advance 9 = .ok (.goto 9, 3) := by decide +kernel
theorem dL_advance_12 : decode cL_advance 12 = .ok (.astore_n 3, 1) := by decide +kernel
theorem dL_advance_13 : decode cL_advance 13 = .ok (.iconst 1, 1) := by decide +kernel
theorem dL_advance_14 : decode cL_advance 14 = .ok (.ireturn, 1) := by decide +kernel
theorem dL_advance_15 : decode cL_advance 15 = .ok (.astore_n 3, 1) := by decide +kernel
theorem dL_advance_16 : decode cL_advance 16 = .ok (.iconst 2, 1) := by decide +kernel
theorem dL_advance_17 : decode cL_advance 17 = .ok (.ireturn, 1) := by decide +kernel
theorem dL_advance_18 : decode cL_advance 18 = .ok (.iconst 0, 1) := by decide +kernel
theorem dL_advance_19 : decode cL_advance 19 = .ok (.ireturn, 1) := by decide +kernel
set_option maxRecDepth 20000 in
theorem ggL_owner_X0_owner : GoodIn wsL_owner wsX0_owner := goodIn_ca (goodIn_r _ [6, 7, 8, 9, 10, 11, 5, 12, 13, 14, 15, 16, 17, 18, 19, 20, 21, 22, 23, 24, 25, 26, 27, 28, 29, 30, 31] (by decide +kernel) (by decide +kernel)) (goodIn_sub (fun _ h => List.mem_cons_of_mem _ (List.mem_append_right _ h)) (by decide +kernel))
set_option maxRecDepth 20000 in
theorem gL_owner_X0_owner : GoodIn wsL_owner (wsV RL 41 RX0 yX0_owner wsX0_owner) := goodIn_app (goodIn_of _ (by decide +kernel)) ggL_owner_X0_owner
theorem dL_owner_0 : decode cL_owner 0 = .ok (.aload_n 2, 1) := by decide +kernel
theorem dL_owner_1 : decode cL_owner 1 = .ok (.iconst 0, 1) := by decide +kernel
theorem dL_owner_2 : decode cL_owner 2 = .ok (.aload_n 0, 1) := by decide +kernel
theorem dL_owner_3 : decode cL_owner 3 = .ok (.iload_n 1, 1) := by decide +kernel
theorem dL_owner_4 : decode cL_owner 4 = .ok (.invokevirtual 41, 3) := by decide +kernel
theorem dL_owner_7 : decode cL_owner 7 = .ok (.i2l, 1) := by decide +kernel
theorem dL_owner_8 : decode cL_owner 8 = .ok (.lastore, 1) := by decide +kernel
theorem dL_owner_9 : decode cL_owner 9 = .ok (.goto 6, 3) := by decide +kernel
theorem dL_owner_12 : decode cL_owner 12 = .ok (.astore_n 3, 1) := by decide +kernel
theorem dL_owner_13 : decode cL_owner 13 = .ok (.iconst 1, 1) := by decide +kernel
theorem dL_owner_14 : decode cL_owner 14 = .ok (.ireturn, 1) := by decide +kernel
theorem dL_owner_15 : decode cL_owner 15 = .ok (.iconst 0, 1) := by decide +kernel
theorem dL_owner_16 : decode cL_owner 16 = .ok (.ireturn, 1) := by decide +kernel
set_option maxRecDepth 20000 in
theorem ggL_holder_X0_holder : GoodIn wsL_holder wsX0_holder := goodIn_ca (goodIn_r _ [6, 7, 8, 9, 10, 11, 5, 12, 13, 14, 15, 16, 17, 18, 19, 20, 21, 22, 23, 24, 25, 26, 27, 28, 29, 30, 31] (by decide +kernel) (by decide +kernel)) (goodIn_sub (fun _ h => List.mem_cons_of_mem _ (List.mem_append_right _ h)) (by decide +kernel))
set_option maxRecDepth 20000 in
theorem gL_holder_X0_holder : GoodIn wsL_holder (wsV RL 44 RX0 yX0_holder wsX0_holder) := goodIn_app (goodIn_of _ (by decide +kernel)) ggL_holder_X0_holder
theorem dL_holder_0 : decode cL_holder 0 = .ok (.aload_n 2, 1) := by decide +kernel
theorem dL_holder_1 : decode cL_holder 1 = .ok (.iconst 0, 1) := by decide +kernel
theorem dL_holder_2 : decode cL_holder 2 = .ok (.aload_n 0, 1) := by decide +kernel
theorem dL_holder_3 : decode cL_holder 3 = .ok (.iload_n 1, 1) := by decide +kernel
theorem dL_holder_4 : decode cL_holder 4 = .ok (.invokevirtual 44, 3) := by decide +kernel
theorem dL_holder_7 : decode cL_holder 7 = .ok (.i2l, 1) := by decide +kernel
theorem dL_holder_8 : decode cL_holder 8 = .ok (.lastore, 1) := by decide +kernel
theorem dL_holder_9 : decode cL_holder 9 = .ok (.goto 6, 3) := by decide +kernel
theorem dL_holder_12 : decode cL_holder 12 = .ok (.astore_n 3, 1) := by decide +kernel
theorem dL_holder_13 : decode cL_holder 13 = .ok (.iconst 1, 1) := by decide +kernel
theorem dL_holder_14 : decode cL_holder 14 = .ok (.ireturn, 1) := by decide +kernel
theorem dL_holder_15 : decode cL_holder 15 = .ok (.iconst 0, 1) := by decide +kernel
theorem dL_holder_16 : decode cL_holder 16 = .ok (.ireturn, 1) := by decide +kernel
set_option maxRecDepth 20000 in
theorem ggL_holderByLog_X0_holderByLog : GoodIn wsL_holderByLog wsX0_holderByLog := goodIn_ca (goodIn_r _ [6, 7, 8, 9, 10, 11, 12, 13, 14, 15, 5, 16, 17, 18, 19, 20, 21, 22, 23, 24, 25, 26, 27, 28, 29, 30, 31, 32, 33, 34, 35] (by decide +kernel) (by decide +kernel)) (goodIn_sub (fun _ h => List.mem_cons_of_mem _ (List.mem_append_right _ h)) (by decide +kernel))
set_option maxRecDepth 20000 in
theorem gL_holderByLog_X0_holderByLog : GoodIn wsL_holderByLog (wsV RL 47 RX0 yX0_holderByLog wsX0_holderByLog) := goodIn_app (goodIn_of _ (by decide +kernel)) ggL_holderByLog_X0_holderByLog
theorem dL_holderByLog_0 : decode cL_holderByLog 0 = .ok (.aload_n 2, 1) := by decide +kernel
theorem dL_holderByLog_1 : decode cL_holderByLog 1 = .ok (.iconst 0, 1) := by decide +kernel
theorem dL_holderByLog_2 : decode cL_holderByLog 2 = .ok (.aload_n 0, 1) := by decide +kernel
theorem dL_holderByLog_3 : decode cL_holderByLog 3 = .ok (.iload_n 1, 1) := by decide +kernel
theorem dL_holderByLog_4 : decode cL_holderByLog 4 = .ok (.invokevirtual 47, 3) := by decide +kernel
theorem dL_holderByLog_7 : decode cL_holderByLog 7 = .ok (.i2l, 1) := by decide +kernel
theorem dL_holderByLog_8 : decode cL_holderByLog 8 = .ok (.lastore, 1) := by decide +kernel
theorem dL_holderByLog_9 : decode cL_holderByLog 9 = .ok (.goto 6, 3) := by decide +kernel
theorem dL_holderByLog_12 : decode cL_holderByLog 12 = .ok (.astore_n 3, 1) := by decide +kernel
theorem dL_holderByLog_13 : decode cL_holderByLog 13 = .ok (.iconst 1, 1) := by decide +kernel
theorem dL_holderByLog_14 : decode cL_holderByLog 14 = .ok (.ireturn, 1) := by decide +kernel
theorem dL_holderByLog_15 : decode cL_holderByLog 15 = .ok (.iconst 0, 1) := by decide +kernel
theorem dL_holderByLog_16 : decode cL_holderByLog 16 = .ok (.ireturn, 1) := by decide +kernel
set_option maxRecDepth 20000 in
theorem ggL_pageIn_X0_pageIn : GoodIn wsL_pageIn wsX0_pageIn := goodIn_ca (goodIn_r _ [6, 7, 8, 9, 10, 11, 5, 12, 13, 14, 15, 16, 17, 18, 19, 20, 21, 22, 23, 24, 25, 26, 27, 28, 29, 30, 31] (by decide +kernel) (by decide +kernel)) (goodIn_sub (fun _ h => List.mem_cons_of_mem _ (List.mem_append_right _ h)) (by decide +kernel))
set_option maxRecDepth 20000 in
theorem gL_pageIn_X0_pageIn : GoodIn wsL_pageIn (wsV RL 50 RX0 yX0_pageIn wsX0_pageIn) := goodIn_app (goodIn_of _ (by decide +kernel)) ggL_pageIn_X0_pageIn
theorem dL_pageIn_0 : decode cL_pageIn 0 = .ok (.aload_n 2, 1) := by decide +kernel
theorem dL_pageIn_1 : decode cL_pageIn 1 = .ok (.iconst 0, 1) := by decide +kernel
theorem dL_pageIn_2 : decode cL_pageIn 2 = .ok (.aload_n 0, 1) := by decide +kernel
theorem dL_pageIn_3 : decode cL_pageIn 3 = .ok (.iload_n 1, 1) := by decide +kernel
theorem dL_pageIn_4 : decode cL_pageIn 4 = .ok (.invokevirtual 50, 3) := by decide +kernel
theorem dL_pageIn_7 : decode cL_pageIn 7 = .ok (.i2l, 1) := by decide +kernel
theorem dL_pageIn_8 : decode cL_pageIn 8 = .ok (.lastore, 1) := by decide +kernel
theorem dL_pageIn_9 : decode cL_pageIn 9 = .ok (.goto 6, 3) := by decide +kernel
theorem dL_pageIn_12 : decode cL_pageIn 12 = .ok (.astore_n 3, 1) := by decide +kernel
theorem dL_pageIn_13 : decode cL_pageIn 13 = .ok (.iconst 1, 1) := by decide +kernel
theorem dL_pageIn_14 : decode cL_pageIn 14 = .ok (.ireturn, 1) := by decide +kernel
theorem dL_pageIn_15 : decode cL_pageIn 15 = .ok (.iconst 0, 1) := by decide +kernel
theorem dL_pageIn_16 : decode cL_pageIn 16 = .ok (.ireturn, 1) := by decide +kernel
set_option maxRecDepth 20000 in
theorem ggL_age_X0_age : GoodIn wsL_age wsX0_age := goodIn_ca (goodIn_r _ [6, 7, 8, 9, 10, 5, 11, 12, 13, 14, 15, 16, 17, 18, 19, 20, 21, 22, 23, 24, 25, 26, 27, 28, 29, 30, 31, 32, 33, 34, 35, 36, 37] (by decide +kernel) (by decide +kernel)) (goodIn_sub (fun _ h => List.mem_cons_of_mem _ (List.mem_append_right _ h)) (by decide +kernel))
set_option maxRecDepth 20000 in
theorem gL_age_X0_age : GoodIn wsL_age (wsV RL 53 RX0 yX0_age wsX0_age) := goodIn_app (goodIn_of _ (by decide +kernel)) ggL_age_X0_age
theorem dL_age_0 : decode cL_age 0 = .ok (.aload_n 2, 1) := by decide +kernel
theorem dL_age_1 : decode cL_age 1 = .ok (.iconst 0, 1) := by decide +kernel
theorem dL_age_2 : decode cL_age 2 = .ok (.aload_n 0, 1) := by decide +kernel
theorem dL_age_3 : decode cL_age 3 = .ok (.iload_n 1, 1) := by decide +kernel
theorem dL_age_4 : decode cL_age 4 = .ok (.invokevirtual 53, 3) := by decide +kernel
theorem dL_age_7 : decode cL_age 7 = .ok (.i2l, 1) := by decide +kernel
theorem dL_age_8 : decode cL_age 8 = .ok (.lastore, 1) := by decide +kernel
theorem dL_age_9 : decode cL_age 9 = .ok (.goto 6, 3) := by decide +kernel
theorem dL_age_12 : decode cL_age 12 = .ok (.astore_n 3, 1) := by decide +kernel
theorem dL_age_13 : decode cL_age 13 = .ok (.iconst 1, 1) := by decide +kernel
theorem dL_age_14 : decode cL_age 14 = .ok (.ireturn, 1) := by decide +kernel
theorem dL_age_15 : decode cL_age 15 = .ok (.iconst 0, 1) := by decide +kernel
theorem dL_age_16 : decode cL_age 16 = .ok (.ireturn, 1) := by decide +kernel
set_option maxRecDepth 20000 in
theorem ggL_owns_X0_owns : GoodIn wsL_owns wsX0_owns := goodIn_ca (goodIn_r _ [6, 7, 8, 9, 10, 11, 5, 12, 13, 14, 15, 16, 17, 18, 19, 20, 21, 22, 23, 24, 25, 26, 27, 28, 29, 30, 31] (by decide +kernel) (by decide +kernel)) (goodIn_sub (fun _ h => List.mem_cons_of_mem _ (List.mem_append_right _ h)) (by decide +kernel))
set_option maxRecDepth 20000 in
theorem gL_owns_X0_owns : GoodIn wsL_owns (wsV RL 56 RX0 yX0_owns wsX0_owns) := goodIn_app (goodIn_of _ (by decide +kernel)) ggL_owns_X0_owns
theorem dL_owns_0 : decode cL_owns 0 = .ok (.aload_n 2, 1) := by decide +kernel
theorem dL_owns_1 : decode cL_owns 1 = .ok (.iconst 0, 1) := by decide +kernel
theorem dL_owns_2 : decode cL_owns 2 = .ok (.aload_n 0, 1) := by decide +kernel
theorem dL_owns_3 : decode cL_owns 3 = .ok (.iload_n 1, 1) := by decide +kernel
theorem dL_owns_4 : decode cL_owns 4 = .ok (.invokevirtual 56, 3) := by decide +kernel
theorem dL_owns_7 : decode cL_owns 7 = .ok (.i2l, 1) := by decide +kernel
theorem dL_owns_8 : decode cL_owns 8 = .ok (.lastore, 1) := by decide +kernel
theorem dL_owns_9 : decode cL_owns 9 = .ok (.goto 6, 3) := by decide +kernel
theorem dL_owns_12 : decode cL_owns 12 = .ok (.astore_n 3, 1) := by decide +kernel
theorem dL_owns_13 : decode cL_owns 13 = .ok (.iconst 1, 1) := by decide +kernel
theorem dL_owns_14 : decode cL_owns 14 = .ok (.ireturn, 1) := by decide +kernel
theorem dL_owns_15 : decode cL_owns 15 = .ok (.iconst 0, 1) := by decide +kernel
theorem dL_owns_16 : decode cL_owns 16 = .ok (.ireturn, 1) := by decide +kernel
set_option maxRecDepth 20000 in
theorem ggL_borrowed_X0_borrowed : GoodIn wsL_borrowed wsX0_borrowed := goodIn_ca (goodIn_r _ [6, 7, 8, 9, 10, 5, 11, 12, 13, 14, 15, 16, 17, 18, 19, 20, 21, 22, 23, 24, 25, 26, 27, 28, 29, 30, 31, 32, 33, 34, 35, 36] (by decide +kernel) (by decide +kernel)) (goodIn_sub (fun _ h => List.mem_cons_of_mem _ (List.mem_append_right _ h)) (by decide +kernel))
set_option maxRecDepth 20000 in
theorem gL_borrowed_X0_borrowed : GoodIn wsL_borrowed (wsV RL 59 RX0 yX0_borrowed wsX0_borrowed) := goodIn_app (goodIn_of _ (by decide +kernel)) ggL_borrowed_X0_borrowed
theorem dL_borrowed_0 : decode cL_borrowed 0 = .ok (.aload_n 2, 1) := by decide +kernel
theorem dL_borrowed_1 : decode cL_borrowed 1 = .ok (.iconst 0, 1) := by decide +kernel
theorem dL_borrowed_2 : decode cL_borrowed 2 = .ok (.aload_n 0, 1) := by decide +kernel
theorem dL_borrowed_3 : decode cL_borrowed 3 = .ok (.iload_n 1, 1) := by decide +kernel
theorem dL_borrowed_4 : decode cL_borrowed 4 = .ok (.invokevirtual 59, 3) := by decide +kernel
theorem dL_borrowed_7 : decode cL_borrowed 7 = .ok (.i2l, 1) := by decide +kernel
theorem dL_borrowed_8 : decode cL_borrowed 8 = .ok (.lastore, 1) := by decide +kernel
theorem dL_borrowed_9 : decode cL_borrowed 9 = .ok (.goto 6, 3) := by decide +kernel
theorem dL_borrowed_12 : decode cL_borrowed 12 = .ok (.astore_n 3, 1) := by decide +kernel
theorem dL_borrowed_13 : decode cL_borrowed 13 = .ok (.iconst 1, 1) := by decide +kernel
theorem dL_borrowed_14 : decode cL_borrowed 14 = .ok (.ireturn, 1) := by decide +kernel
theorem dL_borrowed_15 : decode cL_borrowed 15 = .ok (.iconst 0, 1) := by decide +kernel
theorem dL_borrowed_16 : decode cL_borrowed 16 = .ok (.ireturn, 1) := by decide +kernel
set_option maxRecDepth 20000 in
theorem ggL_lent_X0_lent : GoodIn wsL_lent wsX0_lent := goodIn_ca (goodIn_r _ [6, 7, 8, 9, 10, 11, 12, 5, 13, 14, 15, 16, 17, 18, 19, 20, 21, 22, 23, 24, 25, 26, 27, 28, 29, 30, 31, 32] (by decide +kernel) (by decide +kernel)) (goodIn_sub (fun _ h => List.mem_cons_of_mem _ (List.mem_append_right _ h)) (by decide +kernel))
set_option maxRecDepth 20000 in
theorem gL_lent_X0_lent : GoodIn wsL_lent (wsV RL 62 RX0 yX0_lent wsX0_lent) := goodIn_app (goodIn_of _ (by decide +kernel)) ggL_lent_X0_lent
theorem dL_lent_0 : decode cL_lent 0 = .ok (.aload_n 2, 1) := by decide +kernel
theorem dL_lent_1 : decode cL_lent 1 = .ok (.iconst 0, 1) := by decide +kernel
theorem dL_lent_2 : decode cL_lent 2 = .ok (.aload_n 0, 1) := by decide +kernel
theorem dL_lent_3 : decode cL_lent 3 = .ok (.iload_n 1, 1) := by decide +kernel
theorem dL_lent_4 : decode cL_lent 4 = .ok (.invokevirtual 62, 3) := by decide +kernel
theorem dL_lent_7 : decode cL_lent 7 = .ok (.i2l, 1) := by decide +kernel
theorem dL_lent_8 : decode cL_lent 8 = .ok (.lastore, 1) := by decide +kernel
theorem dL_lent_9 : decode cL_lent 9 = .ok (.goto 6, 3) := by decide +kernel
theorem dL_lent_12 : decode cL_lent 12 = .ok (.astore_n 3, 1) := by decide +kernel
theorem dL_lent_13 : decode cL_lent 13 = .ok (.iconst 1, 1) := by decide +kernel
theorem dL_lent_14 : decode cL_lent 14 = .ok (.ireturn, 1) := by decide +kernel
theorem dL_lent_15 : decode cL_lent 15 = .ok (.iconst 0, 1) := by decide +kernel
theorem dL_lent_16 : decode cL_lent 16 = .ok (.ireturn, 1) := by decide +kernel
set_option maxRecDepth 20000 in
theorem ggL_stateOf_X0_stateOf : GoodIn wsL_stateOf wsX0_stateOf := goodIn_ca (goodIn_r _ [6, 7, 8, 9, 10, 11, 5, 12, 13, 14, 15, 16, 17, 18, 19, 20, 21, 22, 23, 24, 25, 26, 27, 28, 29, 30, 31] (by decide +kernel) (by decide +kernel)) (goodIn_sub (fun _ h => List.mem_cons_of_mem _ (List.mem_append_right _ h)) (by decide +kernel))
set_option maxRecDepth 20000 in
theorem gL_stateOf_X0_stateOf : GoodIn wsL_stateOf (wsV RL 65 RX0 yX0_stateOf wsX0_stateOf) := goodIn_app (goodIn_of _ (by decide +kernel)) ggL_stateOf_X0_stateOf
theorem dL_stateOf_0 : decode cL_stateOf 0 = .ok (.aload_n 2, 1) := by decide +kernel
theorem dL_stateOf_1 : decode cL_stateOf 1 = .ok (.iconst 0, 1) := by decide +kernel
theorem dL_stateOf_2 : decode cL_stateOf 2 = .ok (.aload_n 0, 1) := by decide +kernel
theorem dL_stateOf_3 : decode cL_stateOf 3 = .ok (.iload_n 1, 1) := by decide +kernel
theorem dL_stateOf_4 : decode cL_stateOf 4 = .ok (.invokevirtual 65, 3) := by decide +kernel
theorem dL_stateOf_7 : decode cL_stateOf 7 = .ok (.i2l, 1) := by decide +kernel
theorem dL_stateOf_8 : decode cL_stateOf 8 = .ok (.lastore, 1) := by decide +kernel
theorem dL_stateOf_9 : decode cL_stateOf 9 = .ok (.goto 6, 3) := by decide +kernel
theorem dL_stateOf_12 : decode cL_stateOf 12 = .ok (.astore_n 3, 1) := by decide +kernel
theorem dL_stateOf_13 : decode cL_stateOf 13 = .ok (.iconst 1, 1) := by decide +kernel
theorem dL_stateOf_14 : decode cL_stateOf 14 = .ok (.ireturn, 1) := by decide +kernel
theorem dL_stateOf_15 : decode cL_stateOf 15 = .ok (.iconst 0, 1) := by decide +kernel
theorem dL_stateOf_16 : decode cL_stateOf 16 = .ok (.ireturn, 1) := by decide +kernel
set_option maxRecDepth 20000 in
theorem ggL_purse_X0_purse : GoodIn wsL_purse wsX0_purse := goodIn_ca (goodIn_r _ [6, 7, 8, 9, 10, 11, 5, 12, 13, 14, 15, 16, 17, 18, 19, 20, 21, 22, 23, 24, 25, 26, 27, 28, 29, 30, 31] (by decide +kernel) (by decide +kernel)) (goodIn_sub (fun _ h => List.mem_cons_of_mem _ (List.mem_append_right _ h)) (by decide +kernel))
set_option maxRecDepth 20000 in
theorem gL_purse_X0_purse : GoodIn wsL_purse (wsV RL 68 RX0 yX0_purse wsX0_purse) := goodIn_app (goodIn_of _ (by decide +kernel)) ggL_purse_X0_purse
theorem dL_purse_0 : decode cL_purse 0 = .ok (.aload_n 2, 1) := by decide +kernel
theorem dL_purse_1 : decode cL_purse 1 = .ok (.iconst 0, 1) := by decide +kernel
theorem dL_purse_2 : decode cL_purse 2 = .ok (.aload_n 0, 1) := by decide +kernel
theorem dL_purse_3 : decode cL_purse 3 = .ok (.iload_n 1, 1) := by decide +kernel
theorem dL_purse_4 : decode cL_purse 4 = .ok (.invokevirtual 68, 3) := by decide +kernel
theorem dL_purse_7 : decode cL_purse 7 = .ok (.i2l, 1) := by decide +kernel
theorem dL_purse_8 : decode cL_purse 8 = .ok (.lastore, 1) := by decide +kernel
theorem dL_purse_9 : decode cL_purse 9 = .ok (.goto 6, 3) := by decide +kernel
theorem dL_purse_12 : decode cL_purse 12 = .ok (.astore_n 3, 1) := by decide +kernel
theorem dL_purse_13 : decode cL_purse 13 = .ok (.iconst 1, 1) := by decide +kernel
theorem dL_purse_14 : decode cL_purse 14 = .ok (.ireturn, 1) := by decide +kernel
theorem dL_purse_15 : decode cL_purse 15 = .ok (.iconst 0, 1) := by decide +kernel
theorem dL_purse_16 : decode cL_purse 16 = .ok (.ireturn, 1) := by decide +kernel
set_option maxRecDepth 20000 in
theorem ggL_faults_X0_faults : GoodIn wsL_faults wsX0_faults := goodIn_ca (goodIn_r _ [6, 7, 8, 9, 10, 11, 5, 12, 13, 14, 15, 16, 17, 18, 19, 20, 21, 22, 23, 24, 25, 26, 27, 28, 29, 30, 31] (by decide +kernel) (by decide +kernel)) (goodIn_sub (fun _ h => List.mem_cons_of_mem _ (List.mem_append_right _ h)) (by decide +kernel))
set_option maxRecDepth 20000 in
theorem gL_faults_X0_faults : GoodIn wsL_faults (wsV RL 71 RX0 yX0_faults wsX0_faults) := goodIn_app (goodIn_of _ (by decide +kernel)) ggL_faults_X0_faults
theorem dL_faults_0 : decode cL_faults 0 = .ok (.aload_n 2, 1) := by decide +kernel
theorem dL_faults_1 : decode cL_faults 1 = .ok (.iconst 0, 1) := by decide +kernel
theorem dL_faults_2 : decode cL_faults 2 = .ok (.aload_n 0, 1) := by decide +kernel
theorem dL_faults_3 : decode cL_faults 3 = .ok (.iload_n 1, 1) := by decide +kernel
theorem dL_faults_4 : decode cL_faults 4 = .ok (.invokevirtual 71, 3) := by decide +kernel
theorem dL_faults_7 : decode cL_faults 7 = .ok (.i2l, 1) := by decide +kernel
theorem dL_faults_8 : decode cL_faults 8 = .ok (.lastore, 1) := by decide +kernel
theorem dL_faults_9 : decode cL_faults 9 = .ok (.goto 6, 3) := by decide +kernel
theorem dL_faults_12 : decode cL_faults 12 = .ok (.astore_n 3, 1) := by decide +kernel
theorem dL_faults_13 : decode cL_faults 13 = .ok (.iconst 1, 1) := by decide +kernel
theorem dL_faults_14 : decode cL_faults 14 = .ok (.ireturn, 1) := by decide +kernel
theorem dL_faults_15 : decode cL_faults 15 = .ok (.iconst 0, 1) := by decide +kernel
theorem dL_faults_16 : decode cL_faults 16 = .ok (.ireturn, 1) := by decide +kernel
set_option maxRecDepth 20000 in
theorem ggL_lasts_X0_lasts : GoodIn wsL_lasts wsX0_lasts := goodIn_ca (goodIn_r _ [6, 7, 8, 9, 10, 11, 12, 5, 13, 14, 15, 16, 17, 18, 19, 20, 21, 22, 23, 24, 25, 26, 27, 28, 29, 30, 31, 32, 33] (by decide +kernel) (by decide +kernel)) (goodIn_sub (fun _ h => List.mem_cons_of_mem _ (List.mem_append_right _ h)) (by decide +kernel))
set_option maxRecDepth 20000 in
theorem gL_lasts_X0_lasts : GoodIn wsL_lasts (wsV RL 74 RX0 yX0_lasts wsX0_lasts) := goodIn_app (goodIn_of _ (by decide +kernel)) ggL_lasts_X0_lasts
theorem dL_lasts_0 : decode cL_lasts 0 = .ok (.aload_n 2, 1) := by decide +kernel
theorem dL_lasts_1 : decode cL_lasts 1 = .ok (.iconst 0, 1) := by decide +kernel
theorem dL_lasts_2 : decode cL_lasts 2 = .ok (.aload_n 0, 1) := by decide +kernel
theorem dL_lasts_3 : decode cL_lasts 3 = .ok (.iload_n 1, 1) := by decide +kernel
theorem dL_lasts_4 : decode cL_lasts 4 = .ok (.invokevirtual 74, 3) := by decide +kernel
theorem dL_lasts_7 : decode cL_lasts 7 = .ok (.ifCond .eq 7, 3) := by decide +kernel
theorem dL_lasts_10 : decode cL_lasts 10 = .ok (.lconst 1, 1) := by decide +kernel
theorem dL_lasts_11 : decode cL_lasts 11 = .ok (.goto 4, 3) := by decide +kernel
theorem dL_lasts_14 : decode cL_lasts 14 = .ok (.lconst 0, 1) := by decide +kernel
theorem dL_lasts_15 : decode cL_lasts 15 = .ok (.lastore, 1) := by decide +kernel
theorem dL_lasts_16 : decode cL_lasts 16 = .ok (.goto 6, 3) := by decide +kernel
theorem dL_lasts_19 : decode cL_lasts 19 = .ok (.astore_n 3, 1) := by decide +kernel
theorem dL_lasts_20 : decode cL_lasts 20 = .ok (.iconst 1, 1) := by decide +kernel
theorem dL_lasts_21 : decode cL_lasts 21 = .ok (.ireturn, 1) := by decide +kernel
theorem dL_lasts_22 : decode cL_lasts 22 = .ok (.iconst 0, 1) := by decide +kernel
theorem dL_lasts_23 : decode cL_lasts 23 = .ok (.ireturn, 1) := by decide +kernel
set_option maxRecDepth 20000 in
theorem ggL_partiesOf_X0_partiesOf : GoodIn wsL_partiesOf wsX0_partiesOf := goodIn_ca (goodIn_r _ [6, 7, 8, 9, 10, 11, 12, 13, 14, 5, 15, 16, 17, 18, 19, 20, 21, 22, 23, 24, 25, 26, 27, 28, 29, 30, 31, 32, 33, 34, 35] (by decide +kernel) (by decide +kernel)) (goodIn_sub (fun _ h => List.mem_cons_of_mem _ (List.mem_append_right _ h)) (by decide +kernel))
set_option maxRecDepth 20000 in
theorem gL_partiesOf_X0_partiesOf : GoodIn wsL_partiesOf (wsV RL 78 RX0 yX0_partiesOf wsX0_partiesOf) := goodIn_app (goodIn_of _ (by decide +kernel)) ggL_partiesOf_X0_partiesOf
theorem dL_partiesOf_0 : decode cL_partiesOf 0 = .ok (.aload_n 2, 1) := by decide +kernel
theorem dL_partiesOf_1 : decode cL_partiesOf 1 = .ok (.iconst 0, 1) := by decide +kernel
theorem dL_partiesOf_2 : decode cL_partiesOf 2 = .ok (.aload_n 0, 1) := by decide +kernel
theorem dL_partiesOf_3 : decode cL_partiesOf 3 = .ok (.iload_n 1, 1) := by decide +kernel
theorem dL_partiesOf_4 : decode cL_partiesOf 4 = .ok (.invokevirtual 78, 3) := by decide +kernel
theorem dL_partiesOf_7 : decode cL_partiesOf 7 = .ok (.i2l, 1) := by decide +kernel
theorem dL_partiesOf_8 : decode cL_partiesOf 8 = .ok (.lastore, 1) := by decide +kernel
theorem dL_partiesOf_9 : decode cL_partiesOf 9 = .ok (.goto 6, 3) := by decide +kernel
theorem dL_partiesOf_12 : decode cL_partiesOf 12 = .ok (.astore_n 3, 1) := by decide +kernel
theorem dL_partiesOf_13 : decode cL_partiesOf 13 = .ok (.iconst 1, 1) := by decide +kernel
theorem dL_partiesOf_14 : decode cL_partiesOf 14 = .ok (.ireturn, 1) := by decide +kernel
theorem dL_partiesOf_15 : decode cL_partiesOf 15 = .ok (.iconst 0, 1) := by decide +kernel
theorem dL_partiesOf_16 : decode cL_partiesOf 16 = .ok (.ireturn, 1) := by decide +kernel
set_option maxRecDepth 20000 in
theorem ggL_interest_X0_interest : GoodIn wsL_interest wsX0_interest := goodIn_ca (goodIn_r _ [6, 7, 8, 9, 10, 11, 12, 5, 13, 14, 15, 16, 17, 18, 19, 20, 21, 22, 23, 24, 25, 26, 27, 28, 29, 30, 31, 32, 33] (by decide +kernel) (by decide +kernel)) (goodIn_sub (fun _ h => List.mem_cons_of_mem _ (List.mem_append_right _ h)) (by decide +kernel))
set_option maxRecDepth 20000 in
theorem gL_interest_X0_interest : GoodIn wsL_interest (wsV RL 81 RX0 yX0_interest wsX0_interest) := goodIn_app (goodIn_of _ (by decide +kernel)) ggL_interest_X0_interest
theorem dL_interest_0 : decode cL_interest 0 = .ok (.aload_n 2, 1) := by decide +kernel
theorem dL_interest_1 : decode cL_interest 1 = .ok (.iconst 0, 1) := by decide +kernel
theorem dL_interest_2 : decode cL_interest 2 = .ok (.aload_n 0, 1) := by decide +kernel
theorem dL_interest_3 : decode cL_interest 3 = .ok (.iload_n 1, 1) := by decide +kernel
theorem dL_interest_4 : decode cL_interest 4 = .ok (.invokevirtual 81, 3) := by decide +kernel
theorem dL_interest_7 : decode cL_interest 7 = .ok (.i2l, 1) := by decide +kernel
theorem dL_interest_8 : decode cL_interest 8 = .ok (.lastore, 1) := by decide +kernel
theorem dL_interest_9 : decode cL_interest 9 = .ok (.goto 6, 3) := by decide +kernel
theorem dL_interest_12 : decode cL_interest 12 = .ok (.astore_n 3, 1) := by decide +kernel
theorem dL_interest_13 : decode cL_interest 13 = .ok (.iconst 1, 1) := by decide +kernel
theorem dL_interest_14 : decode cL_interest 14 = .ok (.ireturn, 1) := by decide +kernel
theorem dL_interest_15 : decode cL_interest 15 = .ok (.iconst 0, 1) := by decide +kernel
theorem dL_interest_16 : decode cL_interest 16 = .ok (.ireturn, 1) := by decide +kernel
set_option maxRecDepth 20000 in
theorem ggL_requestAt_X0_requestAt : GoodIn wsL_requestAt wsX0_requestAt := goodIn_ca (goodIn_r _ [6, 7, 8, 9, 10, 11, 5, 12, 13, 14, 15, 16, 17, 18, 19, 20, 21, 22, 23, 24, 25, 26, 27, 28, 29, 30, 31, 32, 33, 34, 35, 36, 37, 38, 39, 40, 41, 42, 43, 44, 45] (by decide +kernel) (by decide +kernel)) (goodIn_sub (fun _ h => List.mem_cons_of_mem _ (List.mem_append_right _ h)) (by decide +kernel))
set_option maxRecDepth 20000 in
theorem gL_requestAt_X0_requestAt : GoodIn wsL_requestAt (wsV RL 84 RX0 yX0_requestAt wsX0_requestAt) := goodIn_app (goodIn_of _ (by decide +kernel)) ggL_requestAt_X0_requestAt
theorem dL_requestAt_0 : decode cL_requestAt 0 = .ok (.aload_n 2, 1) := by decide +kernel
theorem dL_requestAt_1 : decode cL_requestAt 1 = .ok (.iconst 0, 1) := by decide +kernel
theorem dL_requestAt_2 : decode cL_requestAt 2 = .ok (.aload_n 0, 1) := by decide +kernel
theorem dL_requestAt_3 : decode cL_requestAt 3 = .ok (.iload_n 1, 1) := by decide +kernel
theorem dL_requestAt_4 : decode cL_requestAt 4 = .ok (.invokevirtual 84, 3) := by decide +kernel
theorem dL_requestAt_7 : decode cL_requestAt 7 = .ok (.i2l, 1) := by decide +kernel
theorem dL_requestAt_8 : decode cL_requestAt 8 = .ok (.lastore, 1) := by decide +kernel
theorem dL_requestAt_9 : decode cL_requestAt 9 = .ok (.goto 6, 3) := by decide +kernel
theorem dL_requestAt_12 : decode cL_requestAt 12 = .ok (.astore_n 3, 1) := by decide +kernel
theorem dL_requestAt_13 : decode cL_requestAt 13 = .ok (.iconst 1, 1) := by decide +kernel
theorem dL_requestAt_14 : decode cL_requestAt 14 = .ok (.ireturn, 1) := by decide +kernel
theorem dL_requestAt_15 : decode cL_requestAt 15 = .ok (.iconst 0, 1) := by decide +kernel
theorem dL_requestAt_16 : decode cL_requestAt 16 = .ok (.ireturn, 1) := by decide +kernel
set_option maxRecDepth 20000 in
theorem ggL_law_X0_init : GoodIn wsL_law wsX0_init := goodIn_r _ [9, 10, 11, 12, 13, 14, 15, 16, 17, 18, 19, 20, 21, 22, 23, 24, 25, 26, 27, 28, 29, 30, 31, 32, 33, 34, 35, 36, 37, 617, 618, 619, 620, 621, 622, 623, 624, 625, 626, 627, 628, 629, 630, 631, 632, 633, 634, 635] (by decide +kernel) (by decide +kernel)
set_option maxRecDepth 20000 in
theorem gL_law_X0_init : GoodIn wsL_law (wsX0_init) := ggL_law_X0_init
set_option maxRecDepth 20000 in
theorem ggL_law_X1_init : GoodIn wsL_law wsX1_init := goodIn_r _ [40, 41, 11, 12, 42, 13, 43, 44, 21, 45, 46, 47, 48, 49, 50, 51, 52, 53, 54, 55, 56, 636, 637, 638, 639, 640, 641, 642, 643, 644, 645, 646, 647, 648, 649, 650, 651, 652, 653, 654] (by decide +kernel) (by decide +kernel)
set_option maxRecDepth 20000 in
theorem gL_law_X1_init : GoodIn wsL_law (wsX1_init) := ggL_law_X1_init
set_option maxRecDepth 20000 in
theorem ggL_law_L_setWage : GoodIn wsL_law wsL_setWage := goodIn_ca (goodIn_ca (goodIn_r _ [60, 61, 62, 63, 64, 65, 2, 66, 67, 68, 69, 70, 14, 71, 72, 73, 617, 618, 619, 620, 621, 622, 623, 624, 625, 626, 627, 628, 629, 630, 631, 632, 633, 634, 635] (by decide +kernel) (by decide +kernel)) (goodIn_sub (fun _ h => List.mem_append_left _ (List.mem_append_left _ (List.mem_append_right _ h))) (by decide +kernel))) (goodIn_sub (fun _ h => List.mem_append_left _ (List.mem_append_right _ h)) (by decide +kernel))
set_option maxRecDepth 20000 in
theorem gL_law_L_setWage : GoodIn wsL_law (va_wsS RL 91 yL_setWage wsL_setWage) := goodIn_app (goodIn_of _ (by decide +kernel)) ggL_law_L_setWage
set_option maxRecDepth 20000 in
theorem ggL_law_X1_setWage : GoodIn wsL_law wsX1_setWage := goodIn_r _ [77, 48, 78, 79, 5, 80, 81, 82, 83, 84, 85, 86, 87, 88, 636, 637, 638, 639, 640, 641, 642, 643, 644, 645, 646, 647, 648, 649, 650, 651, 652, 653, 654] (by decide +kernel) (by decide +kernel)
set_option maxRecDepth 20000 in
theorem gL_law_X1_setWage : GoodIn wsL_law (wsV RL 96 RX1 yX1_setWage wsX1_setWage) := goodIn_app (goodIn_of _ (by decide +kernel)) ggL_law_X1_setWage
set_option maxRecDepth 20000 in
theorem ggL_law_X1_thrown : GoodIn wsL_law wsX1_thrown := goodIn_r _ [92, 88, 636, 637, 638, 639, 640, 641, 642, 643, 644, 645, 646, 647, 648, 649, 650, 651, 652, 653, 654] (by decide +kernel) (by decide +kernel)
set_option maxRecDepth 20000 in
theorem gL_law_X1_thrown : GoodIn wsL_law (wsV RL 97 RX1 yX1_thrown wsX1_thrown) := goodIn_app (goodIn_of _ (by decide +kernel)) ggL_law_X1_thrown
set_option maxRecDepth 20000 in
theorem ggL_law_L_setRate : GoodIn wsL_law wsL_setRate := goodIn_ca (goodIn_r _ [95, 62, 96, 97, 98, 2, 99, 69, 70, 30, 617, 618, 619, 620, 621, 622, 623, 624, 625, 626, 627, 628, 629, 630, 631, 632, 633, 634, 635] (by decide +kernel) (by decide +kernel)) (goodIn_sub (fun _ h => List.mem_append_left _ (List.mem_append_right _ h)) (by decide +kernel))
set_option maxRecDepth 20000 in
theorem gL_law_L_setRate : GoodIn wsL_law (va_wsS RL 101 yL_setRate wsL_setRate) := goodIn_app (goodIn_of _ (by decide +kernel)) ggL_law_L_setRate
set_option maxRecDepth 20000 in
theorem ggL_law_X1_setRate : GoodIn wsL_law wsX1_setRate := goodIn_r _ [103, 42, 81, 82, 5, 83, 84, 85, 86, 87, 88, 636, 637, 638, 639, 640, 641, 642, 643, 644, 645, 646, 647, 648, 649, 650, 651, 652, 653, 654] (by decide +kernel) (by decide +kernel)
set_option maxRecDepth 20000 in
theorem gL_law_X1_setRate : GoodIn wsL_law (wsV RL 104 RX1 yX1_setRate wsX1_setRate) := goodIn_app (goodIn_of _ (by decide +kernel)) ggL_law_X1_setRate
set_option maxRecDepth 20000 in
theorem ggL_law_L_buy : GoodIn wsL_law wsL_buy := goodIn_ca (goodIn_ca (goodIn_r _ [106, 61, 107, 108, 109, 110, 2, 111, 67, 68, 112, 113, 16, 15, 18, 19, 71, 72, 73, 114, 115, 116, 117, 20, 118, 119, 120, 617, 618, 619, 620, 621, 622, 623, 624, 625, 626, 627, 628, 629, 630, 631, 632, 633, 634, 635] (by decide +kernel) (by decide +kernel)) (goodIn_sub (fun _ h => List.mem_append_left _ (List.mem_append_left _ (List.mem_append_right _ h))) (by decide +kernel))) (goodIn_sub (fun _ h => List.mem_append_right _ h) (by decide +kernel))
set_option maxRecDepth 20000 in
theorem gL_law_L_buy : GoodIn wsL_law (va_wsS RL 105 yL_buy wsL_buy) := goodIn_app (goodIn_of _ (by decide +kernel)) ggL_law_L_buy
set_option maxRecDepth 20000 in
theorem ggL_law_X1_buy : GoodIn wsL_law wsX1_buy := goodIn_r _ [124, 50, 49, 43, 125, 126, 127, 5, 128, 78, 79, 80, 81, 82, 83, 84, 85, 86, 87, 88, 636, 637, 638, 639, 640, 641, 642, 643, 644, 645, 646, 647, 648, 649, 650, 651, 652, 653, 654] (by decide +kernel) (by decide +kernel)
set_option maxRecDepth 20000 in
theorem gL_law_X1_buy : GoodIn wsL_law (wsV RL 107 RX1 yX1_buy wsX1_buy) := goodIn_app (goodIn_of _ (by decide +kernel)) ggL_law_X1_buy
set_option maxRecDepth 20000 in
theorem ggL_law_L_sell : GoodIn wsL_law wsL_sell := goodIn_ca (goodIn_ca (goodIn_r _ [131, 61, 107, 132, 133, 134, 2, 135, 67, 68, 112, 113, 18, 19, 20, 16, 15, 118, 119, 120, 71, 72, 73, 617, 618, 619, 620, 621, 622, 623, 624, 625, 626, 627, 628, 629, 630, 631, 632, 633, 634, 635] (by decide +kernel) (by decide +kernel)) (goodIn_sub (fun _ h => List.mem_append_left _ (List.mem_append_left _ (List.mem_append_right _ h))) (by decide +kernel))) (goodIn_sub (fun _ h => List.mem_append_right _ h) (by decide +kernel))
set_option maxRecDepth 20000 in
theorem gL_law_L_sell : GoodIn wsL_law (va_wsS RL 108 yL_sell wsL_sell) := goodIn_app (goodIn_of _ (by decide +kernel)) ggL_law_L_sell
set_option maxRecDepth 20000 in
theorem ggL_law_X1_sell : GoodIn wsL_law wsX1_sell := goodIn_r _ [139, 43, 47, 50, 49, 140, 141, 5, 142, 81, 82, 83, 84, 85, 86, 87, 88, 143, 144, 145, 146, 44, 636, 637, 638, 639, 640, 641, 642, 643, 644, 645, 646, 647, 648, 649, 650, 651, 652, 653, 654] (by decide +kernel) (by decide +kernel)
set_option maxRecDepth 20000 in
theorem gL_law_X1_sell : GoodIn wsL_law (wsV RL 110 RX1 yX1_sell wsX1_sell) := goodIn_app (goodIn_of _ (by decide +kernel)) ggL_law_X1_sell
set_option maxRecDepth 20000 in
theorem ggL_law_L_drop : GoodIn wsL_law wsL_drop := goodIn_ca (goodIn_ca (goodIn_r _ [149, 61, 107, 150, 151, 152, 2, 153, 67, 68, 112, 113, 22, 20, 118, 119, 120, 154, 155, 156, 157, 33, 617, 618, 619, 620, 621, 622, 623, 624, 625, 626, 627, 628, 629, 630, 631, 632, 633, 634, 635] (by decide +kernel) (by decide +kernel)) (goodIn_sub (fun _ h => List.mem_append_left _ (List.mem_append_left _ (List.mem_append_right _ h))) (by decide +kernel))) (goodIn_sub (fun _ h => List.mem_append_right _ h) (by decide +kernel))
set_option maxRecDepth 20000 in
theorem gL_law_L_drop : GoodIn wsL_law (va_wsS RL 111 yL_drop wsL_drop) := goodIn_app (goodIn_of _ (by decide +kernel)) ggL_law_L_drop
set_option maxRecDepth 20000 in
theorem ggL_law_X1_drop : GoodIn wsL_law wsX1_drop := goodIn_r _ [161, 44, 140, 141, 5, 142, 81, 82, 83, 162, 163, 164, 165, 45, 84, 85, 86, 87, 88, 636, 637, 638, 639, 640, 641, 642, 643, 644, 645, 646, 647, 648, 649, 650, 651, 652, 653, 654] (by decide +kernel) (by decide +kernel)
set_option maxRecDepth 20000 in
theorem gL_law_X1_drop : GoodIn wsL_law (wsV RL 113 RX1 yX1_drop wsX1_drop) := goodIn_app (goodIn_of _ (by decide +kernel)) ggL_law_X1_drop
set_option maxRecDepth 20000 in
theorem ggL_law_L_touch : GoodIn wsL_law wsL_touch := goodIn_ca (goodIn_ca (goodIn_r _ [168, 61, 107, 169, 170, 171, 2, 172, 67, 68, 112, 113, 16, 23, 31, 20, 22, 17, 71, 72, 73, 173, 174, 175, 176, 177, 178, 179, 19, 118, 119, 120, 180, 181, 182, 183, 114, 115, 116, 117, 184, 185, 186, 187, 29, 27, 25, 24, 188, 189, 190, 191, 192, 193, 194, 195, 18, 154, 155, 156, 157, 33, 196, 197, 198, 199, 15, 30, 26, 200, 201, 202, 203, 204, 205, 206, 207, 208, 209, 210, 211, 212, 213, 214, 215, 216, 217, 218, 219, 617, 618, 619, 620, 621, 622, 623, 624, 625, 626, 627, 628, 629, 630, 631, 632, 633, 634, 635] (by decide +kernel) (by decide +kernel)) (goodIn_sub (fun _ h => List.mem_append_left _ (List.mem_append_left _ (List.mem_append_right _ h))) (by decide +kernel))) (goodIn_sub (fun _ h => List.mem_append_right _ h) (by decide +kernel))
set_option maxRecDepth 20000 in
theorem gL_law_L_touch : GoodIn wsL_law (va_wsS RL 114 yL_touch wsL_touch) := goodIn_app (goodIn_of _ (by decide +kernel)) ggL_law_L_touch
set_option maxRecDepth 20000 in
theorem ggL_law_X1_touch : GoodIn wsL_law wsX1_touch := goodIn_r _ [223, 50, 46, 224, 44, 45, 51, 78, 79, 5, 80, 81, 82, 83, 84, 85, 86, 87, 88, 225, 226, 227, 228, 229, 230, 231, 232, 47, 43, 54, 233, 234, 235, 236, 52, 49, 42, 237, 238, 239, 240, 241, 143, 144, 145, 146, 242, 243, 244, 245, 53, 246, 247, 248, 249, 250, 251, 252, 253, 254, 255, 256, 257, 258, 259, 260, 261, 262, 263, 264, 265, 266, 267, 268, 269, 270, 271, 272, 273, 274, 275, 276, 277, 162, 163, 164, 165, 278, 279, 280, 281, 282, 283, 284, 285, 286, 287, 288, 289, 290, 291, 292, 293, 294, 55, 636, 637, 638, 639, 640, 641, 642, 643, 644, 645, 646, 647, 648, 649, 650, 651, 652, 653, 654] (by decide +kernel) (by decide +kernel)
set_option maxRecDepth 20000 in
theorem gL_law_X1_touch : GoodIn wsL_law (wsV RL 116 RX1 yX1_touch wsX1_touch) := goodIn_app (goodIn_of _ (by decide +kernel)) ggL_law_X1_touch
set_option maxRecDepth 20000 in
theorem ggL_law_L_payBack : GoodIn wsL_law wsL_payBack := goodIn_ca (goodIn_ca (goodIn_r _ [297, 61, 107, 298, 299, 300, 2, 301, 67, 68, 112, 113, 27, 24, 25, 302, 303, 304, 305, 29, 188, 189, 190, 191, 20, 22, 118, 119, 120, 192, 193, 194, 195, 19, 18, 154, 155, 156, 157, 33, 617, 618, 619, 620, 621, 622, 623, 624, 625, 626, 627, 628, 629, 630, 631, 632, 633, 634, 635] (by decide +kernel) (by decide +kernel)) (goodIn_sub (fun _ h => List.mem_append_left _ (List.mem_append_left _ (List.mem_append_right _ h))) (by decide +kernel))) (goodIn_sub (fun _ h => List.mem_append_right _ h) (by decide +kernel))
set_option maxRecDepth 20000 in
theorem gL_law_L_payBack : GoodIn wsL_law (va_wsS RL 117 yL_payBack wsL_payBack) := goodIn_app (goodIn_of _ (by decide +kernel)) ggL_law_L_payBack
set_option maxRecDepth 20000 in
theorem ggL_law_X1_payBack : GoodIn wsL_law wsX1_payBack := goodIn_r _ [309, 52, 53, 310, 311, 312, 5, 313, 237, 81, 82, 83, 84, 85, 86, 87, 88, 246, 247, 248, 249, 47, 250, 251, 252, 253, 44, 45, 254, 255, 256, 257, 636, 637, 638, 639, 640, 641, 642, 643, 644, 645, 646, 647, 648, 649, 650, 651, 652, 653, 654] (by decide +kernel) (by decide +kernel)
set_option maxRecDepth 20000 in
theorem gL_law_X1_payBack : GoodIn wsL_law (wsV RL 119 RX1 yX1_payBack wsX1_payBack) := goodIn_app (goodIn_of _ (by decide +kernel)) ggL_law_X1_payBack
set_option maxRecDepth 20000 in
theorem ggL_law_L_advance : GoodIn wsL_law wsL_advance := goodIn_ca (goodIn_ca (goodIn_r _ [316, 62, 107, 317, 318, 319, 2, 320, 69, 70, 112, 113, 31, 321, 322, 323, 324, 325, 326, 327, 328, 329, 16, 15, 14, 330, 331, 332, 333, 29, 27, 334, 335, 336, 337, 26, 25, 30, 28, 71, 72, 73, 338, 339, 340, 341, 19, 188, 189, 190, 191, 20, 22, 118, 119, 120, 154, 155, 156, 157, 33, 192, 193, 194, 195, 24, 18, 342, 343, 344, 345, 346, 347, 348, 349, 350, 351, 352, 353, 32, 354, 355, 356, 357, 358, 359, 360, 361, 362, 363, 364, 365, 366, 367, 368, 369, 23, 617, 618, 619, 620, 621, 622, 623, 624, 625, 626, 627, 628, 629, 630, 631, 632, 633, 634, 635] (by decide +kernel) (by decide +kernel)) (goodIn_sub (fun _ h => List.mem_append_left _ (List.mem_append_right _ h)) (by decide +kernel))) (goodIn_sub (fun _ h => List.mem_append_right _ h) (by decide +kernel))
set_option maxRecDepth 20000 in
theorem gL_law_L_advance : GoodIn wsL_law (va_wsS RL 120 yL_advance wsL_advance) := goodIn_app (goodIn_of _ (by decide +kernel)) ggL_law_L_advance
set_option maxRecDepth 20000 in
theorem ggL_law_X1_advance : GoodIn wsL_law wsX1_advance := goodIn_r _ [373, 224, 374, 49, 50, 48, 81, 82, 5, 83, 84, 85, 86, 87, 88, 375, 376, 377, 378, 237, 54, 42, 53, 55, 246, 247, 248, 249, 47, 52, 379, 380, 381, 382, 56, 44, 229, 230, 231, 232, 43, 250, 251, 252, 253, 45, 254, 255, 256, 257, 383, 384, 385, 386, 387, 388, 389, 390, 391, 392, 393, 394, 395, 46, 396, 397, 398, 399, 400, 401, 402, 403, 404, 405, 406, 407, 636, 637, 638, 639, 640, 641, 642, 643, 644, 645, 646, 647, 648, 649, 650, 651, 652, 653, 654] (by decide +kernel) (by decide +kernel)
set_option maxRecDepth 20000 in
theorem gL_law_X1_advance : GoodIn wsL_law (wsV RL 122 RX1 yX1_advance wsX1_advance) := goodIn_app (goodIn_of _ (by decide +kernel)) ggL_law_X1_advance
set_option maxRecDepth 20000 in
theorem ggL_law_X0_tick : GoodIn wsL_law wsX0_tick := goodIn_r _ [411, 31, 617, 618, 619, 620, 621, 622, 623, 624, 625, 626, 627, 628, 629, 630, 631, 632, 633, 634, 635] (by decide +kernel) (by decide +kernel)
set_option maxRecDepth 20000 in
theorem gL_law_X0_tick : GoodIn wsL_law (wsV RL 123 RX0 yX0_tick wsX0_tick) := goodIn_app (goodIn_of _ (by decide +kernel)) ggL_law_X0_tick
set_option maxRecDepth 20000 in
theorem ggL_law_X1_tick : GoodIn wsL_law wsX1_tick := goodIn_r _ [415, 88, 224, 636, 637, 638, 639, 640, 641, 642, 643, 644, 645, 646, 647, 648, 649, 650, 651, 652, 653, 654] (by decide +kernel) (by decide +kernel)
set_option maxRecDepth 20000 in
theorem gL_law_X1_tick : GoodIn wsL_law (wsV RL 126 RX1 yX1_tick wsX1_tick) := goodIn_app (goodIn_of _ (by decide +kernel)) ggL_law_X1_tick
set_option maxRecDepth 20000 in
theorem ggL_law_L_owner : GoodIn wsL_law wsL_owner := goodIn_ca (goodIn_r _ [418, 61, 419, 420, 421, 2, 422, 67, 68, 18, 118, 119, 120, 617, 618, 619, 620, 621, 622, 623, 624, 625, 626, 627, 628, 629, 630, 631, 632, 633, 634, 635] (by decide +kernel) (by decide +kernel)) (goodIn_sub (fun _ h => List.mem_append_left _ (List.mem_append_left _ (List.mem_append_right _ h))) (by decide +kernel))
set_option maxRecDepth 20000 in
theorem gL_law_L_owner : GoodIn wsL_law (va_wsS RL 127 yL_owner wsL_owner) := goodIn_app (goodIn_of _ (by decide +kernel)) ggL_law_L_owner
set_option maxRecDepth 20000 in
theorem ggL_law_X1_owner : GoodIn wsL_law wsX1_owner := goodIn_r _ [426, 43, 140, 141, 5, 142, 81, 82, 83, 84, 85, 86, 87, 88, 636, 637, 638, 639, 640, 641, 642, 643, 644, 645, 646, 647, 648, 649, 650, 651, 652, 653, 654] (by decide +kernel) (by decide +kernel)
set_option maxRecDepth 20000 in
theorem gL_law_X1_owner : GoodIn wsL_law (wsV RL 129 RX1 yX1_owner wsX1_owner) := goodIn_app (goodIn_of _ (by decide +kernel)) ggL_law_X1_owner
set_option maxRecDepth 20000 in
theorem ggL_law_L_holder : GoodIn wsL_law wsL_holder := goodIn_ca (goodIn_r _ [429, 61, 430, 431, 432, 2, 433, 67, 68, 19, 118, 119, 120, 617, 618, 619, 620, 621, 622, 623, 624, 625, 626, 627, 628, 629, 630, 631, 632, 633, 634, 635] (by decide +kernel) (by decide +kernel)) (goodIn_sub (fun _ h => List.mem_append_left _ (List.mem_append_left _ (List.mem_append_right _ h))) (by decide +kernel))
set_option maxRecDepth 20000 in
theorem gL_law_L_holder : GoodIn wsL_law (va_wsS RL 130 yL_holder wsL_holder) := goodIn_app (goodIn_of _ (by decide +kernel)) ggL_law_L_holder
set_option maxRecDepth 20000 in
theorem ggL_law_X1_holder : GoodIn wsL_law wsX1_holder := goodIn_r _ [437, 140, 141, 5, 142, 81, 82, 83, 84, 85, 86, 87, 88, 229, 230, 231, 232, 47, 43, 54, 636, 637, 638, 639, 640, 641, 642, 643, 644, 645, 646, 647, 648, 649, 650, 651, 652, 653, 654] (by decide +kernel) (by decide +kernel)
set_option maxRecDepth 20000 in
theorem gL_law_X1_holder : GoodIn wsL_law (wsV RL 132 RX1 yX1_holder wsX1_holder) := goodIn_app (goodIn_of _ (by decide +kernel)) ggL_law_X1_holder
set_option maxRecDepth 20000 in
theorem ggL_law_L_holderByLog : GoodIn wsL_law wsL_holderByLog := goodIn_ca (goodIn_r _ [440, 61, 441, 442, 443, 2, 444, 67, 68, 29, 27, 24, 26, 18, 118, 119, 120, 617, 618, 619, 620, 621, 622, 623, 624, 625, 626, 627, 628, 629, 630, 631, 632, 633, 634, 635] (by decide +kernel) (by decide +kernel)) (goodIn_sub (fun _ h => List.mem_append_left _ (List.mem_append_left _ (List.mem_append_right _ h))) (by decide +kernel))
set_option maxRecDepth 20000 in
theorem gL_law_L_holderByLog : GoodIn wsL_law (va_wsS RL 133 yL_holderByLog wsL_holderByLog) := goodIn_app (goodIn_of _ (by decide +kernel)) ggL_law_L_holderByLog
set_option maxRecDepth 20000 in
theorem ggL_law_X1_holderByLog : GoodIn wsL_law wsX1_holderByLog := goodIn_r _ [448, 140, 141, 5, 142, 81, 82, 83, 84, 85, 86, 87, 88, 229, 230, 231, 232, 47, 43, 54, 636, 637, 638, 639, 640, 641, 642, 643, 644, 645, 646, 647, 648, 649, 650, 651, 652, 653, 654] (by decide +kernel) (by decide +kernel)
set_option maxRecDepth 20000 in
theorem gL_law_X1_holderByLog : GoodIn wsL_law (wsV RL 135 RX1 yX1_holderByLog wsX1_holderByLog) := goodIn_app (goodIn_of _ (by decide +kernel)) ggL_law_X1_holderByLog
set_option maxRecDepth 20000 in
theorem ggL_law_L_pageIn : GoodIn wsL_law wsL_pageIn := goodIn_ca (goodIn_r _ [451, 61, 452, 453, 454, 2, 455, 67, 68, 20, 118, 119, 120, 617, 618, 619, 620, 621, 622, 623, 624, 625, 626, 627, 628, 629, 630, 631, 632, 633, 634, 635] (by decide +kernel) (by decide +kernel)) (goodIn_sub (fun _ h => List.mem_append_left _ (List.mem_append_left _ (List.mem_append_right _ h))) (by decide +kernel))
set_option maxRecDepth 20000 in
theorem gL_law_L_pageIn : GoodIn wsL_law (va_wsS RL 136 yL_pageIn wsL_pageIn) := goodIn_app (goodIn_of _ (by decide +kernel)) ggL_law_L_pageIn
set_option maxRecDepth 20000 in
theorem ggL_law_X1_pageIn : GoodIn wsL_law wsX1_pageIn := goodIn_r _ [459, 44, 140, 141, 5, 142, 81, 82, 83, 84, 85, 86, 87, 88, 636, 637, 638, 639, 640, 641, 642, 643, 644, 645, 646, 647, 648, 649, 650, 651, 652, 653, 654] (by decide +kernel) (by decide +kernel)
set_option maxRecDepth 20000 in
theorem gL_law_X1_pageIn : GoodIn wsL_law (wsV RL 138 RX1 yX1_pageIn wsX1_pageIn) := goodIn_app (goodIn_of _ (by decide +kernel)) ggL_law_X1_pageIn
set_option maxRecDepth 20000 in
theorem ggL_law_L_age : GoodIn wsL_law wsL_age := goodIn_ca (goodIn_r _ [462, 61, 463, 464, 465, 2, 466, 67, 68, 118, 119, 120, 212, 213, 214, 215, 22, 31, 23, 617, 618, 619, 620, 621, 622, 623, 624, 625, 626, 627, 628, 629, 630, 631, 632, 633, 634, 635] (by decide +kernel) (by decide +kernel)) (goodIn_sub (fun _ h => List.mem_append_left _ (List.mem_append_left _ (List.mem_append_right _ h))) (by decide +kernel))
set_option maxRecDepth 20000 in
theorem gL_law_L_age : GoodIn wsL_law (va_wsS RL 139 yL_age wsL_age) := goodIn_app (goodIn_of _ (by decide +kernel)) ggL_law_L_age
set_option maxRecDepth 20000 in
theorem ggL_law_X1_age : GoodIn wsL_law wsX1_age := goodIn_r _ [470, 140, 141, 5, 142, 81, 82, 83, 84, 85, 86, 87, 88, 274, 275, 276, 277, 224, 46, 162, 163, 164, 165, 44, 45, 636, 637, 638, 639, 640, 641, 642, 643, 644, 645, 646, 647, 648, 649, 650, 651, 652, 653, 654] (by decide +kernel) (by decide +kernel)
set_option maxRecDepth 20000 in
theorem gL_law_X1_age : GoodIn wsL_law (wsV RL 141 RX1 yX1_age wsX1_age) := goodIn_app (goodIn_of _ (by decide +kernel)) ggL_law_X1_age
set_option maxRecDepth 20000 in
theorem ggL_law_X0_free : GoodIn wsL_law wsX0_free := goodIn_r _ [474, 18, 617, 618, 619, 620, 621, 622, 623, 624, 625, 626, 627, 628, 629, 630, 631, 632, 633, 634, 635] (by decide +kernel) (by decide +kernel)
set_option maxRecDepth 20000 in
theorem gL_law_X0_free : GoodIn wsL_law (wsV RL 142 RX0 yX0_free wsX0_free) := goodIn_app (goodIn_of _ (by decide +kernel)) ggL_law_X0_free
set_option maxRecDepth 20000 in
theorem ggL_law_X1_free : GoodIn wsL_law wsX1_free := goodIn_r _ [478, 88, 43, 636, 637, 638, 639, 640, 641, 642, 643, 644, 645, 646, 647, 648, 649, 650, 651, 652, 653, 654] (by decide +kernel) (by decide +kernel)
set_option maxRecDepth 20000 in
theorem gL_law_X1_free : GoodIn wsL_law (wsV RL 145 RX1 yX1_free wsX1_free) := goodIn_app (goodIn_of _ (by decide +kernel)) ggL_law_X1_free
set_option maxRecDepth 20000 in
theorem ggL_law_L_owns : GoodIn wsL_law wsL_owns := goodIn_ca (goodIn_r _ [481, 61, 482, 483, 484, 2, 485, 67, 68, 18, 71, 72, 73, 617, 618, 619, 620, 621, 622, 623, 624, 625, 626, 627, 628, 629, 630, 631, 632, 633, 634, 635] (by decide +kernel) (by decide +kernel)) (goodIn_sub (fun _ h => List.mem_append_left _ (List.mem_append_left _ (List.mem_append_right _ h))) (by decide +kernel))
set_option maxRecDepth 20000 in
theorem gL_law_L_owns : GoodIn wsL_law (va_wsS RL 146 yL_owns wsL_owns) := goodIn_app (goodIn_of _ (by decide +kernel)) ggL_law_L_owns
set_option maxRecDepth 20000 in
theorem ggL_law_X1_owns : GoodIn wsL_law wsX1_owns := goodIn_r _ [489, 43, 78, 79, 5, 80, 81, 82, 83, 84, 85, 86, 87, 88, 636, 637, 638, 639, 640, 641, 642, 643, 644, 645, 646, 647, 648, 649, 650, 651, 652, 653, 654] (by decide +kernel) (by decide +kernel)
set_option maxRecDepth 20000 in
theorem gL_law_X1_owns : GoodIn wsL_law (wsV RL 148 RX1 yX1_owns wsX1_owns) := goodIn_app (goodIn_of _ (by decide +kernel)) ggL_law_X1_owns
set_option maxRecDepth 20000 in
theorem ggL_law_L_borrowed : GoodIn wsL_law wsL_borrowed := goodIn_ca (goodIn_r _ [492, 61, 493, 494, 495, 2, 496, 67, 68, 71, 72, 73, 200, 201, 202, 203, 19, 18, 617, 618, 619, 620, 621, 622, 623, 624, 625, 626, 627, 628, 629, 630, 631, 632, 633, 634, 635] (by decide +kernel) (by decide +kernel)) (goodIn_sub (fun _ h => List.mem_append_left _ (List.mem_append_left _ (List.mem_append_right _ h))) (by decide +kernel))
set_option maxRecDepth 20000 in
theorem gL_law_L_borrowed : GoodIn wsL_law (va_wsS RL 149 yL_borrowed wsL_borrowed) := goodIn_app (goodIn_of _ (by decide +kernel)) ggL_law_L_borrowed
set_option maxRecDepth 20000 in
theorem ggL_law_X1_borrowed : GoodIn wsL_law wsX1_borrowed := goodIn_r _ [500, 78, 79, 5, 80, 81, 82, 83, 84, 85, 86, 87, 88, 258, 259, 260, 261, 47, 54, 636, 637, 638, 639, 640, 641, 642, 643, 644, 645, 646, 647, 648, 649, 650, 651, 652, 653, 654] (by decide +kernel) (by decide +kernel)
set_option maxRecDepth 20000 in
theorem gL_law_X1_borrowed : GoodIn wsL_law (wsV RL 151 RX1 yX1_borrowed wsX1_borrowed) := goodIn_app (goodIn_of _ (by decide +kernel)) ggL_law_X1_borrowed
set_option maxRecDepth 20000 in
theorem ggL_law_L_lent : GoodIn wsL_law wsL_lent := goodIn_ca (goodIn_r _ [503, 61, 504, 505, 506, 2, 507, 67, 68, 18, 19, 71, 72, 73, 617, 618, 619, 620, 621, 622, 623, 624, 625, 626, 627, 628, 629, 630, 631, 632, 633, 634, 635] (by decide +kernel) (by decide +kernel)) (goodIn_sub (fun _ h => List.mem_append_left _ (List.mem_append_left _ (List.mem_append_right _ h))) (by decide +kernel))
set_option maxRecDepth 20000 in
theorem gL_law_L_lent : GoodIn wsL_law (va_wsS RL 152 yL_lent wsL_lent) := goodIn_app (goodIn_of _ (by decide +kernel)) ggL_law_L_lent
set_option maxRecDepth 20000 in
theorem ggL_law_X1_lent : GoodIn wsL_law wsX1_lent := goodIn_r _ [511, 43, 47, 78, 79, 5, 80, 81, 82, 83, 84, 85, 86, 87, 88, 636, 637, 638, 639, 640, 641, 642, 643, 644, 645, 646, 647, 648, 649, 650, 651, 652, 653, 654] (by decide +kernel) (by decide +kernel)
set_option maxRecDepth 20000 in
theorem gL_law_X1_lent : GoodIn wsL_law (wsV RL 154 RX1 yX1_lent wsX1_lent) := goodIn_app (goodIn_of _ (by decide +kernel)) ggL_law_X1_lent
set_option maxRecDepth 20000 in
theorem ggL_law_L_stateOf : GoodIn wsL_law wsL_stateOf := goodIn_ca (goodIn_r _ [514, 61, 515, 516, 517, 2, 518, 67, 68, 16, 71, 72, 73, 617, 618, 619, 620, 621, 622, 623, 624, 625, 626, 627, 628, 629, 630, 631, 632, 633, 634, 635] (by decide +kernel) (by decide +kernel)) (goodIn_sub (fun _ h => List.mem_append_left _ (List.mem_append_left _ (List.mem_append_right _ h))) (by decide +kernel))
set_option maxRecDepth 20000 in
theorem gL_law_L_stateOf : GoodIn wsL_law (va_wsS RL 155 yL_stateOf wsL_stateOf) := goodIn_app (goodIn_of _ (by decide +kernel)) ggL_law_L_stateOf
set_option maxRecDepth 20000 in
theorem ggL_law_X1_stateOf : GoodIn wsL_law wsX1_stateOf := goodIn_r _ [522, 50, 78, 79, 5, 80, 81, 82, 83, 84, 85, 86, 87, 88, 636, 637, 638, 639, 640, 641, 642, 643, 644, 645, 646, 647, 648, 649, 650, 651, 652, 653, 654] (by decide +kernel) (by decide +kernel)
set_option maxRecDepth 20000 in
theorem gL_law_X1_stateOf : GoodIn wsL_law (wsV RL 157 RX1 yX1_stateOf wsX1_stateOf) := goodIn_app (goodIn_of _ (by decide +kernel)) ggL_law_X1_stateOf
set_option maxRecDepth 20000 in
theorem ggL_law_L_purse : GoodIn wsL_law wsL_purse := goodIn_ca (goodIn_r _ [525, 61, 526, 527, 528, 2, 529, 67, 68, 15, 71, 72, 73, 617, 618, 619, 620, 621, 622, 623, 624, 625, 626, 627, 628, 629, 630, 631, 632, 633, 634, 635] (by decide +kernel) (by decide +kernel)) (goodIn_sub (fun _ h => List.mem_append_left _ (List.mem_append_left _ (List.mem_append_right _ h))) (by decide +kernel))
set_option maxRecDepth 20000 in
theorem gL_law_L_purse : GoodIn wsL_law (va_wsS RL 158 yL_purse wsL_purse) := goodIn_app (goodIn_of _ (by decide +kernel)) ggL_law_L_purse
set_option maxRecDepth 20000 in
theorem ggL_law_X1_purse : GoodIn wsL_law wsX1_purse := goodIn_r _ [533, 49, 78, 79, 5, 80, 81, 82, 83, 84, 85, 86, 87, 88, 636, 637, 638, 639, 640, 641, 642, 643, 644, 645, 646, 647, 648, 649, 650, 651, 652, 653, 654] (by decide +kernel) (by decide +kernel)
set_option maxRecDepth 20000 in
theorem gL_law_X1_purse : GoodIn wsL_law (wsV RL 160 RX1 yX1_purse wsX1_purse) := goodIn_app (goodIn_of _ (by decide +kernel)) ggL_law_X1_purse
set_option maxRecDepth 20000 in
theorem ggL_law_L_faults : GoodIn wsL_law wsL_faults := goodIn_ca (goodIn_r _ [536, 61, 537, 538, 539, 2, 540, 67, 68, 17, 71, 72, 73, 617, 618, 619, 620, 621, 622, 623, 624, 625, 626, 627, 628, 629, 630, 631, 632, 633, 634, 635] (by decide +kernel) (by decide +kernel)) (goodIn_sub (fun _ h => List.mem_append_left _ (List.mem_append_left _ (List.mem_append_right _ h))) (by decide +kernel))
set_option maxRecDepth 20000 in
theorem gL_law_L_faults : GoodIn wsL_law (va_wsS RL 161 yL_faults wsL_faults) := goodIn_app (goodIn_of _ (by decide +kernel)) ggL_law_L_faults
set_option maxRecDepth 20000 in
theorem ggL_law_X1_faults : GoodIn wsL_law wsX1_faults := goodIn_r _ [544, 51, 78, 79, 5, 80, 81, 82, 83, 84, 85, 86, 87, 88, 636, 637, 638, 639, 640, 641, 642, 643, 644, 645, 646, 647, 648, 649, 650, 651, 652, 653, 654] (by decide +kernel) (by decide +kernel)
set_option maxRecDepth 20000 in
theorem gL_law_X1_faults : GoodIn wsL_law (wsV RL 163 RX1 yX1_faults wsX1_faults) := goodIn_app (goodIn_of _ (by decide +kernel)) ggL_law_X1_faults
set_option maxRecDepth 20000 in
theorem ggL_law_X0_loans : GoodIn wsL_law wsX0_loans := goodIn_r _ [548, 29, 617, 618, 619, 620, 621, 622, 623, 624, 625, 626, 627, 628, 629, 630, 631, 632, 633, 634, 635] (by decide +kernel) (by decide +kernel)
set_option maxRecDepth 20000 in
theorem gL_law_X0_loans : GoodIn wsL_law (wsV RL 164 RX0 yX0_loans wsX0_loans) := goodIn_app (goodIn_of _ (by decide +kernel)) ggL_law_X0_loans
set_option maxRecDepth 20000 in
theorem ggL_law_X1_loans : GoodIn wsL_law wsX1_loans := goodIn_r _ [552, 88, 237, 636, 637, 638, 639, 640, 641, 642, 643, 644, 645, 646, 647, 648, 649, 650, 651, 652, 653, 654] (by decide +kernel) (by decide +kernel)
set_option maxRecDepth 20000 in
theorem gL_law_X1_loans : GoodIn wsL_law (wsV RL 167 RX1 yX1_loans wsX1_loans) := goodIn_app (goodIn_of _ (by decide +kernel)) ggL_law_X1_loans
set_option maxRecDepth 20000 in
theorem ggL_law_L_lasts : GoodIn wsL_law wsL_lasts := goodIn_ca (goodIn_r _ [555, 61, 556, 557, 558, 2, 559, 67, 68, 27, 302, 303, 304, 305, 29, 617, 618, 619, 620, 621, 622, 623, 624, 625, 626, 627, 628, 629, 630, 631, 632, 633, 634, 635] (by decide +kernel) (by decide +kernel)) (goodIn_sub (fun _ h => List.mem_append_left _ (List.mem_append_left _ (List.mem_append_right _ h))) (by decide +kernel))
set_option maxRecDepth 20000 in
theorem gL_law_L_lasts : GoodIn wsL_law (va_wsS RL 168 yL_lasts wsL_lasts) := goodIn_app (goodIn_of _ (by decide +kernel)) ggL_law_L_lasts
set_option maxRecDepth 20000 in
theorem ggL_law_X1_lasts : GoodIn wsL_law wsX1_lasts := goodIn_r _ [563, 310, 311, 312, 5, 313, 237, 81, 82, 83, 84, 85, 86, 87, 88, 246, 247, 248, 249, 47, 52, 636, 637, 638, 639, 640, 641, 642, 643, 644, 645, 646, 647, 648, 649, 650, 651, 652, 653, 654] (by decide +kernel) (by decide +kernel)
set_option maxRecDepth 20000 in
theorem gL_law_X1_lasts : GoodIn wsL_law (wsV RL 170 RX1 yX1_lasts wsX1_lasts) := goodIn_app (goodIn_of _ (by decide +kernel)) ggL_law_X1_lasts
set_option maxRecDepth 20000 in
theorem ggL_law_L_partiesOf : GoodIn wsL_law wsL_partiesOf := goodIn_ca (goodIn_r _ [566, 61, 567, 568, 569, 2, 570, 67, 68, 24, 25, 26, 302, 303, 304, 305, 29, 617, 618, 619, 620, 621, 622, 623, 624, 625, 626, 627, 628, 629, 630, 631, 632, 633, 634, 635] (by decide +kernel) (by decide +kernel)) (goodIn_sub (fun _ h => List.mem_append_left _ (List.mem_append_left _ (List.mem_append_right _ h))) (by decide +kernel))
set_option maxRecDepth 20000 in
theorem gL_law_L_partiesOf : GoodIn wsL_law (va_wsS RL 171 yL_partiesOf wsL_partiesOf) := goodIn_app (goodIn_of _ (by decide +kernel)) ggL_law_L_partiesOf
set_option maxRecDepth 20000 in
theorem ggL_law_X1_partiesOf : GoodIn wsL_law wsX1_partiesOf := goodIn_r _ [574, 52, 53, 54, 310, 311, 312, 5, 313, 237, 81, 82, 83, 84, 85, 86, 87, 88, 636, 637, 638, 639, 640, 641, 642, 643, 644, 645, 646, 647, 648, 649, 650, 651, 652, 653, 654] (by decide +kernel) (by decide +kernel)
set_option maxRecDepth 20000 in
theorem gL_law_X1_partiesOf : GoodIn wsL_law (wsV RL 173 RX1 yX1_partiesOf wsX1_partiesOf) := goodIn_app (goodIn_of _ (by decide +kernel)) ggL_law_X1_partiesOf
set_option maxRecDepth 20000 in
theorem ggL_law_L_interest : GoodIn wsL_law wsL_interest := goodIn_ca (goodIn_r _ [577, 61, 578, 579, 580, 2, 581, 67, 68, 28, 302, 303, 304, 305, 29, 617, 618, 619, 620, 621, 622, 623, 624, 625, 626, 627, 628, 629, 630, 631, 632, 633, 634, 635] (by decide +kernel) (by decide +kernel)) (goodIn_sub (fun _ h => List.mem_append_left _ (List.mem_append_left _ (List.mem_append_right _ h))) (by decide +kernel))
set_option maxRecDepth 20000 in
theorem gL_law_L_interest : GoodIn wsL_law (va_wsS RL 174 yL_interest wsL_interest) := goodIn_app (goodIn_of _ (by decide +kernel)) ggL_law_L_interest
set_option maxRecDepth 20000 in
theorem ggL_law_X1_interest : GoodIn wsL_law wsX1_interest := goodIn_r _ [585, 55, 310, 311, 312, 5, 313, 237, 81, 82, 83, 84, 85, 86, 87, 88, 636, 637, 638, 639, 640, 641, 642, 643, 644, 645, 646, 647, 648, 649, 650, 651, 652, 653, 654] (by decide +kernel) (by decide +kernel)
set_option maxRecDepth 20000 in
theorem gL_law_X1_interest : GoodIn wsL_law (wsV RL 176 RX1 yX1_interest wsX1_interest) := goodIn_app (goodIn_of _ (by decide +kernel)) ggL_law_X1_interest
set_option maxRecDepth 20000 in
theorem ggL_law_X0_head : GoodIn wsL_law wsX0_head := goodIn_r _ [589, 32, 617, 618, 619, 620, 621, 622, 623, 624, 625, 626, 627, 628, 629, 630, 631, 632, 633, 634, 635] (by decide +kernel) (by decide +kernel)
set_option maxRecDepth 20000 in
theorem gL_law_X0_head : GoodIn wsL_law (wsV RL 177 RX0 yX0_head wsX0_head) := goodIn_app (goodIn_of _ (by decide +kernel)) ggL_law_X0_head
set_option maxRecDepth 20000 in
theorem ggL_law_X1_head : GoodIn wsL_law wsX1_head := goodIn_r _ [593, 88, 395, 636, 637, 638, 639, 640, 641, 642, 643, 644, 645, 646, 647, 648, 649, 650, 651, 652, 653, 654] (by decide +kernel) (by decide +kernel)
set_option maxRecDepth 20000 in
theorem gL_law_X1_head : GoodIn wsL_law (wsV RL 180 RX1 yX1_head wsX1_head) := goodIn_app (goodIn_of _ (by decide +kernel)) ggL_law_X1_head
set_option maxRecDepth 20000 in
theorem ggL_law_X0_requests : GoodIn wsL_law wsX0_requests := goodIn_r _ [597, 188, 189, 190, 2, 191, 20, 22, 118, 119, 120, 617, 618, 619, 620, 621, 622, 623, 624, 625, 626, 627, 628, 629, 630, 631, 632, 633, 634, 635] (by decide +kernel) (by decide +kernel)
set_option maxRecDepth 20000 in
theorem gL_law_X0_requests : GoodIn wsL_law (wsV RL 181 RX0 yX0_requests wsX0_requests) := goodIn_app (goodIn_of _ (by decide +kernel)) ggL_law_X0_requests
set_option maxRecDepth 20000 in
theorem ggL_law_X1_requests : GoodIn wsL_law wsX1_requests := goodIn_r _ [601, 88, 250, 251, 252, 5, 253, 44, 45, 636, 637, 638, 639, 640, 641, 642, 643, 644, 645, 646, 647, 648, 649, 650, 651, 652, 653, 654] (by decide +kernel) (by decide +kernel)
set_option maxRecDepth 20000 in
theorem gL_law_X1_requests : GoodIn wsL_law (wsV RL 184 RX1 yX1_requests wsX1_requests) := goodIn_app (goodIn_of _ (by decide +kernel)) ggL_law_X1_requests
set_option maxRecDepth 20000 in
theorem ggL_law_L_requestAt : GoodIn wsL_law wsL_requestAt := goodIn_ca (goodIn_r _ [604, 61, 605, 606, 607, 2, 608, 67, 68, 609, 610, 611, 612, 188, 189, 190, 191, 20, 22, 118, 119, 120, 362, 363, 364, 365, 19, 617, 618, 619, 620, 621, 622, 623, 624, 625, 626, 627, 628, 629, 630, 631, 632, 633, 634, 635] (by decide +kernel) (by decide +kernel)) (goodIn_sub (fun _ h => List.mem_append_left _ (List.mem_append_left _ (List.mem_append_right _ h))) (by decide +kernel))
set_option maxRecDepth 20000 in
theorem gL_law_L_requestAt : GoodIn wsL_law (va_wsS RL 185 yL_requestAt wsL_requestAt) := goodIn_app (goodIn_of _ (by decide +kernel)) ggL_law_L_requestAt
set_option maxRecDepth 20000 in
theorem ggL_law_X1_requestAt : GoodIn wsL_law wsX1_requestAt := goodIn_r _ [616, 84, 85, 86, 5, 87, 88, 250, 251, 252, 253, 44, 45, 404, 405, 406, 407, 229, 230, 231, 232, 47, 43, 54, 636, 637, 638, 639, 640, 641, 642, 643, 644, 645, 646, 647, 648, 649, 650, 651, 652, 653, 654] (by decide +kernel) (by decide +kernel)
set_option maxRecDepth 20000 in
theorem gL_law_X1_requestAt : GoodIn wsL_law (wsV RL 187 RX1 yX1_requestAt wsX1_requestAt) := goodIn_app (goodIn_of _ (by decide +kernel)) ggL_law_X1_requestAt
theorem dL_law_0 : decode cL_law 0 = .ok (.new 8, 3) := by decide +kernel
theorem dL_law_3 : decode cL_law 3 = .ok (.dup, 1) := by decide +kernel
theorem dL_law_4 : decode cL_law 4 = .ok (.invokespecial 87, 3) := by decide +kernel
theorem dL_law_7 : decode cL_law 7 = .ok (.astore_n 1, 1) := by decide +kernel
theorem dL_law_8 : decode cL_law 8 = .ok (.new 88, 3) := by decide +kernel
theorem dL_law_11 : decode cL_law 11 = .ok (.dup, 1) := by decide +kernel
theorem dL_law_12 : decode cL_law 12 = .ok (.invokespecial 90, 3) := by decide +kernel
theorem dL_law_15 : decode cL_law 15 = .ok (.astore_n 2, 1) := by decide +kernel
theorem dL_law_16 : decode cL_law 16 = .ok (.iconst 1, 1) := by decide +kernel
theorem dL_law_17 : decode cL_law 17 = .ok (.newarray .long, 2) := by decide +kernel
theorem dL_law_19 : decode cL_law 19 = .ok (.astore_n 3, 1) := by decide +kernel
theorem dL_law_20 : decode cL_law 20 = .ok (.iconst 0, 1) := by decide +kernel
theorem dL_law_21 : decode cL_law 21 = .ok (.istore 4, 2) := by decide +kernel
theorem dL_law_23 : decode cL_law 23 = .ok (.iload 4, 2) := by decide +kernel
theorem dL_law_25 : decode cL_law 25 = .ok (.aload_n 0, 1) := by decide +kernel
theorem dL_law_26 : decode cL_law 26 = .ok (.arraylength, 1) := by decide +kernel
theorem dL_law_27 : decode cL_law 27 = .ok (.iconst 3, 1) := by decide +kernel
theorem dL_law_28 : decode cL_law 28 = .ok (.isub, 1) := by decide +kernel
theorem dL_law_29 : decode cL_law 29 = .ok (.if_icmp .gt 1525, 3) := by decide +kernel
theorem dL_law_32 : decode cL_law 32 = .ok (.aload_n 0, 1) := by decide +kernel
theorem dL_law_33 : decode cL_law 33 = .ok (.iload 4, 2) := by decide +kernel
theorem dL_law_35 : decode cL_law 35 = .ok (.iaload, 1) := by decide +kernel
theorem dL_law_36 : decode cL_law 36 = .ok (.bipush 31, 2) := by decide +kernel
theorem dL_law_38 : decode cL_law 38 = .ok (.iand, 1) := by decide +kernel
theorem dL_law_39 : decode cL_law 39 = .ok (.tableswitch 1509 0 27 #[125, 193, 249, 305, 361, 417, 485, 541, 597, 610, 666, 722, 778, 834, 890, 903, 959, 1015, 1071, 1127, 1183, 1239, 1252, 1315, 1371, 1427, 1440, 1453], 125) := by decide +kernel
theorem dL_law_164 : decode cL_law 164 = .ok (.aload_n 1, 1) := by decide +kernel
theorem dL_law_165 : decode cL_law 165 = .ok (.aload_n 0, 1) := by decide +kernel
theorem dL_law_166 : decode cL_law 166 = .ok (.iload 4, 2) := by decide +kernel
theorem dL_law_168 : decode cL_law 168 = .ok (.iconst 1, 1) := by decide +kernel
theorem dL_law_169 : decode cL_law 169 = .ok (.iadd, 1) := by decide +kernel
theorem dL_law_170 : decode cL_law 170 = .ok (.iaload, 1) := by decide +kernel
theorem dL_law_171 : decode cL_law 171 = .ok (.aload_n 0, 1) := by decide +kernel
theorem dL_law_172 : decode cL_law 172 = .ok (.iload 4, 2) := by decide +kernel
theorem dL_law_174 : decode cL_law 174 = .ok (.iconst 2, 1) := by decide +kernel
theorem dL_law_175 : decode cL_law 175 = .ok (.iadd, 1) := by decide +kernel
theorem dL_law_176 : decode cL_law 176 = .ok (.iaload, 1) := by decide +kernel
theorem dL_law_177 : decode cL_law 177 = .ok (.aload_n 3, 1) := by decide +kernel
theorem dL_law_178 : decode cL_law 178 = .ok (.invokestatic 91, 3) := by decide +kernel
theorem dL_law_181 : decode cL_law 181 = .ok (.istore 5, 2) := by decide +kernel
theorem dL_law_183 : decode cL_law 183 = .ok (.aload_n 2, 1) := by decide +kernel
theorem dL_law_184 : decode cL_law 184 = .ok (.aload_n 0, 1) := by decide +kernel
theorem dL_law_185 : decode cL_law 185 = .ok (.iload 4, 2) := by decide +kernel
theorem dL_law_187 : decode cL_law 187 = .ok (.iconst 1, 1) := by decide +kernel
theorem dL_law_188 : decode cL_law 188 = .ok (.iadd, 1) := by decide +kernel
theorem dL_law_189 : decode cL_law 189 = .ok (.iaload, 1) := by decide +kernel
theorem dL_law_190 : decode cL_law 190 = .ok (.aload_n 0, 1) := by decide +kernel
theorem dL_law_191 : decode cL_law 191 = .ok (.iload 4, 2) := by decide +kernel
theorem dL_law_193 : decode cL_law 193 = .ok (.iconst 2, 1) := by decide +kernel
theorem dL_law_194 : decode cL_law 194 = .ok (.iadd, 1) := by decide +kernel
theorem dL_law_195 : decode cL_law 195 = .ok (.iaload, 1) := by decide +kernel
theorem dL_law_196 : decode cL_law 196 = .ok (.invokevirtual 96, 3) := by decide +kernel
theorem dL_law_199 : decode cL_law 199 = .ok (.istore 6, 2) := by decide +kernel
theorem dL_law_201 : decode cL_law 201 = .ok (.aload_n 2, 1) := by decide +kernel
theorem dL_law_202 : decode cL_law 202 = .ok (.invokevirtual 97, 3) := by decide +kernel
theorem dL_law_205 : decode cL_law 205 = .ok (.iload 5, 2) := by decide +kernel
theorem dL_law_207 : decode cL_law 207 = .ok (.if_icmp .eq 5, 3) := by decide +kernel
theorem dL_law_210 : decode cL_law 210 = .ok (.iconst 0, 1) := by decide +kernel
theorem dL_law_211 : decode cL_law 211 = .ok (.ireturn, 1) := by decide +kernel
theorem dL_law_212 : decode cL_law 212 = .ok (.iload 5, 2) := by decide +kernel
theorem dL_law_214 : decode cL_law 214 = .ok (.ifCond .ne 15, 3) := by decide +kernel
theorem dL_law_217 : decode cL_law 217 = .ok (.aload_n 3, 1) := by decide +kernel
theorem dL_law_218 : decode cL_law 218 = .ok (.iconst 0, 1) := by decide +kernel
theorem dL_law_219 : decode cL_law 219 = .ok (.laload, 1) := by decide +kernel
theorem dL_law_220 : decode cL_law 220 = .ok (.iload 6, 2) := by decide +kernel
theorem dL_law_222 : decode cL_law 222 = .ok (.i2l, 1) := by decide +kernel
theorem dL_law_223 : decode cL_law 223 = .ok (.lcmp, 1) := by decide +kernel
theorem dL_law_224 : decode cL_law 224 = .ok (.ifCond .eq 5, 3) := by decide +kernel
theorem dL_law_227 : decode cL_law 227 = .ok (.iconst 0, 1) := by decide +kernel
theorem dL_law_228 : decode cL_law 228 = .ok (.ireturn, 1) := by decide +kernel
theorem dL_law_229 : decode cL_law 229 = .ok (.goto 1319, 3) := by decide +kernel
theorem dL_law_232 : decode cL_law 232 = .ok (.aload_n 1, 1) := by decide +kernel
theorem dL_law_233 : decode cL_law 233 = .ok (.aload_n 0, 1) := by decide +kernel
theorem dL_law_234 : decode cL_law 234 = .ok (.iload 4, 2) := by decide +kernel
theorem dL_law_236 : decode cL_law 236 = .ok (.iconst 1, 1) := by decide +kernel
theorem dL_law_237 : decode cL_law 237 = .ok (.iadd, 1) := by decide +kernel
theorem dL_law_238 : decode cL_law 238 = .ok (.iaload, 1) := by decide +kernel
theorem dL_law_239 : decode cL_law 239 = .ok (.aload_n 3, 1) := by decide +kernel
theorem dL_law_240 : decode cL_law 240 = .ok (.invokestatic 101, 3) := by decide +kernel
theorem dL_law_243 : decode cL_law 243 = .ok (.istore 5, 2) := by decide +kernel
theorem dL_law_245 : decode cL_law 245 = .ok (.aload_n 2, 1) := by decide +kernel
theorem dL_law_246 : decode cL_law 246 = .ok (.aload_n 0, 1) := by decide +kernel
theorem dL_law_247 : decode cL_law 247 = .ok (.iload 4, 2) := by decide +kernel
theorem dL_law_249 : decode cL_law 249 = .ok (.iconst 1, 1) := by decide +kernel
theorem dL_law_250 : decode cL_law 250 = .ok (.iadd, 1) := by decide +kernel
theorem dL_law_251 : decode cL_law 251 = .ok (.iaload, 1) := by decide +kernel
theorem dL_law_252 : decode cL_law 252 = .ok (.invokevirtual 104, 3) := by decide +kernel
theorem dL_law_255 : decode cL_law 255 = .ok (.istore 6, 2) := by decide +kernel
theorem dL_law_257 : decode cL_law 257 = .ok (.aload_n 2, 1) := by decide +kernel
theorem dL_law_258 : decode cL_law 258 = .ok (.invokevirtual 97, 3) := by decide +kernel
theorem dL_law_261 : decode cL_law 261 = .ok (.iload 5, 2) := by decide +kernel
theorem dL_law_263 : decode cL_law 263 = .ok (.if_icmp .eq 5, 3) := by decide +kernel
theorem dL_law_266 : decode cL_law 266 = .ok (.iconst 0, 1) := by decide +kernel
theorem dL_law_267 : decode cL_law 267 = .ok (.ireturn, 1) := by decide +kernel
theorem dL_law_268 : decode cL_law 268 = .ok (.iload 5, 2) := by decide +kernel
theorem dL_law_270 : decode cL_law 270 = .ok (.ifCond .ne 15, 3) := by decide +kernel
theorem dL_law_273 : decode cL_law 273 = .ok (.aload_n 3, 1) := by decide +kernel
theorem dL_law_274 : decode cL_law 274 = .ok (.iconst 0, 1) := by decide +kernel
theorem dL_law_275 : decode cL_law 275 = .ok (.laload, 1) := by decide +kernel
theorem dL_law_276 : decode cL_law 276 = .ok (.iload 6, 2) := by decide +kernel
theorem dL_law_278 : decode cL_law 278 = .ok (.i2l, 1) := by decide +kernel
theorem dL_law_279 : decode cL_law 279 = .ok (.lcmp, 1) := by decide +kernel
theorem dL_law_280 : decode cL_law 280 = .ok (.ifCond .eq 5, 3) := by decide +kernel
theorem dL_law_283 : decode cL_law 283 = .ok (.iconst 0, 1) := by decide +kernel
theorem dL_law_284 : decode cL_law 284 = .ok (.ireturn, 1) := by decide +kernel
theorem dL_law_285 : decode cL_law 285 = .ok (.goto 1263, 3) := by decide +kernel
theorem dL_law_288 : decode cL_law 288 = .ok (.aload_n 1, 1) := by decide +kernel
theorem dL_law_289 : decode cL_law 289 = .ok (.aload_n 0, 1) := by decide +kernel
theorem dL_law_290 : decode cL_law 290 = .ok (.iload 4, 2) := by decide +kernel
theorem dL_law_292 : decode cL_law 292 = .ok (.iconst 1, 1) := by decide +kernel
theorem dL_law_293 : decode cL_law 293 = .ok (.iadd, 1) := by decide +kernel
theorem dL_law_294 : decode cL_law 294 = .ok (.iaload, 1) := by decide +kernel
theorem dL_law_295 : decode cL_law 295 = .ok (.aload_n 3, 1) := by decide +kernel
theorem dL_law_296 : decode cL_law 296 = .ok (.invokestatic 105, 3) := by decide +kernel
theorem dL_law_299 : decode cL_law 299 = .ok (.istore 5, 2) := by decide +kernel
theorem dL_law_301 : decode cL_law 301 = .ok (.aload_n 2, 1) := by decide +kernel
theorem dL_law_302 : decode cL_law 302 = .ok (.aload_n 0, 1) := by decide +kernel
theorem dL_law_303 : decode cL_law 303 = .ok (.iload 4, 2) := by decide +kernel
theorem dL_law_305 : decode cL_law 305 = .ok (.iconst 1, 1) := by decide +kernel
theorem dL_law_306 : decode cL_law 306 = .ok (.iadd, 1) := by decide +kernel

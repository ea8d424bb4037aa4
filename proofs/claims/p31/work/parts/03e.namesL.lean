theorem dL_dice_0 : decode cL_dice 0 = .ok (.iload_n 1, 1) := by decide +kernel
theorem dL_dice_1 : decode cL_dice 1 = .ok (.aload_n 0, 1) := by decide +kernel
theorem dL_dice_2 : decode cL_dice 2 = .ok (.arraylength, 1) := by decide +kernel
theorem dL_dice_3 : decode cL_dice 3 = .ok (.if_icmp .ge 9, 3) := by decide +kernel
theorem dL_dice_6 : decode cL_dice 6 = .ok (.aload_n 0, 1) := by decide +kernel
theorem dL_dice_7 : decode cL_dice 7 = .ok (.iload_n 1, 1) := by decide +kernel
theorem dL_dice_8 : decode cL_dice 8 = .ok (.iaload, 1) := by decide +kernel
theorem dL_dice_9 : decode cL_dice 9 = .ok (.goto 23, 3) := by decide +kernel
theorem dL_dice_32 : decode cL_dice 32 = .ok (.ldc 8, 2) := by decide +kernel
theorem dL_dice_34 : decode cL_dice 34 = .ok (.iand, 1) := by decide +kernel
theorem dL_dice_35 : decode cL_dice 35 = .ok (.ireturn, 1) := by decide +kernel
set_option maxRecDepth 20000 in
theorem ggL_act_X0_setWage : GoodIn wsL_act wsX0_setWage := goodIn_ca (goodIn_ca (goodIn_r _ [8, 9, 10, 11, 12, 13, 14, 15, 7, 16, 176, 177, 178, 179, 180, 181, 182, 183, 184, 185, 186, 187, 188, 189, 190, 191, 192, 193, 194] (by decide +kernel) (by decide +kernel)) (goodIn_sub (fun _ h => List.mem_cons_of_mem _ (List.mem_append_left _ (List.mem_append_left _ (List.mem_append_right _ h)))) (by decide +kernel))) (goodIn_sub (fun _ h => List.mem_cons_of_mem _ (List.mem_append_left _ (List.mem_append_right _ h))) (by decide +kernel))
set_option maxRecDepth 20000 in
theorem gL_act_X0_setWage : GoodIn wsL_act (wsV RL 9 RX0 yX0_setWage wsX0_setWage) := goodIn_app (goodIn_of _ (by decide +kernel)) ggL_act_X0_setWage
set_option maxRecDepth 20000 in
theorem ggL_act_X0_setRate : GoodIn wsL_act wsX0_setRate := goodIn_ca (goodIn_r _ [20, 11, 12, 21, 176, 177, 178, 179, 180, 181, 182, 183, 184, 185, 186, 187, 188, 189, 190, 191, 192, 193, 194] (by decide +kernel) (by decide +kernel)) (goodIn_sub (fun _ h => List.mem_cons_of_mem _ (List.mem_append_left _ (List.mem_append_right _ h))) (by decide +kernel))
set_option maxRecDepth 20000 in
theorem gL_act_X0_setRate : GoodIn wsL_act (wsV RL 15 RX0 yX0_setRate wsX0_setRate) := goodIn_app (goodIn_of _ (by decide +kernel)) ggL_act_X0_setRate
set_option maxRecDepth 20000 in
theorem ggL_act_X0_buy : GoodIn wsL_act wsX0_buy := goodIn_ca (goodIn_ca (goodIn_r _ [25, 9, 10, 26, 27, 28, 29, 30, 31, 14, 15, 7, 16, 32, 33, 34, 35, 36, 37, 38, 39, 176, 177, 178, 179, 180, 181, 182, 183, 184, 185, 186, 187, 188, 189, 190, 191, 192, 193, 194] (by decide +kernel) (by decide +kernel)) (goodIn_sub (fun _ h => List.mem_cons_of_mem _ (List.mem_append_left _ (List.mem_append_left _ (List.mem_append_right _ h)))) (by decide +kernel))) (goodIn_sub (fun _ h => List.mem_cons_of_mem _ (List.mem_append_right _ h)) (by decide +kernel))
set_option maxRecDepth 20000 in
theorem gL_act_X0_buy : GoodIn wsL_act (wsV RL 19 RX0 yX0_buy wsX0_buy) := goodIn_app (goodIn_of _ (by decide +kernel)) ggL_act_X0_buy
set_option maxRecDepth 20000 in
theorem ggL_act_X0_sell : GoodIn wsL_act wsX0_sell := goodIn_ca (goodIn_ca (goodIn_r _ [43, 9, 10, 26, 27, 30, 31, 36, 28, 29, 37, 38, 7, 39, 14, 15, 16, 176, 177, 178, 179, 180, 181, 182, 183, 184, 185, 186, 187, 188, 189, 190, 191, 192, 193, 194] (by decide +kernel) (by decide +kernel)) (goodIn_sub (fun _ h => List.mem_cons_of_mem _ (List.mem_append_left _ (List.mem_append_left _ (List.mem_append_right _ h)))) (by decide +kernel))) (goodIn_sub (fun _ h => List.mem_cons_of_mem _ (List.mem_append_right _ h)) (by decide +kernel))
set_option maxRecDepth 20000 in
theorem gL_act_X0_sell : GoodIn wsL_act (wsV RL 22 RX0 yX0_sell wsX0_sell) := goodIn_app (goodIn_of _ (by decide +kernel)) ggL_act_X0_sell
set_option maxRecDepth 20000 in
theorem ggL_act_X0_drop : GoodIn wsL_act wsX0_drop := goodIn_ca (goodIn_ca (goodIn_r _ [47, 9, 10, 26, 27, 48, 36, 37, 38, 7, 39, 49, 50, 51, 52, 53, 176, 177, 178, 179, 180, 181, 182, 183, 184, 185, 186, 187, 188, 189, 190, 191, 192, 193, 194] (by decide +kernel) (by decide +kernel)) (goodIn_sub (fun _ h => List.mem_cons_of_mem _ (List.mem_append_left _ (List.mem_append_left _ (List.mem_append_right _ h)))) (by decide +kernel))) (goodIn_sub (fun _ h => List.mem_cons_of_mem _ (List.mem_append_right _ h)) (by decide +kernel))
set_option maxRecDepth 20000 in
theorem gL_act_X0_drop : GoodIn wsL_act (wsV RL 25 RX0 yX0_drop wsX0_drop) := goodIn_app (goodIn_of _ (by decide +kernel)) ggL_act_X0_drop
set_option maxRecDepth 20000 in
theorem ggL_act_X0_touch : GoodIn wsL_act wsX0_touch := goodIn_ca (goodIn_ca (goodIn_r _ [57, 9, 10, 26, 27, 28, 58, 59, 36, 48, 60, 14, 15, 7, 16, 61, 62, 63, 64, 65, 66, 67, 31, 37, 38, 39, 68, 69, 70, 71, 32, 33, 34, 35, 72, 73, 74, 75, 76, 77, 78, 79, 80, 81, 82, 83, 84, 85, 86, 87, 30, 49, 50, 51, 52, 53, 88, 89, 90, 91, 29, 21, 92, 93, 94, 95, 96, 97, 98, 99, 100, 101, 102, 103, 104, 105, 106, 107, 108, 109, 110, 111, 112, 176, 177, 178, 179, 180, 181, 182, 183, 184, 185, 186, 187, 188, 189, 190, 191, 192, 193, 194] (by decide +kernel) (by decide +kernel)) (goodIn_sub (fun _ h => List.mem_cons_of_mem _ (List.mem_append_left _ (List.mem_append_left _ (List.mem_append_right _ h)))) (by decide +kernel))) (goodIn_sub (fun _ h => List.mem_cons_of_mem _ (List.mem_append_right _ h)) (by decide +kernel))
set_option maxRecDepth 20000 in
theorem gL_act_X0_touch : GoodIn wsL_act (wsV RL 28 RX0 yX0_touch wsX0_touch) := goodIn_app (goodIn_of _ (by decide +kernel)) ggL_act_X0_touch
set_option maxRecDepth 20000 in
theorem ggL_act_X0_payBack : GoodIn wsL_act wsX0_payBack := goodIn_ca (goodIn_ca (goodIn_r _ [116, 9, 10, 26, 27, 77, 79, 78, 117, 118, 119, 7, 120, 76, 80, 81, 82, 83, 36, 48, 37, 38, 39, 84, 85, 86, 87, 31, 30, 49, 50, 51, 52, 53, 176, 177, 178, 179, 180, 181, 182, 183, 184, 185, 186, 187, 188, 189, 190, 191, 192, 193, 194] (by decide +kernel) (by decide +kernel)) (goodIn_sub (fun _ h => List.mem_cons_of_mem _ (List.mem_append_left _ (List.mem_append_left _ (List.mem_append_right _ h)))) (by decide +kernel))) (goodIn_sub (fun _ h => List.mem_cons_of_mem _ (List.mem_append_right _ h)) (by decide +kernel))
set_option maxRecDepth 20000 in
theorem gL_act_X0_payBack : GoodIn wsL_act (wsV RL 31 RX0 yX0_payBack wsX0_payBack) := goodIn_app (goodIn_of _ (by decide +kernel)) ggL_act_X0_payBack
set_option maxRecDepth 20000 in
theorem ggL_act_X0_advance : GoodIn wsL_act wsX0_advance := goodIn_ca (goodIn_ca (goodIn_r _ [124, 11, 12, 26, 27, 59, 125, 126, 127, 128, 7, 129, 130, 131, 132, 133, 28, 29, 13, 134, 135, 136, 137, 76, 77, 138, 139, 140, 141, 92, 78, 21, 142, 14, 15, 16, 143, 144, 145, 146, 31, 80, 81, 82, 83, 36, 48, 37, 38, 39, 49, 50, 51, 52, 53, 84, 85, 86, 87, 79, 30, 147, 148, 149, 150, 151, 152, 153, 154, 155, 156, 157, 158, 159, 160, 161, 162, 163, 164, 165, 166, 167, 168, 169, 170, 171, 172, 173, 174, 175, 58, 176, 177, 178, 179, 180, 181, 182, 183, 184, 185, 186, 187, 188, 189, 190, 191, 192, 193, 194] (by decide +kernel) (by decide +kernel)) (goodIn_sub (fun _ h => List.mem_cons_of_mem _ (List.mem_append_left _ (List.mem_append_right _ h))) (by decide +kernel))) (goodIn_sub (fun _ h => List.mem_cons_of_mem _ (List.mem_append_right _ h)) (by decide +kernel))
set_option maxRecDepth 20000 in
theorem gL_act_X0_advance : GoodIn wsL_act (wsV RL 34 RX0 yX0_advance wsX0_advance) := goodIn_app (goodIn_of _ (by decide +kernel)) ggL_act_X0_advance
theorem dL_act_0 : decode cL_act 0 = .ok (.iload_n 1, 1) := by decide +kernel
theorem dL_act_1 : decode cL_act 1 = .ok (.ifCond .ne 12, 3) := by decide +kernel
theorem dL_act_4 : decode cL_act 4 = .ok (.aload_n 0, 1) := by decide +kernel
theorem dL_act_5 : decode cL_act 5 = .ok (.iload_n 2, 1) := by decide +kernel
theorem dL_act_6 : decode cL_act 6 = .ok (.iload_n 3, 1) := by decide +kernel
theorem dL_act_7 : decode cL_act 7 = .ok (.invokevirtual 9, 3) := by decide +kernel
theorem dL_act_13 : decode cL_act 13 = .ok (.iload_n 1, 1) := by decide +kernel
theorem dL_act_14 : decode cL_act 14 = .ok (.iconst 1, 1) := by decide +kernel
theorem dL_act_15 : decode cL_act 15 = .ok (.if_icmp .ne 11, 3) := by decide +kernel
theorem dL_act_18 : decode cL_act 18 = .ok (.aload_n 0, 1) := by decide +kernel
theorem dL_act_19 : decode cL_act 19 = .ok (.iload_n 2, 1) := by decide +kernel
theorem dL_act_20 : decode cL_act 20 = .ok (.invokevirtual 15, 3) := by decide +kernel
theorem dL_act_26 : decode cL_act 26 = .ok (.iload_n 1, 1) := by decide +kernel
theorem dL_act_27 : decode cL_act 27 = .ok (.iconst 2, 1) := by decide +kernel
theorem dL_act_28 : decode cL_act 28 = .ok (.if_icmp .ne 11, 3) := by decide +kernel
theorem dL_act_31 : decode cL_act 31 = .ok (.aload_n 0, 1) := by decide +kernel
theorem dL_act_32 : decode cL_act 32 = .ok (.iload_n 2, 1) := by decide +kernel
theorem dL_act_33 : decode cL_act 33 = .ok (.invokevirtual 19, 3) := by decide +kernel
theorem dL_act_39 : decode cL_act 39 = .ok (.iload_n 1, 1) := by decide +kernel
theorem dL_act_40 : decode cL_act 40 = .ok (.iconst 3, 1) := by decide +kernel
theorem dL_act_41 : decode cL_act 41 = .ok (.if_icmp .ne 11, 3) := by decide +kernel
theorem dL_act_44 : decode cL_act 44 = .ok (.aload_n 0, 1) := by decide +kernel
theorem dL_act_45 : decode cL_act 45 = .ok (.iload_n 2, 1) := by decide +kernel
theorem dL_act_46 : decode cL_act 46 = .ok (.invokevirtual 22, 3) := by decide +kernel
theorem dL_act_52 : decode cL_act 52 = .ok (.iload_n 1, 1) := by decide +kernel
theorem dL_act_53 : decode cL_act 53 = .ok (.iconst 4, 1) := by decide +kernel
theorem dL_act_54 : decode cL_act 54 = .ok (.if_icmp .ne 11, 3) := by decide +kernel
theorem dL_act_57 : decode cL_act 57 = .ok (.aload_n 0, 1) := by decide +kernel
theorem dL_act_58 : decode cL_act 58 = .ok (.iload_n 2, 1) := by decide +kernel
theorem dL_act_59 : decode cL_act 59 = .ok (.invokevirtual 25, 3) := by decide +kernel
theorem dL_act_65 : decode cL_act 65 = .ok (.iload_n 1, 1) := by decide +kernel
theorem dL_act_66 : decode cL_act 66 = .ok (.iconst 5, 1) := by decide +kernel
theorem dL_act_67 : decode cL_act 67 = .ok (.if_icmp .ne 12, 3) := by decide +kernel
theorem dL_act_70 : decode cL_act 70 = .ok (.aload_n 0, 1) := by decide +kernel
theorem dL_act_71 : decode cL_act 71 = .ok (.iload_n 2, 1) := by decide +kernel
theorem dL_act_72 : decode cL_act 72 = .ok (.iload_n 3, 1) := by decide +kernel
theorem dL_act_73 : decode cL_act 73 = .ok (.invokevirtual 28, 3) := by decide +kernel
theorem dL_act_79 : decode cL_act 79 = .ok (.iload_n 1, 1) := by decide +kernel
theorem dL_act_80 : decode cL_act 80 = .ok (.bipush 6, 2) := by decide +kernel
theorem dL_act_82 : decode cL_act 82 = .ok (.if_icmp .ne 11, 3) := by decide +kernel
theorem dL_act_85 : decode cL_act 85 = .ok (.aload_n 0, 1) := by decide +kernel
theorem dL_act_86 : decode cL_act 86 = .ok (.iload_n 2, 1) := by decide +kernel
theorem dL_act_87 : decode cL_act 87 = .ok (.invokevirtual 31, 3) := by decide +kernel
theorem dL_act_93 : decode cL_act 93 = .ok (.aload_n 0, 1) := by decide +kernel
theorem dL_act_94 : decode cL_act 94 = .ok (.iload_n 2, 1) := by decide +kernel
theorem dL_act_95 : decode cL_act 95 = .ok (.invokevirtual 34, 3) := by decide +kernel
theorem dL_act_99 : decode cL_act 99 = .ok (.astore 4, 2) := by decide +kernel
theorem dL_act_101 : decode cL_act 101 = .ok (.sipush (-1211), 3) := by decide +kernel
theorem dL_act_104 : decode cL_act 104 = .ok (.ireturn, 1) := by decide +kernel
theorem dL_act_105 : decode cL_act 105 = .ok (.astore 4, 2) := by decide +kernel
theorem dL_act_107 : decode cL_act 107 = .ok (.sipush (-1212), 3) := by decide +kernel
theorem dL_act_110 : decode cL_act 110 = .ok (.ireturn, 1) := by decide +kernel
theorem dL_act_111 : decode cL_act 111 = .ok (.astore 4, 2) := by decide +kernel
theorem dL_act_113 : decode cL_act 113 = .ok (.sipush (-1213), 3) := by decide +kernel
theorem dL_act_116 : decode cL_act 116 = .ok (.ireturn, 1) := by decide +kernel
set_option maxRecDepth 20000 in
theorem ggL_of_X0_owner : GoodIn wsL_of wsX0_owner := goodIn_ca (goodIn_r _ [6, 7, 8, 9, 10, 11, 5, 12, 110, 111, 112, 113, 114, 115, 116, 117, 118, 119, 120, 121, 122, 123, 124, 125, 126, 127, 128] (by decide +kernel) (by decide +kernel)) (goodIn_sub (fun _ h => List.mem_cons_of_mem _ (List.mem_append_right _ h)) (by decide +kernel))
set_option maxRecDepth 20000 in
theorem gL_of_X0_owner : GoodIn wsL_of (wsV RL 43 RX0 yX0_owner wsX0_owner) := goodIn_app (goodIn_of _ (by decide +kernel)) ggL_of_X0_owner
set_option maxRecDepth 20000 in
theorem ggL_of_X0_holder : GoodIn wsL_of wsX0_holder := goodIn_ca (goodIn_r _ [16, 7, 8, 17, 10, 11, 5, 12, 110, 111, 112, 113, 114, 115, 116, 117, 118, 119, 120, 121, 122, 123, 124, 125, 126, 127, 128] (by decide +kernel) (by decide +kernel)) (goodIn_sub (fun _ h => List.mem_cons_of_mem _ (List.mem_append_right _ h)) (by decide +kernel))
set_option maxRecDepth 20000 in
theorem gL_of_X0_holder : GoodIn wsL_of (wsV RL 46 RX0 yX0_holder wsX0_holder) := goodIn_app (goodIn_of _ (by decide +kernel)) ggL_of_X0_holder
set_option maxRecDepth 20000 in
theorem ggL_of_X0_holderByLog : GoodIn wsL_of wsX0_holderByLog := goodIn_ca (goodIn_r _ [21, 7, 8, 22, 23, 24, 25, 9, 10, 11, 5, 12, 110, 111, 112, 113, 114, 115, 116, 117, 118, 119, 120, 121, 122, 123, 124, 125, 126, 127, 128] (by decide +kernel) (by decide +kernel)) (goodIn_sub (fun _ h => List.mem_cons_of_mem _ (List.mem_append_right _ h)) (by decide +kernel))
set_option maxRecDepth 20000 in
theorem gL_of_X0_holderByLog : GoodIn wsL_of (wsV RL 49 RX0 yX0_holderByLog wsX0_holderByLog) := goodIn_app (goodIn_of _ (by decide +kernel)) ggL_of_X0_holderByLog
set_option maxRecDepth 20000 in
theorem ggL_of_X0_pageIn : GoodIn wsL_of wsX0_pageIn := goodIn_ca (goodIn_r _ [29, 7, 8, 30, 10, 11, 5, 12, 110, 111, 112, 113, 114, 115, 116, 117, 118, 119, 120, 121, 122, 123, 124, 125, 126, 127, 128] (by decide +kernel) (by decide +kernel)) (goodIn_sub (fun _ h => List.mem_cons_of_mem _ (List.mem_append_right _ h)) (by decide +kernel))
set_option maxRecDepth 20000 in
theorem gL_of_X0_pageIn : GoodIn wsL_of (wsV RL 52 RX0 yX0_pageIn wsX0_pageIn) := goodIn_app (goodIn_of _ (by decide +kernel)) ggL_of_X0_pageIn
set_option maxRecDepth 20000 in
theorem ggL_of_X0_age : GoodIn wsL_of wsX0_age := goodIn_ca (goodIn_r _ [34, 7, 8, 10, 11, 5, 12, 35, 36, 37, 38, 39, 40, 41, 110, 111, 112, 113, 114, 115, 116, 117, 118, 119, 120, 121, 122, 123, 124, 125, 126, 127, 128] (by decide +kernel) (by decide +kernel)) (goodIn_sub (fun _ h => List.mem_cons_of_mem _ (List.mem_append_right _ h)) (by decide +kernel))
set_option maxRecDepth 20000 in
theorem gL_of_X0_age : GoodIn wsL_of (wsV RL 55 RX0 yX0_age wsX0_age) := goodIn_app (goodIn_of _ (by decide +kernel)) ggL_of_X0_age
set_option maxRecDepth 20000 in
theorem ggL_of_X0_owns : GoodIn wsL_of wsX0_owns := goodIn_ca (goodIn_r _ [45, 7, 8, 9, 46, 47, 5, 48, 110, 111, 112, 113, 114, 115, 116, 117, 118, 119, 120, 121, 122, 123, 124, 125, 126, 127, 128] (by decide +kernel) (by decide +kernel)) (goodIn_sub (fun _ h => List.mem_cons_of_mem _ (List.mem_append_right _ h)) (by decide +kernel))
set_option maxRecDepth 20000 in
theorem gL_of_X0_owns : GoodIn wsL_of (wsV RL 58 RX0 yX0_owns wsX0_owns) := goodIn_app (goodIn_of _ (by decide +kernel)) ggL_of_X0_owns
set_option maxRecDepth 20000 in
theorem ggL_of_X0_borrowed : GoodIn wsL_of wsX0_borrowed := goodIn_ca (goodIn_r _ [52, 7, 8, 46, 47, 5, 48, 53, 54, 55, 56, 17, 9, 110, 111, 112, 113, 114, 115, 116, 117, 118, 119, 120, 121, 122, 123, 124, 125, 126, 127, 128] (by decide +kernel) (by decide +kernel)) (goodIn_sub (fun _ h => List.mem_cons_of_mem _ (List.mem_append_right _ h)) (by decide +kernel))
set_option maxRecDepth 20000 in
theorem gL_of_X0_borrowed : GoodIn wsL_of (wsV RL 61 RX0 yX0_borrowed wsX0_borrowed) := goodIn_app (goodIn_of _ (by decide +kernel)) ggL_of_X0_borrowed
set_option maxRecDepth 20000 in
theorem ggL_of_X0_lent : GoodIn wsL_of wsX0_lent := goodIn_ca (goodIn_r _ [60, 7, 8, 9, 17, 46, 47, 5, 48, 110, 111, 112, 113, 114, 115, 116, 117, 118, 119, 120, 121, 122, 123, 124, 125, 126, 127, 128] (by decide +kernel) (by decide +kernel)) (goodIn_sub (fun _ h => List.mem_cons_of_mem _ (List.mem_append_right _ h)) (by decide +kernel))
set_option maxRecDepth 20000 in
theorem gL_of_X0_lent : GoodIn wsL_of (wsV RL 64 RX0 yX0_lent wsX0_lent) := goodIn_app (goodIn_of _ (by decide +kernel)) ggL_of_X0_lent
set_option maxRecDepth 20000 in
theorem ggL_of_X0_stateOf : GoodIn wsL_of wsX0_stateOf := goodIn_ca (goodIn_r _ [64, 7, 8, 65, 46, 47, 5, 48, 110, 111, 112, 113, 114, 115, 116, 117, 118, 119, 120, 121, 122, 123, 124, 125, 126, 127, 128] (by decide +kernel) (by decide +kernel)) (goodIn_sub (fun _ h => List.mem_cons_of_mem _ (List.mem_append_right _ h)) (by decide +kernel))
set_option maxRecDepth 20000 in
theorem gL_of_X0_stateOf : GoodIn wsL_of (wsV RL 67 RX0 yX0_stateOf wsX0_stateOf) := goodIn_app (goodIn_of _ (by decide +kernel)) ggL_of_X0_stateOf
set_option maxRecDepth 20000 in
theorem ggL_of_X0_purse : GoodIn wsL_of wsX0_purse := goodIn_ca (goodIn_r _ [69, 7, 8, 70, 46, 47, 5, 48, 110, 111, 112, 113, 114, 115, 116, 117, 118, 119, 120, 121, 122, 123, 124, 125, 126, 127, 128] (by decide +kernel) (by decide +kernel)) (goodIn_sub (fun _ h => List.mem_cons_of_mem _ (List.mem_append_right _ h)) (by decide +kernel))
set_option maxRecDepth 20000 in
theorem gL_of_X0_purse : GoodIn wsL_of (wsV RL 70 RX0 yX0_purse wsX0_purse) := goodIn_app (goodIn_of _ (by decide +kernel)) ggL_of_X0_purse
set_option maxRecDepth 20000 in
theorem ggL_of_X0_faults : GoodIn wsL_of wsX0_faults := goodIn_ca (goodIn_r _ [74, 7, 8, 75, 46, 47, 5, 48, 110, 111, 112, 113, 114, 115, 116, 117, 118, 119, 120, 121, 122, 123, 124, 125, 126, 127, 128] (by decide +kernel) (by decide +kernel)) (goodIn_sub (fun _ h => List.mem_cons_of_mem _ (List.mem_append_right _ h)) (by decide +kernel))
set_option maxRecDepth 20000 in
theorem gL_of_X0_faults : GoodIn wsL_of (wsV RL 73 RX0 yX0_faults wsX0_faults) := goodIn_app (goodIn_of _ (by decide +kernel)) ggL_of_X0_faults
set_option maxRecDepth 20000 in
theorem ggL_of_X0_lasts : GoodIn wsL_of wsX0_lasts := goodIn_ca (goodIn_r _ [79, 7, 8, 23, 80, 81, 82, 5, 83, 22, 110, 111, 112, 113, 114, 115, 116, 117, 118, 119, 120, 121, 122, 123, 124, 125, 126, 127, 128] (by decide +kernel) (by decide +kernel)) (goodIn_sub (fun _ h => List.mem_cons_of_mem _ (List.mem_append_right _ h)) (by decide +kernel))
set_option maxRecDepth 20000 in
theorem gL_of_X0_lasts : GoodIn wsL_of (wsV RL 76 RX0 yX0_lasts wsX0_lasts) := goodIn_app (goodIn_of _ (by decide +kernel)) ggL_of_X0_lasts
set_option maxRecDepth 20000 in
theorem ggL_of_X0_partiesOf : GoodIn wsL_of wsX0_partiesOf := goodIn_ca (goodIn_r _ [87, 7, 8, 24, 88, 25, 80, 81, 82, 5, 83, 22, 110, 111, 112, 113, 114, 115, 116, 117, 118, 119, 120, 121, 122, 123, 124, 125, 126, 127, 128] (by decide +kernel) (by decide +kernel)) (goodIn_sub (fun _ h => List.mem_cons_of_mem _ (List.mem_append_right _ h)) (by decide +kernel))
set_option maxRecDepth 20000 in
theorem gL_of_X0_partiesOf : GoodIn wsL_of (wsV RL 80 RX0 yX0_partiesOf wsX0_partiesOf) := goodIn_app (goodIn_of _ (by decide +kernel)) ggL_of_X0_partiesOf
set_option maxRecDepth 20000 in
theorem ggL_of_X0_interest : GoodIn wsL_of wsX0_interest := goodIn_ca (goodIn_r _ [92, 7, 8, 93, 80, 81, 82, 5, 83, 22, 110, 111, 112, 113, 114, 115, 116, 117, 118, 119, 120, 121, 122, 123, 124, 125, 126, 127, 128] (by decide +kernel) (by decide +kernel)) (goodIn_sub (fun _ h => List.mem_cons_of_mem _ (List.mem_append_right _ h)) (by decide +kernel))
set_option maxRecDepth 20000 in
theorem gL_of_X0_interest : GoodIn wsL_of (wsV RL 83 RX0 yX0_interest wsX0_interest) := goodIn_app (goodIn_of _ (by decide +kernel)) ggL_of_X0_interest
set_option maxRecDepth 20000 in
theorem ggL_of_X0_requestAt : GoodIn wsL_of wsX0_requestAt := goodIn_ca (goodIn_r _ [97, 7, 8, 98, 99, 100, 5, 101, 102, 103, 104, 105, 30, 39, 10, 11, 12, 106, 107, 108, 109, 17, 110, 111, 112, 113, 114, 115, 116, 117, 118, 119, 120, 121, 122, 123, 124, 125, 126, 127, 128] (by decide +kernel) (by decide +kernel)) (goodIn_sub (fun _ h => List.mem_cons_of_mem _ (List.mem_append_right _ h)) (by decide +kernel))
set_option maxRecDepth 20000 in
theorem gL_of_X0_requestAt : GoodIn wsL_of (wsV RL 86 RX0 yX0_requestAt wsX0_requestAt) := goodIn_app (goodIn_of _ (by decide +kernel)) ggL_of_X0_requestAt
theorem dL_of_0 : decode cL_of 0 = .ok (.iload_n 1, 1) := by decide +kernel
theorem dL_of_1 : decode cL_of 1 = .ok (.ifCond .ne 11, 3) := by decide +kernel
theorem dL_of_4 : decode cL_of 4 = .ok (.aload_n 0, 1) := by decide +kernel
theorem dL_of_5 : decode cL_of 5 = .ok (.iload_n 2, 1) := by decide +kernel
theorem dL_of_6 : decode cL_of 6 = .ok (.invokevirtual 43, 3) := by decide +kernel
theorem dL_of_12 : decode cL_of 12 = .ok (.iload_n 1, 1) := by decide +kernel
theorem dL_of_13 : decode cL_of 13 = .ok (.iconst 1, 1) := by decide +kernel
theorem dL_of_14 : decode cL_of 14 = .ok (.if_icmp .ne 11, 3) := by decide +kernel
theorem dL_of_17 : decode cL_of 17 = .ok (.aload_n 0, 1) := by decide +kernel
theorem dL_of_18 : decode cL_of 18 = .ok (.iload_n 2, 1) := by decide +kernel
theorem dL_of_19 : decode cL_of 19 = .ok (.invokevirtual 46, 3) := by decide +kernel
theorem dL_of_25 : decode cL_of 25 = .ok (.iload_n 1, 1) := by decide +kernel
theorem dL_of_26 : decode cL_of 26 = .ok (.iconst 2, 1) := by decide +kernel
theorem dL_of_27 : decode cL_of 27 = .ok (.if_icmp .ne 11, 3) := by decide +kernel
theorem dL_of_30 : decode cL_of 30 = .ok (.aload_n 0, 1) := by decide +kernel
theorem dL_of_31 : decode cL_of 31 = .ok (.iload_n 2, 1) := by decide +kernel
theorem dL_of_32 : decode cL_of 32 = .ok (.invokevirtual 49, 3) := by decide +kernel
theorem dL_of_38 : decode cL_of 38 = .ok (.iload_n 1, 1) := by decide +kernel
theorem dL_of_39 : decode cL_of 39 = .ok (.iconst 3, 1) := by decide +kernel
theorem dL_of_40 : decode cL_of 40 = .ok (.if_icmp .ne 11, 3) := by decide +kernel
theorem dL_of_43 : decode cL_of 43 = .ok (.aload_n 0, 1) := by decide +kernel
theorem dL_of_44 : decode cL_of 44 = .ok (.iload_n 2, 1) := by decide +kernel
theorem dL_of_45 : decode cL_of 45 = .ok (.invokevirtual 52, 3) := by decide +kernel
theorem dL_of_51 : decode cL_of 51 = .ok (.iload_n 1, 1) := by decide +kernel
theorem dL_of_52 : decode cL_of 52 = .ok (.iconst 4, 1) := by decide +kernel
theorem dL_of_53 : decode cL_of 53 = .ok (.if_icmp .ne 11, 3) := by decide +kernel
theorem dL_of_56 : decode cL_of 56 = .ok (.aload_n 0, 1) := by decide +kernel
theorem dL_of_57 : decode cL_of 57 = .ok (.iload_n 2, 1) := by decide +kernel
theorem dL_of_58 : decode cL_of 58 = .ok (.invokevirtual 55, 3) := by decide +kernel
theorem dL_of_64 : decode cL_of 64 = .ok (.iload_n 1, 1) := by decide +kernel
theorem dL_of_65 : decode cL_of 65 = .ok (.iconst 5, 1) := by decide +kernel
theorem dL_of_66 : decode cL_of 66 = .ok (.if_icmp .ne 11, 3) := by decide +kernel
theorem dL_of_69 : decode cL_of 69 = .ok (.aload_n 0, 1) := by decide +kernel
theorem dL_of_70 : decode cL_of 70 = .ok (.iload_n 2, 1) := by decide +kernel
theorem dL_of_71 : decode cL_of 71 = .ok (.invokevirtual 58, 3) := by decide +kernel
theorem dL_of_77 : decode cL_of 77 = .ok (.iload_n 1, 1) := by decide +kernel
theorem dL_of_78 : decode cL_of 78 = .ok (.bipush 6, 2) := by decide +kernel
theorem dL_of_80 : decode cL_of 80 = .ok (.if_icmp .ne 11, 3) := by decide +kernel
theorem dL_of_83 : decode cL_of 83 = .ok (.aload_n 0, 1) := by decide +kernel
theorem dL_of_84 : decode cL_of 84 = .ok (.iload_n 2, 1) := by decide +kernel
theorem dL_of_85 : decode cL_of 85 = .ok (.invokevirtual 61, 3) := by decide +kernel
theorem dL_of_91 : decode cL_of 91 = .ok (.iload_n 1, 1) := by decide +kernel
theorem dL_of_92 : decode cL_of 92 = .ok (.bipush 7, 2) := by decide +kernel
theorem dL_of_94 : decode cL_of 94 = .ok (.if_icmp .ne 11, 3) := by decide +kernel
theorem dL_of_97 : decode cL_of 97 = .ok (.aload_n 0, 1) := by decide +kernel
theorem dL_of_98 : decode cL_of 98 = .ok (.iload_n 2, 1) := by decide +kernel
theorem dL_of_99 : decode cL_of 99 = .ok (.invokevirtual 64, 3) := by decide +kernel
theorem dL_of_105 : decode cL_of 105 = .ok (.iload_n 1, 1) := by decide +kernel
theorem dL_of_106 : decode cL_of 106 = .ok (.bipush 8, 2) := by decide +kernel
theorem dL_of_108 : decode cL_of 108 = .ok (.if_icmp .ne 11, 3) := by decide +kernel
theorem dL_of_111 : decode cL_of 111 = .ok (.aload_n 0, 1) := by decide +kernel
theorem dL_of_112 : decode cL_of 112 = .ok (.iload_n 2, 1) := by decide +kernel
theorem dL_of_113 : decode cL_of 113 = .ok (.invokevirtual 67, 3) := by decide +kernel
theorem dL_of_119 : decode cL_of 119 = .ok (.iload_n 1, 1) := by decide +kernel
theorem dL_of_120 : decode cL_of 120 = .ok (.bipush 9, 2) := by decide +kernel
theorem dL_of_122 : decode cL_of 122 = .ok (.if_icmp .ne 11, 3) := by decide +kernel
theorem dL_of_125 : decode cL_of 125 = .ok (.aload_n 0, 1) := by decide +kernel
theorem dL_of_126 : decode cL_of 126 = .ok (.iload_n 2, 1) := by decide +kernel
theorem dL_of_127 : decode cL_of 127 = .ok (.invokevirtual 70, 3) := by decide +kernel
theorem dL_of_133 : decode cL_of 133 = .ok (.iload_n 1, 1) := by decide +kernel
theorem dL_of_134 : decode cL_of 134 = .ok (.bipush 10, 2) := by decide +kernel
theorem dL_of_136 : decode cL_of 136 = .ok (.if_icmp .ne 11, 3) := by decide +kernel
theorem dL_of_139 : decode cL_of 139 = .ok (.aload_n 0, 1) := by decide +kernel
theorem dL_of_140 : decode cL_of 140 = .ok (.iload_n 2, 1) := by decide +kernel
theorem dL_of_141 : decode cL_of 141 = .ok (.invokevirtual 73, 3) := by decide +kernel
theorem dL_of_147 : decode cL_of 147 = .ok (.iload_n 1, 1) := by decide +kernel
theorem dL_of_148 : decode cL_of 148 = .ok (.bipush 11, 2) := by decide +kernel
theorem dL_of_150 : decode cL_of 150 = .ok (.if_icmp .ne 19, 3) := by decide +kernel
theorem dL_of_153 : decode cL_of 153 = .ok (.aload_n 0, 1) := by decide +kernel
theorem dL_of_154 : decode cL_of 154 = .ok (.iload_n 2, 1) := by decide +kernel
theorem dL_of_155 : decode cL_of 155 = .ok (.invokevirtual 76, 3) := by decide +kernel
theorem dL_of_169 : decode cL_of 169 = .ok (.iload_n 1, 1) := by decide +kernel
theorem dL_of_170 : decode cL_of 170 = .ok (.bipush 12, 2) := by decide +kernel
theorem dL_of_172 : decode cL_of 172 = .ok (.if_icmp .ne 11, 3) := by decide +kernel
theorem dL_of_175 : decode cL_of 175 = .ok (.aload_n 0, 1) := by decide +kernel
theorem dL_of_176 : decode cL_of 176 = .ok (.iload_n 2, 1) := by decide +kernel
theorem dL_of_177 : decode cL_of 177 = .ok (.invokevirtual 80, 3) := by decide +kernel
theorem dL_of_183 : decode cL_of 183 = .ok (.iload_n 1, 1) := by decide +kernel
theorem dL_of_184 : decode cL_of 184 = .ok (.bipush 13, 2) := by decide +kernel
theorem dL_of_186 : decode cL_of 186 = .ok (.if_icmp .ne 11, 3) := by decide +kernel
theorem dL_of_189 : decode cL_of 189 = .ok (.aload_n 0, 1) := by decide +kernel
theorem dL_of_190 : decode cL_of 190 = .ok (.iload_n 2, 1) := by decide +kernel
theorem dL_of_191 : decode cL_of 191 = .ok (.invokevirtual 83, 3) := by decide +kernel
theorem dL_of_197 : decode cL_of 197 = .ok (.aload_n 0, 1) := by decide +kernel
theorem dL_of_198 : decode cL_of 198 = .ok (.iload_n 2, 1) := by decide +kernel
theorem dL_of_199 : decode cL_of 199 = .ok (.invokevirtual 86, 3) := by decide +kernel
theorem dL_of_203 : decode cL_of 203 = .ok (.astore_n 3, 1) := by decide +kernel
theorem dL_of_204 : decode cL_of 204 = .ok (.sipush (-1211), 3) := by decide +kernel
theorem dL_of_207 : decode cL_of 207 = .ok (.ireturn, 1) := by decide +kernel
set_option maxRecDepth 20000 in
theorem ggL_all_X0_tick : GoodIn wsL_all wsX0_tick := goodIn_r _ [11, 12, 79, 80, 81, 82, 83, 84, 85, 86, 87, 88, 89, 90, 91, 92, 93, 94, 95, 96, 97] (by decide +kernel) (by decide +kernel)
set_option maxRecDepth 20000 in
theorem gL_all_X0_tick : GoodIn wsL_all (wsV RL 89 RX0 yX0_tick wsX0_tick) := goodIn_app (goodIn_of _ (by decide +kernel)) ggL_all_X0_tick
set_option maxRecDepth 20000 in
theorem ggL_all_X0_head : GoodIn wsL_all wsX0_head := goodIn_r _ [16, 17, 79, 80, 81, 82, 83, 84, 85, 86, 87, 88, 89, 90, 91, 92, 93, 94, 95, 96, 97] (by decide +kernel) (by decide +kernel)
set_option maxRecDepth 20000 in
theorem gL_all_X0_head : GoodIn wsL_all (wsV RL 95 RX0 yX0_head wsX0_head) := goodIn_app (goodIn_of _ (by decide +kernel)) ggL_all_X0_head
set_option maxRecDepth 20000 in
theorem ggL_all_X0_requests : GoodIn wsL_all wsX0_requests := goodIn_r _ [21, 22, 23, 24, 10, 25, 26, 27, 28, 29, 30, 79, 80, 81, 82, 83, 84, 85, 86, 87, 88, 89, 90, 91, 92, 93, 94, 95, 96, 97] (by decide +kernel) (by decide +kernel)
set_option maxRecDepth 20000 in
theorem gL_all_X0_requests : GoodIn wsL_all (wsV RL 100 RX0 yX0_requests wsX0_requests) := goodIn_app (goodIn_of _ (by decide +kernel)) ggL_all_X0_requests
set_option maxRecDepth 20000 in
theorem ggL_all_X0_loans : GoodIn wsL_all wsX0_loans := goodIn_r _ [34, 35, 79, 80, 81, 82, 83, 84, 85, 86, 87, 88, 89, 90, 91, 92, 93, 94, 95, 96, 97] (by decide +kernel) (by decide +kernel)
set_option maxRecDepth 20000 in
theorem gL_all_X0_loans : GoodIn wsL_all (wsV RL 105 RX0 yX0_loans wsX0_loans) := goodIn_app (goodIn_of _ (by decide +kernel)) ggL_all_X0_loans
set_option maxRecDepth 20000 in
theorem ggL_all_X0_owner : GoodIn wsL_all wsX0_owner := goodIn_ca (goodIn_r _ [39, 40, 41, 42, 28, 29, 10, 30, 79, 80, 81, 82, 83, 84, 85, 86, 87, 88, 89, 90, 91, 92, 93, 94, 95, 96, 97] (by decide +kernel) (by decide +kernel)) (goodIn_sub (fun _ h => List.mem_cons_of_mem _ (List.mem_append_right _ h)) (by decide +kernel))
set_option maxRecDepth 20000 in
theorem gL_all_X0_owner : GoodIn wsL_all (wsV RL 43 RX0 yX0_owner wsX0_owner) := goodIn_app (goodIn_of _ (by decide +kernel)) ggL_all_X0_owner
set_option maxRecDepth 20000 in
theorem ggL_all_X0_holder : GoodIn wsL_all wsX0_holder := goodIn_ca (goodIn_r _ [46, 40, 41, 47, 28, 29, 10, 30, 79, 80, 81, 82, 83, 84, 85, 86, 87, 88, 89, 90, 91, 92, 93, 94, 95, 96, 97] (by decide +kernel) (by decide +kernel)) (goodIn_sub (fun _ h => List.mem_cons_of_mem _ (List.mem_append_right _ h)) (by decide +kernel))
set_option maxRecDepth 20000 in
theorem gL_all_X0_holder : GoodIn wsL_all (wsV RL 46 RX0 yX0_holder wsX0_holder) := goodIn_app (goodIn_of _ (by decide +kernel)) ggL_all_X0_holder
set_option maxRecDepth 20000 in
theorem ggL_all_X0_pageIn : GoodIn wsL_all wsX0_pageIn := goodIn_ca (goodIn_r _ [51, 40, 41, 26, 28, 29, 10, 30, 79, 80, 81, 82, 83, 84, 85, 86, 87, 88, 89, 90, 91, 92, 93, 94, 95, 96, 97] (by decide +kernel) (by decide +kernel)) (goodIn_sub (fun _ h => List.mem_cons_of_mem _ (List.mem_append_right _ h)) (by decide +kernel))
set_option maxRecDepth 20000 in
theorem gL_all_X0_pageIn : GoodIn wsL_all (wsV RL 52 RX0 yX0_pageIn wsX0_pageIn) := goodIn_app (goodIn_of _ (by decide +kernel)) ggL_all_X0_pageIn
set_option maxRecDepth 20000 in
theorem ggL_all_X0_age : GoodIn wsL_all wsX0_age := goodIn_ca (goodIn_r _ [55, 40, 41, 28, 29, 10, 30, 56, 57, 58, 59, 27, 12, 60, 79, 80, 81, 82, 83, 84, 85, 86, 87, 88, 89, 90, 91, 92, 93, 94, 95, 96, 97] (by decide +kernel) (by decide +kernel)) (goodIn_sub (fun _ h => List.mem_cons_of_mem _ (List.mem_append_right _ h)) (by decide +kernel))
set_option maxRecDepth 20000 in
theorem gL_all_X0_age : GoodIn wsL_all (wsV RL 55 RX0 yX0_age wsX0_age) := goodIn_app (goodIn_of _ (by decide +kernel)) ggL_all_X0_age
set_option maxRecDepth 20000 in
theorem ggL_all_X0_purse : GoodIn wsL_all wsX0_purse := goodIn_ca (goodIn_r _ [64, 40, 41, 65, 66, 67, 10, 68, 79, 80, 81, 82, 83, 84, 85, 86, 87, 88, 89, 90, 91, 92, 93, 94, 95, 96, 97] (by decide +kernel) (by decide +kernel)) (goodIn_sub (fun _ h => List.mem_cons_of_mem _ (List.mem_append_right _ h)) (by decide +kernel))
set_option maxRecDepth 20000 in
theorem gL_all_X0_purse : GoodIn wsL_all (wsV RL 70 RX0 yX0_purse wsX0_purse) := goodIn_app (goodIn_of _ (by decide +kernel)) ggL_all_X0_purse
set_option maxRecDepth 20000 in
theorem ggL_all_X0_stateOf : GoodIn wsL_all wsX0_stateOf := goodIn_ca (goodIn_r _ [72, 40, 41, 73, 66, 67, 10, 68, 79, 80, 81, 82, 83, 84, 85, 86, 87, 88, 89, 90, 91, 92, 93, 94, 95, 96, 97] (by decide +kernel) (by decide +kernel)) (goodIn_sub (fun _ h => List.mem_cons_of_mem _ (List.mem_append_right _ h)) (by decide +kernel))
set_option maxRecDepth 20000 in
theorem gL_all_X0_stateOf : GoodIn wsL_all (wsV RL 67 RX0 yX0_stateOf wsX0_stateOf) := goodIn_app (goodIn_of _ (by decide +kernel)) ggL_all_X0_stateOf
set_option maxRecDepth 20000 in
theorem ggL_all_X0_faults : GoodIn wsL_all wsX0_faults := goodIn_ca (goodIn_r _ [77, 40, 41, 78, 66, 67, 10, 68, 79, 80, 81, 82, 83, 84, 85, 86, 87, 88, 89, 90, 91, 92, 93, 94, 95, 96, 97] (by decide +kernel) (by decide +kernel)) (goodIn_sub (fun _ h => List.mem_cons_of_mem _ (List.mem_append_right _ h)) (by decide +kernel))
set_option maxRecDepth 20000 in
theorem gL_all_X0_faults : GoodIn wsL_all (wsV RL 73 RX0 yX0_faults wsX0_faults) := goodIn_app (goodIn_of _ (by decide +kernel)) ggL_all_X0_faults
theorem dL_all_0 : decode cL_all 0 = .ok (.aload_n 0, 1) := by decide +kernel
theorem dL_all_1 : decode cL_all 1 = .ok (.invokevirtual 89, 3) := by decide +kernel
theorem dL_all_4 : decode cL_all 4 = .ok (.i2l, 1) := by decide +kernel
theorem dL_all_5 : decode cL_all 5 = .ok (.ldc2_w 93, 3) := by decide +kernel
theorem dL_all_8 : decode cL_all 8 = .ok (.aload_n 0, 1) := by decide +kernel
theorem dL_all_9 : decode cL_all 9 = .ok (.invokevirtual 95, 3) := by decide +kernel
theorem dL_all_12 : decode cL_all 12 = .ok (.i2l, 1) := by decide +kernel
theorem dL_all_13 : decode cL_all 13 = .ok (.lmul, 1) := by decide +kernel
theorem dL_all_14 : decode cL_all 14 = .ok (.ladd, 1) := by decide +kernel
theorem dL_all_15 : decode cL_all 15 = .ok (.ldc2_w 98, 3) := by decide +kernel
theorem dL_all_18 : decode cL_all 18 = .ok (.aload_n 0, 1) := by decide +kernel
theorem dL_all_19 : decode cL_all 19 = .ok (.invokevirtual 100, 3) := by decide +kernel
theorem dL_all_22 : decode cL_all 22 = .ok (.i2l, 1) := by decide +kernel
theorem dL_all_23 : decode cL_all 23 = .ok (.lmul, 1) := by decide +kernel
theorem dL_all_24 : decode cL_all 24 = .ok (.ladd, 1) := by decide +kernel
theorem dL_all_25 : decode cL_all 25 = .ok (.ldc2_w 103, 3) := by decide +kernel
theorem dL_all_28 : decode cL_all 28 = .ok (.aload_n 0, 1) := by decide +kernel
theorem dL_all_29 : decode cL_all 29 = .ok (.invokevirtual 105, 3) := by decide +kernel
theorem dL_all_32 : decode cL_all 32 = .ok (.i2l, 1) := by decide +kernel
theorem dL_all_33 : decode cL_all 33 = .ok (.lmul, 1) := by decide +kernel
theorem dL_all_34 : decode cL_all 34 = .ok (.ladd, 1) := by decide +kernel
theorem dL_all_35 : decode cL_all 35 = .ok (.lstore_n 1, 1) := by decide +kernel
theorem dL_all_36 : decode cL_all 36 = .ok (.iconst 0, 1) := by decide +kernel
theorem dL_all_37 : decode cL_all 37 = .ok (.istore_n 3, 1) := by decide +kernel
theorem dL_all_38 : decode cL_all 38 = .ok (.iload_n 3, 1) := by decide +kernel
theorem dL_all_39 : decode cL_all 39 = .ok (.bipush 12, 2) := by decide +kernel
theorem dL_all_41 : decode cL_all 41 = .ok (.if_icmp .ge 55, 3) := by decide +kernel
theorem dL_all_44 : decode cL_all 44 = .ok (.ldc2_w 108, 3) := by decide +kernel
theorem dL_all_47 : decode cL_all 47 = .ok (.lload_n 1, 1) := by decide +kernel
theorem dL_all_48 : decode cL_all 48 = .ok (.lmul, 1) := by decide +kernel
theorem dL_all_49 : decode cL_all 49 = .ok (.aload_n 0, 1) := by decide +kernel
theorem dL_all_50 : decode cL_all 50 = .ok (.iload_n 3, 1) := by decide +kernel
theorem dL_all_51 : decode cL_all 51 = .ok (.invokevirtual 43, 3) := by decide +kernel
theorem dL_all_54 : decode cL_all 54 = .ok (.i2l, 1) := by decide +kernel
theorem dL_all_55 : decode cL_all 55 = .ok (.ladd, 1) := by decide +kernel
theorem dL_all_56 : decode cL_all 56 = .ok (.ldc2_w 93, 3) := by decide +kernel
theorem dL_all_59 : decode cL_all 59 = .ok (.aload_n 0, 1) := by decide +kernel
theorem dL_all_60 : decode cL_all 60 = .ok (.iload_n 3, 1) := by decide +kernel
theorem dL_all_61 : decode cL_all 61 = .ok (.invokevirtual 46, 3) := by decide +kernel
theorem dL_all_64 : decode cL_all 64 = .ok (.i2l, 1) := by decide +kernel
theorem dL_all_65 : decode cL_all 65 = .ok (.lmul, 1) := by decide +kernel
theorem dL_all_66 : decode cL_all 66 = .ok (.ladd, 1) := by decide +kernel
theorem dL_all_67 : decode cL_all 67 = .ok (.ldc2_w 110, 3) := by decide +kernel
theorem dL_all_70 : decode cL_all 70 = .ok (.aload_n 0, 1) := by decide +kernel
theorem dL_all_71 : decode cL_all 71 = .ok (.iload_n 3, 1) := by decide +kernel
theorem dL_all_72 : decode cL_all 72 = .ok (.invokevirtual 52, 3) := by decide +kernel
theorem dL_all_75 : decode cL_all 75 = .ok (.i2l, 1) := by decide +kernel
theorem dL_all_76 : decode cL_all 76 = .ok (.lmul, 1) := by decide +kernel
theorem dL_all_77 : decode cL_all 77 = .ok (.ladd, 1) := by decide +kernel
theorem dL_all_78 : decode cL_all 78 = .ok (.ldc2_w 112, 3) := by decide +kernel
theorem dL_all_81 : decode cL_all 81 = .ok (.aload_n 0, 1) := by decide +kernel
theorem dL_all_82 : decode cL_all 82 = .ok (.iload_n 3, 1) := by decide +kernel
theorem dL_all_83 : decode cL_all 83 = .ok (.invokevirtual 55, 3) := by decide +kernel
theorem dL_all_86 : decode cL_all 86 = .ok (.i2l, 1) := by decide +kernel
theorem dL_all_87 : decode cL_all 87 = .ok (.lmul, 1) := by decide +kernel
theorem dL_all_88 : decode cL_all 88 = .ok (.ladd, 1) := by decide +kernel
theorem dL_all_89 : decode cL_all 89 = .ok (.lstore_n 1, 1) := by decide +kernel
theorem dL_all_90 : decode cL_all 90 = .ok (.iinc 3 1, 3) := by decide +kernel
theorem dL_all_93 : decode cL_all 93 = .ok (.goto (-55), 3) := by decide +kernel
theorem dL_all_96 : decode cL_all 96 = .ok (.iconst 0, 1) := by decide +kernel
theorem dL_all_97 : decode cL_all 97 = .ok (.istore_n 3, 1) := by decide +kernel
theorem dL_all_98 : decode cL_all 98 = .ok (.iload_n 3, 1) := by decide +kernel
theorem dL_all_99 : decode cL_all 99 = .ok (.iconst 5, 1) := by decide +kernel
theorem dL_all_100 : decode cL_all 100 = .ok (.if_icmp .ge 44, 3) := by decide +kernel
theorem dL_all_103 : decode cL_all 103 = .ok (.ldc2_w 108, 3) := by decide +kernel
theorem dL_all_106 : decode cL_all 106 = .ok (.lload_n 1, 1) := by decide +kernel
theorem dL_all_107 : decode cL_all 107 = .ok (.lmul, 1) := by decide +kernel
theorem dL_all_108 : decode cL_all 108 = .ok (.aload_n 0, 1) := by decide +kernel
theorem dL_all_109 : decode cL_all 109 = .ok (.iload_n 3, 1) := by decide +kernel
theorem dL_all_110 : decode cL_all 110 = .ok (.invokevirtual 70, 3) := by decide +kernel
theorem dL_all_113 : decode cL_all 113 = .ok (.i2l, 1) := by decide +kernel
theorem dL_all_114 : decode cL_all 114 = .ok (.ladd, 1) := by decide +kernel
theorem dL_all_115 : decode cL_all 115 = .ok (.ldc2_w 93, 3) := by decide +kernel
theorem dL_all_118 : decode cL_all 118 = .ok (.aload_n 0, 1) := by decide +kernel
theorem dL_all_119 : decode cL_all 119 = .ok (.iload_n 3, 1) := by decide +kernel
theorem dL_all_120 : decode cL_all 120 = .ok (.invokevirtual 67, 3) := by decide +kernel
theorem dL_all_123 : decode cL_all 123 = .ok (.i2l, 1) := by decide +kernel
theorem dL_all_124 : decode cL_all 124 = .ok (.lmul, 1) := by decide +kernel
theorem dL_all_125 : decode cL_all 125 = .ok (.ladd, 1) := by decide +kernel
theorem dL_all_126 : decode cL_all 126 = .ok (.ldc2_w 110, 3) := by decide +kernel
theorem dL_all_129 : decode cL_all 129 = .ok (.aload_n 0, 1) := by decide +kernel
theorem dL_all_130 : decode cL_all 130 = .ok (.iload_n 3, 1) := by decide +kernel
theorem dL_all_131 : decode cL_all 131 = .ok (.invokevirtual 73, 3) := by decide +kernel
theorem dL_all_134 : decode cL_all 134 = .ok (.i2l, 1) := by decide +kernel
theorem dL_all_135 : decode cL_all 135 = .ok (.lmul, 1) := by decide +kernel
theorem dL_all_136 : decode cL_all 136 = .ok (.ladd, 1) := by decide +kernel
theorem dL_all_137 : decode cL_all 137 = .ok (.lstore_n 1, 1) := by decide +kernel
theorem dL_all_138 : decode cL_all 138 = .ok (.iinc 3 1, 3) := by decide +kernel
theorem dL_all_141 : decode cL_all 141 = .ok (.goto (-43), 3) := by decide +kernel
theorem dL_all_144 : decode cL_all 144 = .ok (.lload_n 1, 1) := by decide +kernel
theorem dL_all_145 : decode cL_all 145 = .ok (.lreturn, 1) := by decide +kernel
set_option maxRecDepth 20000 in
theorem ggL_loanOf_X0_loans : GoodIn wsL_loanOf wsX0_loans := goodIn_r _ [5, 6, 25, 26, 27, 28, 29, 30, 31, 32, 33, 34, 35, 36, 37, 38, 39, 40, 41, 42, 43] (by decide +kernel) (by decide +kernel)
set_option maxRecDepth 20000 in
theorem gL_loanOf_X0_loans : GoodIn wsL_loanOf (wsV RL 105 RX0 yX0_loans wsX0_loans) := goodIn_app (goodIn_of _ (by decide +kernel)) ggL_loanOf_X0_loans
set_option maxRecDepth 20000 in
theorem ggL_loanOf_X0_lasts : GoodIn wsL_loanOf wsX0_lasts := goodIn_ca (goodIn_r _ [10, 11, 12, 13, 14, 15, 16, 4, 17, 6, 25, 26, 27, 28, 29, 30, 31, 32, 33, 34, 35, 36, 37, 38, 39, 40, 41, 42, 43] (by decide +kernel) (by decide +kernel)) (goodIn_sub (fun _ h => List.mem_cons_of_mem _ (List.mem_append_right _ h)) (by decide +kernel))
set_option maxRecDepth 20000 in
theorem gL_loanOf_X0_lasts : GoodIn wsL_loanOf (wsV RL 76 RX0 yX0_lasts wsX0_lasts) := goodIn_app (goodIn_of _ (by decide +kernel)) ggL_loanOf_X0_lasts
set_option maxRecDepth 20000 in
theorem ggL_loanOf_X0_partiesOf : GoodIn wsL_loanOf wsX0_partiesOf := goodIn_ca (goodIn_r _ [21, 11, 12, 22, 23, 24, 14, 15, 16, 4, 17, 6, 25, 26, 27, 28, 29, 30, 31, 32, 33, 34, 35, 36, 37, 38, 39, 40, 41, 42, 43] (by decide +kernel) (by decide +kernel)) (goodIn_sub (fun _ h => List.mem_cons_of_mem _ (List.mem_append_right _ h)) (by decide +kernel))
set_option maxRecDepth 20000 in
theorem gL_loanOf_X0_partiesOf : GoodIn wsL_loanOf (wsV RL 80 RX0 yX0_partiesOf wsX0_partiesOf) := goodIn_app (goodIn_of _ (by decide +kernel)) ggL_loanOf_X0_partiesOf
theorem dL_loanOf_0 : decode cL_loanOf 0 = .ok (.iconst (-1), 1) := by decide +kernel
theorem dL_loanOf_1 : decode cL_loanOf 1 = .ok (.istore_n 2, 1) := by decide +kernel
theorem dL_loanOf_2 : decode cL_loanOf 2 = .ok (.iconst 0, 1) := by decide +kernel
theorem dL_loanOf_3 : decode cL_loanOf 3 = .ok (.istore_n 3, 1) := by decide +kernel
theorem dL_loanOf_4 : decode cL_loanOf 4 = .ok (.iload_n 3, 1) := by decide +kernel
theorem dL_loanOf_5 : decode cL_loanOf 5 = .ok (.aload_n 0, 1) := by decide +kernel
theorem dL_loanOf_6 : decode cL_loanOf 6 = .ok (.invokevirtual 105, 3) := by decide +kernel
theorem dL_loanOf_9 : decode cL_loanOf 9 = .ok (.if_icmp .ge 35, 3) := by decide +kernel
theorem dL_loanOf_44 : decode cL_loanOf 44 = .ok (.iload_n 2, 1) := by decide +kernel
theorem dL_loanOf_45 : decode cL_loanOf 45 = .ok (.ireturn, 1) := by decide +kernel
set_option maxRecDepth 20000 in
theorem ggL_areFrames_X0_tick : GoodIn wsL_areFrames wsX0_tick := goodIn_r _ [5, 6, 119, 120, 121, 122, 123, 124, 125, 126, 127, 128, 129, 130, 131, 132, 133, 134, 135, 136, 137] (by decide +kernel) (by decide +kernel)
set_option maxRecDepth 20000 in
theorem gL_areFrames_X0_tick : GoodIn wsL_areFrames (wsV RL 89 RX0 yX0_tick wsX0_tick) := goodIn_app (goodIn_of _ (by decide +kernel)) ggL_areFrames_X0_tick

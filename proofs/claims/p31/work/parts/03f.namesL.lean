set_option maxRecDepth 20000 in
theorem ggL_areFrames_X0_owner : GoodIn wsL_areFrames wsX0_owner := goodIn_ca (goodIn_r _ [10, 11, 12, 13, 14, 15, 4, 16, 119, 120, 121, 122, 123, 124, 125, 126, 127, 128, 129, 130, 131, 132, 133, 134, 135, 136, 137] (by decide +kernel) (by decide +kernel)) (goodIn_sub (fun _ h => List.mem_cons_of_mem _ (List.mem_append_right _ h)) (by decide +kernel))
set_option maxRecDepth 20000 in
theorem gL_areFrames_X0_owner : GoodIn wsL_areFrames (wsV RL 43 RX0 yX0_owner wsX0_owner) := goodIn_app (goodIn_of _ (by decide +kernel)) ggL_areFrames_X0_owner
set_option maxRecDepth 20000 in
theorem ggL_areFrames_L_loanOf : GoodIn wsL_areFrames wsL_loanOf := goodIn_ca (goodIn_r _ [20, 21, 22, 23, 4, 24, 25, 26, 27, 28, 29, 11, 12, 30, 31, 32, 33, 34, 35, 36, 37, 38, 39, 40, 41, 119, 120, 121, 122, 123, 124, 125, 126, 127, 128, 129, 130, 131, 132, 133, 134, 135, 136, 137] (by decide +kernel) (by decide +kernel)) (goodIn_sub (fun _ h => List.mem_cons_of_mem _ (List.mem_append_right _ h)) (by decide +kernel))
set_option maxRecDepth 20000 in
theorem gL_areFrames_L_loanOf : GoodIn wsL_areFrames (va_wsS RL 114 yL_loanOf wsL_loanOf) := goodIn_app (goodIn_of _ (by decide +kernel)) ggL_areFrames_L_loanOf
set_option maxRecDepth 20000 in
theorem ggL_areFrames_X0_partiesOf : GoodIn wsL_areFrames wsX0_partiesOf := goodIn_ca (goodIn_r _ [38, 11, 12, 39, 40, 41, 31, 32, 33, 4, 34, 25, 119, 120, 121, 122, 123, 124, 125, 126, 127, 128, 129, 130, 131, 132, 133, 134, 135, 136, 137] (by decide +kernel) (by decide +kernel)) (goodIn_sub (fun _ h => List.mem_cons_of_mem _ (List.mem_append_right _ h)) (by decide +kernel))
set_option maxRecDepth 20000 in
theorem gL_areFrames_X0_partiesOf : GoodIn wsL_areFrames (wsV RL 80 RX0 yX0_partiesOf wsX0_partiesOf) := goodIn_app (goodIn_of _ (by decide +kernel)) ggL_areFrames_X0_partiesOf
set_option maxRecDepth 20000 in
theorem ggL_areFrames_X0_holder : GoodIn wsL_areFrames wsX0_holder := goodIn_ca (goodIn_r _ [45, 11, 12, 46, 14, 15, 4, 16, 119, 120, 121, 122, 123, 124, 125, 126, 127, 128, 129, 130, 131, 132, 133, 134, 135, 136, 137] (by decide +kernel) (by decide +kernel)) (goodIn_sub (fun _ h => List.mem_cons_of_mem _ (List.mem_append_right _ h)) (by decide +kernel))
set_option maxRecDepth 20000 in
theorem gL_areFrames_X0_holder : GoodIn wsL_areFrames (wsV RL 46 RX0 yX0_holder wsX0_holder) := goodIn_app (goodIn_of _ (by decide +kernel)) ggL_areFrames_X0_holder
set_option maxRecDepth 20000 in
theorem ggL_areFrames_X0_holderByLog : GoodIn wsL_areFrames wsX0_holderByLog := goodIn_ca (goodIn_r _ [50, 11, 12, 25, 30, 39, 41, 13, 14, 15, 4, 16, 119, 120, 121, 122, 123, 124, 125, 126, 127, 128, 129, 130, 131, 132, 133, 134, 135, 136, 137] (by decide +kernel) (by decide +kernel)) (goodIn_sub (fun _ h => List.mem_cons_of_mem _ (List.mem_append_right _ h)) (by decide +kernel))
set_option maxRecDepth 20000 in
theorem gL_areFrames_X0_holderByLog : GoodIn wsL_areFrames (wsV RL 49 RX0 yX0_holderByLog wsX0_holderByLog) := goodIn_app (goodIn_of _ (by decide +kernel)) ggL_areFrames_X0_holderByLog
set_option maxRecDepth 20000 in
theorem ggL_areFrames_X0_stateOf : GoodIn wsL_areFrames wsX0_stateOf := goodIn_ca (goodIn_r _ [54, 11, 12, 55, 56, 57, 4, 58, 119, 120, 121, 122, 123, 124, 125, 126, 127, 128, 129, 130, 131, 132, 133, 134, 135, 136, 137] (by decide +kernel) (by decide +kernel)) (goodIn_sub (fun _ h => List.mem_cons_of_mem _ (List.mem_append_right _ h)) (by decide +kernel))
set_option maxRecDepth 20000 in
theorem gL_areFrames_X0_stateOf : GoodIn wsL_areFrames (wsV RL 67 RX0 yX0_stateOf wsX0_stateOf) := goodIn_app (goodIn_of _ (by decide +kernel)) ggL_areFrames_X0_stateOf
set_option maxRecDepth 20000 in
theorem ggL_areFrames_X0_pageIn : GoodIn wsL_areFrames wsX0_pageIn := goodIn_ca (goodIn_r _ [62, 11, 12, 63, 14, 15, 4, 16, 119, 120, 121, 122, 123, 124, 125, 126, 127, 128, 129, 130, 131, 132, 133, 134, 135, 136, 137] (by decide +kernel) (by decide +kernel)) (goodIn_sub (fun _ h => List.mem_cons_of_mem _ (List.mem_append_right _ h)) (by decide +kernel))
set_option maxRecDepth 20000 in
theorem gL_areFrames_X0_pageIn : GoodIn wsL_areFrames (wsV RL 52 RX0 yX0_pageIn wsX0_pageIn) := goodIn_app (goodIn_of _ (by decide +kernel)) ggL_areFrames_X0_pageIn
set_option maxRecDepth 20000 in
theorem ggL_areFrames_X0_age : GoodIn wsL_areFrames wsX0_age := goodIn_ca (goodIn_r _ [67, 11, 12, 14, 15, 4, 16, 68, 69, 70, 71, 72, 6, 73, 119, 120, 121, 122, 123, 124, 125, 126, 127, 128, 129, 130, 131, 132, 133, 134, 135, 136, 137] (by decide +kernel) (by decide +kernel)) (goodIn_sub (fun _ h => List.mem_cons_of_mem _ (List.mem_append_right _ h)) (by decide +kernel))
set_option maxRecDepth 20000 in
theorem gL_areFrames_X0_age : GoodIn wsL_areFrames (wsV RL 55 RX0 yX0_age wsX0_age) := goodIn_app (goodIn_of _ (by decide +kernel)) ggL_areFrames_X0_age
set_option maxRecDepth 20000 in
theorem ggL_areFrames_X0_requestAt : GoodIn wsL_areFrames wsX0_requestAt := goodIn_ca (goodIn_r _ [77, 11, 12, 78, 79, 80, 4, 81, 82, 83, 84, 85, 63, 72, 14, 15, 16, 86, 87, 88, 89, 46, 119, 120, 121, 122, 123, 124, 125, 126, 127, 128, 129, 130, 131, 132, 133, 134, 135, 136, 137] (by decide +kernel) (by decide +kernel)) (goodIn_sub (fun _ h => List.mem_cons_of_mem _ (List.mem_append_right _ h)) (by decide +kernel))
set_option maxRecDepth 20000 in
theorem gL_areFrames_X0_requestAt : GoodIn wsL_areFrames (wsV RL 86 RX0 yX0_requestAt wsX0_requestAt) := goodIn_app (goodIn_of _ (by decide +kernel)) ggL_areFrames_X0_requestAt
set_option maxRecDepth 20000 in
theorem ggL_areFrames_X0_owns : GoodIn wsL_areFrames wsX0_owns := goodIn_ca (goodIn_r _ [93, 11, 12, 13, 56, 57, 4, 58, 119, 120, 121, 122, 123, 124, 125, 126, 127, 128, 129, 130, 131, 132, 133, 134, 135, 136, 137] (by decide +kernel) (by decide +kernel)) (goodIn_sub (fun _ h => List.mem_cons_of_mem _ (List.mem_append_right _ h)) (by decide +kernel))
set_option maxRecDepth 20000 in
theorem gL_areFrames_X0_owns : GoodIn wsL_areFrames (wsV RL 58 RX0 yX0_owns wsX0_owns) := goodIn_app (goodIn_of _ (by decide +kernel)) ggL_areFrames_X0_owns
set_option maxRecDepth 20000 in
theorem ggL_areFrames_X0_borrowed : GoodIn wsL_areFrames wsX0_borrowed := goodIn_ca (goodIn_r _ [97, 11, 12, 56, 57, 4, 58, 98, 99, 100, 101, 46, 13, 119, 120, 121, 122, 123, 124, 125, 126, 127, 128, 129, 130, 131, 132, 133, 134, 135, 136, 137] (by decide +kernel) (by decide +kernel)) (goodIn_sub (fun _ h => List.mem_cons_of_mem _ (List.mem_append_right _ h)) (by decide +kernel))
set_option maxRecDepth 20000 in
theorem gL_areFrames_X0_borrowed : GoodIn wsL_areFrames (wsV RL 61 RX0 yX0_borrowed wsX0_borrowed) := goodIn_app (goodIn_of _ (by decide +kernel)) ggL_areFrames_X0_borrowed
set_option maxRecDepth 20000 in
theorem ggL_areFrames_X0_lent : GoodIn wsL_areFrames wsX0_lent := goodIn_ca (goodIn_r _ [105, 11, 12, 13, 46, 56, 57, 4, 58, 119, 120, 121, 122, 123, 124, 125, 126, 127, 128, 129, 130, 131, 132, 133, 134, 135, 136, 137] (by decide +kernel) (by decide +kernel)) (goodIn_sub (fun _ h => List.mem_cons_of_mem _ (List.mem_append_right _ h)) (by decide +kernel))
set_option maxRecDepth 20000 in
theorem gL_areFrames_X0_lent : GoodIn wsL_areFrames (wsV RL 64 RX0 yX0_lent wsX0_lent) := goodIn_app (goodIn_of _ (by decide +kernel)) ggL_areFrames_X0_lent
set_option maxRecDepth 20000 in
theorem ggL_areFrames_X0_purse : GoodIn wsL_areFrames wsX0_purse := goodIn_ca (goodIn_r _ [109, 11, 12, 110, 56, 57, 4, 58, 119, 120, 121, 122, 123, 124, 125, 126, 127, 128, 129, 130, 131, 132, 133, 134, 135, 136, 137] (by decide +kernel) (by decide +kernel)) (goodIn_sub (fun _ h => List.mem_cons_of_mem _ (List.mem_append_right _ h)) (by decide +kernel))
set_option maxRecDepth 20000 in
theorem gL_areFrames_X0_purse : GoodIn wsL_areFrames (wsV RL 70 RX0 yX0_purse wsX0_purse) := goodIn_app (goodIn_of _ (by decide +kernel)) ggL_areFrames_X0_purse
set_option maxRecDepth 20000 in
theorem ggL_areFrames_X0_free : GoodIn wsL_areFrames wsX0_free := goodIn_r _ [114, 13, 119, 120, 121, 122, 123, 124, 125, 126, 127, 128, 129, 130, 131, 132, 133, 134, 135, 136, 137] (by decide +kernel) (by decide +kernel)
set_option maxRecDepth 20000 in
theorem gL_areFrames_X0_free : GoodIn wsL_areFrames (wsV RL 120 RX0 yX0_free wsX0_free) := goodIn_app (goodIn_of _ (by decide +kernel)) ggL_areFrames_X0_free
set_option maxRecDepth 20000 in
theorem ggL_areFrames_X0_requests : GoodIn wsL_areFrames wsX0_requests := goodIn_r _ [118, 82, 83, 84, 4, 85, 63, 72, 14, 15, 16, 119, 120, 121, 122, 123, 124, 125, 126, 127, 128, 129, 130, 131, 132, 133, 134, 135, 136, 137] (by decide +kernel) (by decide +kernel)
set_option maxRecDepth 20000 in
theorem gL_areFrames_X0_requests : GoodIn wsL_areFrames (wsV RL 100 RX0 yX0_requests wsX0_requests) := goodIn_app (goodIn_of _ (by decide +kernel)) ggL_areFrames_X0_requests
theorem dL_areFrames_0 : decode cL_areFrames 0 = .ok (.aload_n 0, 1) := by decide +kernel
theorem dL_areFrames_1 : decode cL_areFrames 1 = .ok (.invokevirtual 89, 3) := by decide +kernel
theorem dL_areFrames_4 : decode cL_areFrames 4 = .ok (.ifCond .lt 7, 3) := by decide +kernel
theorem dL_areFrames_7 : decode cL_areFrames 7 = .ok (.iconst 1, 1) := by decide +kernel
theorem dL_areFrames_8 : decode cL_areFrames 8 = .ok (.goto 4, 3) := by decide +kernel
theorem dL_areFrames_12 : decode cL_areFrames 12 = .ok (.istore_n 1, 1) := by decide +kernel
theorem dL_areFrames_13 : decode cL_areFrames 13 = .ok (.iconst 0, 1) := by decide +kernel
theorem dL_areFrames_14 : decode cL_areFrames 14 = .ok (.istore_n 2, 1) := by decide +kernel
theorem dL_areFrames_15 : decode cL_areFrames 15 = .ok (.iconst 0, 1) := by decide +kernel
theorem dL_areFrames_16 : decode cL_areFrames 16 = .ok (.istore_n 3, 1) := by decide +kernel
theorem dL_areFrames_17 : decode cL_areFrames 17 = .ok (.iconst 0, 1) := by decide +kernel
theorem dL_areFrames_18 : decode cL_areFrames 18 = .ok (.istore 4, 2) := by decide +kernel
theorem dL_areFrames_20 : decode cL_areFrames 20 = .ok (.iload 4, 2) := by decide +kernel
theorem dL_areFrames_22 : decode cL_areFrames 22 = .ok (.bipush 12, 2) := by decide +kernel
theorem dL_areFrames_24 : decode cL_areFrames 24 = .ok (.if_icmp .ge 313, 3) := by decide +kernel
theorem dL_areFrames_27 : decode cL_areFrames 27 = .ok (.iload_n 1, 1) := by decide +kernel
theorem dL_areFrames_28 : decode cL_areFrames 28 = .ok (.ifCond .eq 309, 3) := by decide +kernel
theorem dL_areFrames_31 : decode cL_areFrames 31 = .ok (.aload_n 0, 1) := by decide +kernel
theorem dL_areFrames_32 : decode cL_areFrames 32 = .ok (.iload 4, 2) := by decide +kernel
theorem dL_areFrames_34 : decode cL_areFrames 34 = .ok (.invokevirtual 43, 3) := by decide +kernel
theorem dL_areFrames_37 : decode cL_areFrames 37 = .ok (.istore 5, 2) := by decide +kernel
theorem dL_areFrames_39 : decode cL_areFrames 39 = .ok (.aload_n 0, 1) := by decide +kernel
theorem dL_areFrames_40 : decode cL_areFrames 40 = .ok (.iload 4, 2) := by decide +kernel
theorem dL_areFrames_42 : decode cL_areFrames 42 = .ok (.invokestatic 114, 3) := by decide +kernel
theorem dL_areFrames_45 : decode cL_areFrames 45 = .ok (.istore 6, 2) := by decide +kernel
theorem dL_areFrames_47 : decode cL_areFrames 47 = .ok (.iload 6, 2) := by decide +kernel
theorem dL_areFrames_49 : decode cL_areFrames 49 = .ok (.ifCond .ge 8, 3) := by decide +kernel
theorem dL_areFrames_52 : decode cL_areFrames 52 = .ok (.iload 5, 2) := by decide +kernel
theorem dL_areFrames_54 : decode cL_areFrames 54 = .ok (.goto 12, 3) := by decide +kernel
theorem dL_areFrames_66 : decode cL_areFrames 66 = .ok (.istore 7, 2) := by decide +kernel
theorem dL_areFrames_68 : decode cL_areFrames 68 = .ok (.aload_n 0, 1) := by decide +kernel
theorem dL_areFrames_69 : decode cL_areFrames 69 = .ok (.iload 4, 2) := by decide +kernel
theorem dL_areFrames_71 : decode cL_areFrames 71 = .ok (.invokevirtual 46, 3) := by decide +kernel
theorem dL_areFrames_74 : decode cL_areFrames 74 = .ok (.iload 7, 2) := by decide +kernel
theorem dL_areFrames_76 : decode cL_areFrames 76 = .ok (.if_icmp .ne 91, 3) := by decide +kernel
theorem dL_areFrames_79 : decode cL_areFrames 79 = .ok (.aload_n 0, 1) := by decide +kernel
theorem dL_areFrames_80 : decode cL_areFrames 80 = .ok (.iload 4, 2) := by decide +kernel
theorem dL_areFrames_82 : decode cL_areFrames 82 = .ok (.invokevirtual 49, 3) := by decide +kernel
theorem dL_areFrames_85 : decode cL_areFrames 85 = .ok (.iload 7, 2) := by decide +kernel
theorem dL_areFrames_87 : decode cL_areFrames 87 = .ok (.if_icmp .ne 80, 3) := by decide +kernel
theorem dL_areFrames_90 : decode cL_areFrames 90 = .ok (.iload 6, 2) := by decide +kernel
theorem dL_areFrames_92 : decode cL_areFrames 92 = .ok (.ifCond .lt 37, 3) := by decide +kernel
theorem dL_areFrames_129 : decode cL_areFrames 129 = .ok (.iload 5, 2) := by decide +kernel
theorem dL_areFrames_131 : decode cL_areFrames 131 = .ok (.ifCond .ge 13, 3) := by decide +kernel
theorem dL_areFrames_134 : decode cL_areFrames 134 = .ok (.aload_n 0, 1) := by decide +kernel
theorem dL_areFrames_135 : decode cL_areFrames 135 = .ok (.iload 4, 2) := by decide +kernel
theorem dL_areFrames_137 : decode cL_areFrames 137 = .ok (.invokevirtual 52, 3) := by decide +kernel
theorem dL_areFrames_140 : decode cL_areFrames 140 = .ok (.iconst (-1), 1) := by decide +kernel
theorem dL_areFrames_141 : decode cL_areFrames 141 = .ok (.if_icmp .ne 26, 3) := by decide +kernel
theorem dL_areFrames_144 : decode cL_areFrames 144 = .ok (.aload_n 0, 1) := by decide +kernel
theorem dL_areFrames_145 : decode cL_areFrames 145 = .ok (.iload 4, 2) := by decide +kernel
theorem dL_areFrames_147 : decode cL_areFrames 147 = .ok (.invokevirtual 52, 3) := by decide +kernel
theorem dL_areFrames_150 : decode cL_areFrames 150 = .ok (.ifCond .ge 13, 3) := by decide +kernel
theorem dL_areFrames_153 : decode cL_areFrames 153 = .ok (.aload_n 0, 1) := by decide +kernel
theorem dL_areFrames_154 : decode cL_areFrames 154 = .ok (.iload 4, 2) := by decide +kernel
theorem dL_areFrames_156 : decode cL_areFrames 156 = .ok (.invokevirtual 55, 3) := by decide +kernel
theorem dL_areFrames_159 : decode cL_areFrames 159 = .ok (.iconst (-1), 1) := by decide +kernel
theorem dL_areFrames_160 : decode cL_areFrames 160 = .ok (.if_icmp .ne 7, 3) := by decide +kernel
theorem dL_areFrames_163 : decode cL_areFrames 163 = .ok (.iconst 1, 1) := by decide +kernel
theorem dL_areFrames_164 : decode cL_areFrames 164 = .ok (.goto 4, 3) := by decide +kernel
theorem dL_areFrames_168 : decode cL_areFrames 168 = .ok (.istore_n 1, 1) := by decide +kernel
theorem dL_areFrames_169 : decode cL_areFrames 169 = .ok (.iload_n 2, 1) := by decide +kernel
theorem dL_areFrames_170 : decode cL_areFrames 170 = .ok (.iload 5, 2) := by decide +kernel
theorem dL_areFrames_172 : decode cL_areFrames 172 = .ok (.ifCond .ge 7, 3) := by decide +kernel
theorem dL_areFrames_175 : decode cL_areFrames 175 = .ok (.iconst 1, 1) := by decide +kernel
theorem dL_areFrames_176 : decode cL_areFrames 176 = .ok (.goto 4, 3) := by decide +kernel
theorem dL_areFrames_180 : decode cL_areFrames 180 = .ok (.iadd, 1) := by decide +kernel
theorem dL_areFrames_181 : decode cL_areFrames 181 = .ok (.istore_n 2, 1) := by decide +kernel
theorem dL_areFrames_182 : decode cL_areFrames 182 = .ok (.iload_n 1, 1) := by decide +kernel
theorem dL_areFrames_183 : decode cL_areFrames 183 = .ok (.ifCond .eq 148, 3) := by decide +kernel
theorem dL_areFrames_186 : decode cL_areFrames 186 = .ok (.aload_n 0, 1) := by decide +kernel
theorem dL_areFrames_187 : decode cL_areFrames 187 = .ok (.iload 4, 2) := by decide +kernel
theorem dL_areFrames_189 : decode cL_areFrames 189 = .ok (.invokevirtual 52, 3) := by decide +kernel
theorem dL_areFrames_192 : decode cL_areFrames 192 = .ok (.ifCond .lt 139, 3) := by decide +kernel
theorem dL_areFrames_331 : decode cL_areFrames 331 = .ok (.iinc 4 1, 3) := by decide +kernel
theorem dL_areFrames_334 : decode cL_areFrames 334 = .ok (.goto (-314), 3) := by decide +kernel
theorem dL_areFrames_337 : decode cL_areFrames 337 = .ok (.iconst 0, 1) := by decide +kernel
theorem dL_areFrames_338 : decode cL_areFrames 338 = .ok (.istore 4, 2) := by decide +kernel
theorem dL_areFrames_340 : decode cL_areFrames 340 = .ok (.iload 4, 2) := by decide +kernel
theorem dL_areFrames_342 : decode cL_areFrames 342 = .ok (.iconst 5, 1) := by decide +kernel
theorem dL_areFrames_343 : decode cL_areFrames 343 = .ok (.if_icmp .ge 274, 3) := by decide +kernel
theorem dL_areFrames_346 : decode cL_areFrames 346 = .ok (.iload_n 1, 1) := by decide +kernel
theorem dL_areFrames_347 : decode cL_areFrames 347 = .ok (.ifCond .eq 270, 3) := by decide +kernel
theorem dL_areFrames_350 : decode cL_areFrames 350 = .ok (.iconst 0, 1) := by decide +kernel
theorem dL_areFrames_351 : decode cL_areFrames 351 = .ok (.istore 5, 2) := by decide +kernel
theorem dL_areFrames_353 : decode cL_areFrames 353 = .ok (.iconst 0, 1) := by decide +kernel
theorem dL_areFrames_354 : decode cL_areFrames 354 = .ok (.istore 6, 2) := by decide +kernel
theorem dL_areFrames_356 : decode cL_areFrames 356 = .ok (.iconst 0, 1) := by decide +kernel
theorem dL_areFrames_357 : decode cL_areFrames 357 = .ok (.istore 7, 2) := by decide +kernel
theorem dL_areFrames_359 : decode cL_areFrames 359 = .ok (.iconst 0, 1) := by decide +kernel
theorem dL_areFrames_360 : decode cL_areFrames 360 = .ok (.istore 8, 2) := by decide +kernel
theorem dL_areFrames_362 : decode cL_areFrames 362 = .ok (.iconst 0, 1) := by decide +kernel
theorem dL_areFrames_363 : decode cL_areFrames 363 = .ok (.istore 9, 2) := by decide +kernel
theorem dL_areFrames_365 : decode cL_areFrames 365 = .ok (.iload 9, 2) := by decide +kernel
theorem dL_areFrames_367 : decode cL_areFrames 367 = .ok (.bipush 12, 2) := by decide +kernel
theorem dL_areFrames_369 : decode cL_areFrames 369 = .ok (.if_icmp .ge 169, 3) := by decide +kernel
theorem dL_areFrames_372 : decode cL_areFrames 372 = .ok (.aload_n 0, 1) := by decide +kernel
theorem dL_areFrames_373 : decode cL_areFrames 373 = .ok (.iload 9, 2) := by decide +kernel
theorem dL_areFrames_375 : decode cL_areFrames 375 = .ok (.invokevirtual 43, 3) := by decide +kernel
theorem dL_areFrames_378 : decode cL_areFrames 378 = .ok (.iload 4, 2) := by decide +kernel
theorem dL_areFrames_380 : decode cL_areFrames 380 = .ok (.if_icmp .ne 7, 3) := by decide +kernel
theorem dL_areFrames_387 : decode cL_areFrames 387 = .ok (.iconst 0, 1) := by decide +kernel
theorem dL_areFrames_388 : decode cL_areFrames 388 = .ok (.istore 10, 2) := by decide +kernel
theorem dL_areFrames_390 : decode cL_areFrames 390 = .ok (.aload_n 0, 1) := by decide +kernel
theorem dL_areFrames_391 : decode cL_areFrames 391 = .ok (.iload 9, 2) := by decide +kernel
theorem dL_areFrames_393 : decode cL_areFrames 393 = .ok (.invokevirtual 46, 3) := by decide +kernel
theorem dL_areFrames_396 : decode cL_areFrames 396 = .ok (.iload 4, 2) := by decide +kernel
theorem dL_areFrames_398 : decode cL_areFrames 398 = .ok (.if_icmp .ne 7, 3) := by decide +kernel
theorem dL_areFrames_405 : decode cL_areFrames 405 = .ok (.iconst 0, 1) := by decide +kernel
theorem dL_areFrames_406 : decode cL_areFrames 406 = .ok (.istore 11, 2) := by decide +kernel
theorem dL_areFrames_408 : decode cL_areFrames 408 = .ok (.iload 5, 2) := by decide +kernel
theorem dL_areFrames_410 : decode cL_areFrames 410 = .ok (.iload 10, 2) := by decide +kernel
theorem dL_areFrames_412 : decode cL_areFrames 412 = .ok (.ifCond .eq 7, 3) := by decide +kernel
theorem dL_areFrames_419 : decode cL_areFrames 419 = .ok (.iconst 0, 1) := by decide +kernel
theorem dL_areFrames_420 : decode cL_areFrames 420 = .ok (.iadd, 1) := by decide +kernel
theorem dL_areFrames_421 : decode cL_areFrames 421 = .ok (.istore 5, 2) := by decide +kernel
theorem dL_areFrames_423 : decode cL_areFrames 423 = .ok (.iload 7, 2) := by decide +kernel
theorem dL_areFrames_425 : decode cL_areFrames 425 = .ok (.iload 10, 2) := by decide +kernel
theorem dL_areFrames_427 : decode cL_areFrames 427 = .ok (.ifCond .eq 12, 3) := by decide +kernel
theorem dL_areFrames_439 : decode cL_areFrames 439 = .ok (.iconst 0, 1) := by decide +kernel
theorem dL_areFrames_440 : decode cL_areFrames 440 = .ok (.iadd, 1) := by decide +kernel
theorem dL_areFrames_441 : decode cL_areFrames 441 = .ok (.istore 7, 2) := by decide +kernel
theorem dL_areFrames_443 : decode cL_areFrames 443 = .ok (.iload 6, 2) := by decide +kernel
theorem dL_areFrames_445 : decode cL_areFrames 445 = .ok (.iload 11, 2) := by decide +kernel
theorem dL_areFrames_447 : decode cL_areFrames 447 = .ok (.ifCond .eq 12, 3) := by decide +kernel
theorem dL_areFrames_459 : decode cL_areFrames 459 = .ok (.iconst 0, 1) := by decide +kernel
theorem dL_areFrames_460 : decode cL_areFrames 460 = .ok (.iadd, 1) := by decide +kernel
theorem dL_areFrames_461 : decode cL_areFrames 461 = .ok (.istore 6, 2) := by decide +kernel
theorem dL_areFrames_463 : decode cL_areFrames 463 = .ok (.iload_n 1, 1) := by decide +kernel
theorem dL_areFrames_464 : decode cL_areFrames 464 = .ok (.ifCond .eq 35, 3) := by decide +kernel
theorem dL_areFrames_467 : decode cL_areFrames 467 = .ok (.iload 11, 2) := by decide +kernel
theorem dL_areFrames_469 : decode cL_areFrames 469 = .ok (.ifCond .eq 26, 3) := by decide +kernel
theorem dL_areFrames_495 : decode cL_areFrames 495 = .ok (.iconst 1, 1) := by decide +kernel
theorem dL_areFrames_496 : decode cL_areFrames 496 = .ok (.goto 4, 3) := by decide +kernel
theorem dL_areFrames_500 : decode cL_areFrames 500 = .ok (.istore_n 1, 1) := by decide +kernel
theorem dL_areFrames_501 : decode cL_areFrames 501 = .ok (.iload 8, 2) := by decide +kernel
theorem dL_areFrames_503 : decode cL_areFrames 503 = .ok (.iload 11, 2) := by decide +kernel
theorem dL_areFrames_505 : decode cL_areFrames 505 = .ok (.ifCond .eq 23, 3) := by decide +kernel
theorem dL_areFrames_528 : decode cL_areFrames 528 = .ok (.iconst 0, 1) := by decide +kernel
theorem dL_areFrames_529 : decode cL_areFrames 529 = .ok (.ior, 1) := by decide +kernel
theorem dL_areFrames_530 : decode cL_areFrames 530 = .ok (.istore 8, 2) := by decide +kernel
theorem dL_areFrames_532 : decode cL_areFrames 532 = .ok (.iinc 9 1, 3) := by decide +kernel
theorem dL_areFrames_535 : decode cL_areFrames 535 = .ok (.goto (-170), 3) := by decide +kernel
theorem dL_areFrames_538 : decode cL_areFrames 538 = .ok (.iload_n 1, 1) := by decide +kernel
theorem dL_areFrames_539 : decode cL_areFrames 539 = .ok (.ifCond .eq 70, 3) := by decide +kernel
theorem dL_areFrames_542 : decode cL_areFrames 542 = .ok (.aload_n 0, 1) := by decide +kernel
theorem dL_areFrames_543 : decode cL_areFrames 543 = .ok (.iload 4, 2) := by decide +kernel
theorem dL_areFrames_545 : decode cL_areFrames 545 = .ok (.invokevirtual 58, 3) := by decide +kernel
theorem dL_areFrames_548 : decode cL_areFrames 548 = .ok (.iload 5, 2) := by decide +kernel
theorem dL_areFrames_550 : decode cL_areFrames 550 = .ok (.if_icmp .ne 59, 3) := by decide +kernel
theorem dL_areFrames_553 : decode cL_areFrames 553 = .ok (.aload_n 0, 1) := by decide +kernel
theorem dL_areFrames_554 : decode cL_areFrames 554 = .ok (.iload 4, 2) := by decide +kernel
theorem dL_areFrames_556 : decode cL_areFrames 556 = .ok (.invokevirtual 61, 3) := by decide +kernel
theorem dL_areFrames_559 : decode cL_areFrames 559 = .ok (.iload 6, 2) := by decide +kernel
theorem dL_areFrames_561 : decode cL_areFrames 561 = .ok (.if_icmp .ne 48, 3) := by decide +kernel
theorem dL_areFrames_564 : decode cL_areFrames 564 = .ok (.aload_n 0, 1) := by decide +kernel
theorem dL_areFrames_565 : decode cL_areFrames 565 = .ok (.iload 4, 2) := by decide +kernel
theorem dL_areFrames_567 : decode cL_areFrames 567 = .ok (.invokevirtual 64, 3) := by decide +kernel
theorem dL_areFrames_570 : decode cL_areFrames 570 = .ok (.iload 7, 2) := by decide +kernel
theorem dL_areFrames_572 : decode cL_areFrames 572 = .ok (.if_icmp .ne 37, 3) := by decide +kernel
theorem dL_areFrames_575 : decode cL_areFrames 575 = .ok (.iload 6, 2) := by decide +kernel
theorem dL_areFrames_577 : decode cL_areFrames 577 = .ok (.iconst 3, 1) := by decide +kernel
theorem dL_areFrames_578 : decode cL_areFrames 578 = .ok (.if_icmp .gt 31, 3) := by decide +kernel
theorem dL_areFrames_581 : decode cL_areFrames 581 = .ok (.aload_n 0, 1) := by decide +kernel
theorem dL_areFrames_582 : decode cL_areFrames 582 = .ok (.iload 4, 2) := by decide +kernel
theorem dL_areFrames_584 : decode cL_areFrames 584 = .ok (.invokevirtual 70, 3) := by decide +kernel
theorem dL_areFrames_587 : decode cL_areFrames 587 = .ok (.ifCond .lt 22, 3) := by decide +kernel
theorem dL_areFrames_590 : decode cL_areFrames 590 = .ok (.aload_n 0, 1) := by decide +kernel
theorem dL_areFrames_591 : decode cL_areFrames 591 = .ok (.iload 4, 2) := by decide +kernel
theorem dL_areFrames_593 : decode cL_areFrames 593 = .ok (.invokevirtual 67, 3) := by decide +kernel
theorem dL_areFrames_596 : decode cL_areFrames 596 = .ok (.iconst 2, 1) := by decide +kernel
theorem dL_areFrames_597 : decode cL_areFrames 597 = .ok (.if_icmp .ne 8, 3) := by decide +kernel
theorem dL_areFrames_605 : decode cL_areFrames 605 = .ok (.iconst 1, 1) := by decide +kernel
theorem dL_areFrames_606 : decode cL_areFrames 606 = .ok (.goto 4, 3) := by decide +kernel
theorem dL_areFrames_610 : decode cL_areFrames 610 = .ok (.istore_n 1, 1) := by decide +kernel
theorem dL_areFrames_611 : decode cL_areFrames 611 = .ok (.iinc 4 1, 3) := by decide +kernel
theorem dL_areFrames_614 : decode cL_areFrames 614 = .ok (.goto (-274), 3) := by decide +kernel
theorem dL_areFrames_617 : decode cL_areFrames 617 = .ok (.iload_n 1, 1) := by decide +kernel
theorem dL_areFrames_618 : decode cL_areFrames 618 = .ok (.ifCond .eq 32, 3) := by decide +kernel
theorem dL_areFrames_621 : decode cL_areFrames 621 = .ok (.aload_n 0, 1) := by decide +kernel
theorem dL_areFrames_622 : decode cL_areFrames 622 = .ok (.invokevirtual 120, 3) := by decide +kernel
theorem dL_areFrames_625 : decode cL_areFrames 625 = .ok (.iload_n 2, 1) := by decide +kernel
theorem dL_areFrames_626 : decode cL_areFrames 626 = .ok (.if_icmp .ne 24, 3) := by decide +kernel
theorem dL_areFrames_629 : decode cL_areFrames 629 = .ok (.aload_n 0, 1) := by decide +kernel
theorem dL_areFrames_630 : decode cL_areFrames 630 = .ok (.invokevirtual 100, 3) := by decide +kernel
theorem dL_areFrames_633 : decode cL_areFrames 633 = .ok (.iload_n 3, 1) := by decide +kernel
theorem dL_areFrames_634 : decode cL_areFrames 634 = .ok (.if_icmp .ne 16, 3) := by decide +kernel
theorem dL_areFrames_637 : decode cL_areFrames 637 = .ok (.aload_n 0, 1) := by decide +kernel
theorem dL_areFrames_638 : decode cL_areFrames 638 = .ok (.iload_n 3, 1) := by decide +kernel
theorem dL_areFrames_639 : decode cL_areFrames 639 = .ok (.invokevirtual 86, 3) := by decide +kernel
theorem dL_areFrames_642 : decode cL_areFrames 642 = .ok (.iconst (-1), 1) := by decide +kernel
theorem dL_areFrames_643 : decode cL_areFrames 643 = .ok (.if_icmp .ne 7, 3) := by decide +kernel
theorem dL_areFrames_646 : decode cL_areFrames 646 = .ok (.iconst 1, 1) := by decide +kernel
theorem dL_areFrames_647 : decode cL_areFrames 647 = .ok (.goto 4, 3) := by decide +kernel
theorem dL_areFrames_651 : decode cL_areFrames 651 = .ok (.ireturn, 1) := by decide +kernel
set_option maxRecDepth 20000 in
theorem ggL_isRefused_X0_loans : GoodIn wsL_isRefused wsX0_loans := goodIn_r _ [5, 6, 276, 277, 278, 279, 280, 281, 282, 283, 284, 285, 286, 287, 288, 289, 290, 291, 292, 293, 294] (by decide +kernel) (by decide +kernel)
set_option maxRecDepth 20000 in
theorem gL_isRefused_X0_loans : GoodIn wsL_isRefused (wsV RL 105 RX0 yX0_loans wsX0_loans) := goodIn_app (goodIn_of _ (by decide +kernel)) ggL_isRefused_X0_loans
set_option maxRecDepth 20000 in
theorem ggL_isRefused_L_all : GoodIn wsL_isRefused wsL_all := goodIn_ca (goodIn_r _ [10, 11, 12, 13, 14, 15, 16, 17, 18, 19, 4, 20, 21, 22, 23, 24, 25, 26, 27, 28, 29, 30, 31, 32, 33, 34, 35, 36, 37, 38, 39, 1, 2, 3, 5, 6, 40, 41, 42, 43, 44, 45, 46, 47, 48, 49, 50, 51, 52, 53, 54, 55, 56, 57, 58, 59, 60, 61, 62, 63, 64, 65, 66, 67, 68, 69, 70, 71, 72, 73, 74, 75, 76, 77, 78, 79, 80, 81, 82, 276, 277, 278, 279, 280, 281, 282, 283, 284, 285, 286, 287, 288, 289, 290, 291, 292, 293, 294] (by decide +kernel) (by decide +kernel)) (goodIn_sub (fun _ h => List.mem_cons_of_mem _ (List.mem_append_left _ (List.mem_append_left _ (List.mem_append_right _ h)))) (by decide +kernel))
set_option maxRecDepth 20000 in
theorem gL_isRefused_L_all : GoodIn wsL_isRefused (va_wsS RL 143 yL_all wsL_all) := goodIn_app (goodIn_of _ (by decide +kernel)) ggL_isRefused_L_all
set_option maxRecDepth 20000 in
theorem ggL_isRefused_L_act : GoodIn wsL_isRefused wsL_act := goodIn_ca (goodIn_ca (goodIn_ca (goodIn_r _ [85, 86, 87, 88, 89, 90, 91, 4, 92, 44, 45, 93, 94, 95, 70, 71, 72, 96, 97, 98, 99, 100, 101, 102, 103, 104, 105, 106, 77, 69, 46, 51, 107, 108, 109, 110, 35, 37, 38, 39, 111, 112, 113, 114, 115, 116, 117, 118, 36, 119, 120, 121, 122, 123, 124, 125, 126, 127, 64, 21, 82, 128, 129, 130, 131, 132, 133, 134, 135, 136, 137, 138, 139, 140, 141, 142, 6, 143, 144, 145, 31, 32, 33, 34, 146, 147, 148, 149, 150, 151, 152, 153, 154, 155, 156, 157, 158, 159, 160, 161, 162, 163, 164, 165, 166, 60, 61, 62, 63, 167, 168, 169, 170, 171, 172, 173, 174, 175, 176, 177, 178, 179, 180, 181, 182, 183, 184, 185, 186, 187, 188, 189, 190, 191, 192, 193, 194, 195, 196, 197, 198, 199, 200, 201, 202, 203, 204, 205, 206, 207, 208, 209, 210, 211, 212, 213, 214, 215, 216, 26, 217, 218, 219, 220, 221, 222, 223, 224, 225, 226, 227, 228, 229, 230, 231, 232, 276, 277, 278, 279, 280, 281, 282, 283, 284, 285, 286, 287, 288, 289, 290, 291, 292, 293, 294] (by decide +kernel) (by decide +kernel)) (goodIn_sub (fun _ h => List.mem_cons_of_mem _ (List.mem_append_left _ (List.mem_append_left _ (List.mem_append_right _ h)))) (by decide +kernel))) (goodIn_sub (fun _ h => List.mem_cons_of_mem _ (List.mem_append_left _ (List.mem_append_right _ h))) (by decide +kernel))) (goodIn_sub (fun _ h => List.mem_cons_of_mem _ (List.mem_append_right _ h)) (by decide +kernel))
set_option maxRecDepth 20000 in
theorem gL_isRefused_L_act : GoodIn wsL_isRefused (va_wsS RL 131 yL_act wsL_act) := goodIn_app (goodIn_of _ (by decide +kernel)) ggL_isRefused_L_act

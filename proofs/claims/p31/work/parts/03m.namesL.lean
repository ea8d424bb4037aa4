set_option maxRecDepth 20000 in
theorem gL_law_L_act : GoodIn wsL_law (va_wsS RL 131 yL_act wsL_act) := goodIn_app (goodIn_of _ (by decide +kernel)) ggL_law_L_act
set_option maxRecDepth 20000 in
theorem ggL_law_X0_age : GoodIn wsL_law wsX0_age := goodIn_ca (goodIn_r _ [87, 74, 75, 67, 68, 2, 69, 88, 89, 90, 91, 18, 27, 19, 324, 325, 326, 327, 328, 329, 330, 331, 332, 333, 334, 335, 336, 337, 338, 339, 340, 341, 342] (by decide +kernel) (by decide +kernel)) (goodIn_sub (fun _ h => List.mem_append_left _ (List.mem_append_left _ (List.mem_append_right _ h))) (by decide +kernel))
set_option maxRecDepth 20000 in
theorem gL_law_X0_age : GoodIn wsL_law (wsV RL 55 RX0 yX0_age wsX0_age) := goodIn_app (goodIn_of _ (by decide +kernel)) ggL_law_X0_age
set_option maxRecDepth 20000 in
theorem ggL_law_X0_pageIn : GoodIn wsL_law wsX0_pageIn := goodIn_ca (goodIn_r _ [83, 74, 75, 16, 67, 68, 2, 69, 324, 325, 326, 327, 328, 329, 330, 331, 332, 333, 334, 335, 336, 337, 338, 339, 340, 341, 342] (by decide +kernel) (by decide +kernel)) (goodIn_sub (fun _ h => List.mem_append_left _ (List.mem_append_left _ (List.mem_append_right _ h))) (by decide +kernel))
set_option maxRecDepth 20000 in
theorem gL_law_X0_pageIn : GoodIn wsL_law (wsV RL 52 RX0 yX0_pageIn wsX0_pageIn) := goodIn_app (goodIn_of _ (by decide +kernel)) ggL_law_X0_pageIn
set_option maxRecDepth 20000 in
theorem ggL_law_X0_loans : GoodIn wsL_law wsX0_loans := goodIn_r _ [41, 25, 324, 325, 326, 327, 328, 329, 330, 331, 332, 333, 334, 335, 336, 337, 338, 339, 340, 341, 342] (by decide +kernel) (by decide +kernel)
set_option maxRecDepth 20000 in
theorem gL_law_X0_loans : GoodIn wsL_law (wsV RL 105 RX0 yX0_loans wsX0_loans) := goodIn_app (goodIn_of _ (by decide +kernel)) ggL_law_X0_loans
set_option maxRecDepth 20000 in
theorem ggL_law_X0_lasts : GoodIn wsL_law wsX0_lasts := goodIn_ca (goodIn_r _ [271, 74, 75, 23, 192, 193, 194, 2, 195, 25, 324, 325, 326, 327, 328, 329, 330, 331, 332, 333, 334, 335, 336, 337, 338, 339, 340, 341, 342] (by decide +kernel) (by decide +kernel)) (goodIn_sub (fun _ h => List.mem_append_left _ (List.mem_append_left _ (List.mem_append_right _ h))) (by decide +kernel))
set_option maxRecDepth 20000 in
theorem gL_law_X0_lasts : GoodIn wsL_law (wsV RL 76 RX0 yX0_lasts wsX0_lasts) := goodIn_app (goodIn_of _ (by decide +kernel)) ggL_law_X0_lasts
set_option maxRecDepth 20000 in
theorem ggL_law_X0_partiesOf : GoodIn wsL_law wsX0_partiesOf := goodIn_ca (goodIn_r _ [275, 74, 75, 20, 21, 22, 192, 193, 194, 2, 195, 25, 324, 325, 326, 327, 328, 329, 330, 331, 332, 333, 334, 335, 336, 337, 338, 339, 340, 341, 342] (by decide +kernel) (by decide +kernel)) (goodIn_sub (fun _ h => List.mem_append_left _ (List.mem_append_left _ (List.mem_append_right _ h))) (by decide +kernel))
set_option maxRecDepth 20000 in
theorem gL_law_X0_partiesOf : GoodIn wsL_law (wsV RL 80 RX0 yX0_partiesOf wsX0_partiesOf) := goodIn_app (goodIn_of _ (by decide +kernel)) ggL_law_X0_partiesOf

set_option maxRecDepth 20000 in
theorem gL_law_L_isRefused : GoodIn wsL_law (va_wsS RL 152 yL_isRefused wsL_isRefused) := goodIn_app (goodIn_of _ (by decide +kernel)) ggL_law_L_isRefused
set_option maxRecDepth 20000 in
theorem ggL_law_X0_free : GoodIn wsL_law wsX0_free := goodIn_r _ [291, 14, 324, 325, 326, 327, 328, 329, 330, 331, 332, 333, 334, 335, 336, 337, 338, 339, 340, 341, 342] (by decide +kernel) (by decide +kernel)
set_option maxRecDepth 20000 in
theorem gL_law_X0_free : GoodIn wsL_law (wsV RL 120 RX0 yX0_free wsX0_free) := goodIn_app (goodIn_of _ (by decide +kernel)) ggL_law_X0_free
set_option maxRecDepth 20000 in
theorem ggL_law_L_dice : GoodIn wsL_law wsL_dice := goodIn_r _ [294, 295, 296] (by decide +kernel) (by decide +kernel)
set_option maxRecDepth 20000 in
theorem gL_law_L_dice : GoodIn wsL_law (va_wsS RL 156 yL_dice wsL_dice) := goodIn_app (goodIn_of _ (by decide +kernel)) ggL_law_L_dice

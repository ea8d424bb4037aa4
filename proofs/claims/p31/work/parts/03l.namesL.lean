set_option maxRecDepth 20000 in
theorem ggL_law_L_act_q5 : GoodIn wsL_law wsL_act_r6 := goodIn_r _ [196, 197, 198, 199, 200, 201, 202, 203, 204, 205, 206, 207, 208, 209, 210, 211, 212, 213, 214, 215, 216, 24, 217, 218] (by decide +kernel) (by decide +kernel)
set_option maxRecDepth 20000 in
theorem ggL_law_L_act_q6 : GoodIn wsL_law wsL_act_r7 := goodIn_r _ [219, 220, 221, 222, 223, 224, 225, 226, 227, 228, 229, 230, 231, 232, 28, 233, 234, 235, 236, 237, 238, 239, 240, 241] (by decide +kernel) (by decide +kernel)
set_option maxRecDepth 20000 in
theorem ggL_law_L_act_q7 : GoodIn wsL_law wsL_act_r8 := goodIn_r _ [242, 243, 244, 245, 246, 247, 248] (by decide +kernel) (by decide +kernel)
set_option maxRecDepth 20000 in
theorem ggL_law_L_act_qx : GoodIn wsL_law wsX00 := goodIn_r _ [324, 325, 326, 327, 328, 329, 330, 331, 332, 333, 334, 335, 336, 337, 338, 339, 340, 341, 342] (by decide +kernel) (by decide +kernel)
set_option maxRecDepth 20000 in
theorem ggL_law_L_act_qh : GoodIn wsL_law [.codeWith yL_act cL_act 5 (some .int) [(0, 98, 99, 37), (0, 98, 105, 39), (0, 98, 111, 41)]] := goodIn_one 109 rfl (by decide +kernel)
set_option maxRecDepth 20000 in
theorem ggL_law_L_act : GoodIn wsL_law wsL_act := goodIn_ca (goodIn_ca (goodIn_ca (goodIn_cons ggL_law_L_act_qh (goodIn_app (goodIn_app ggL_law_L_act_q0 (goodIn_app ggL_law_L_act_q1 (goodIn_app ggL_law_L_act_q2 (goodIn_app ggL_law_L_act_q3 (goodIn_app ggL_law_L_act_q4 (goodIn_app ggL_law_L_act_q5 (goodIn_app ggL_law_L_act_q6 (ggL_law_L_act_q7)))))))) ggL_law_L_act_qx)) (goodIn_sub (fun _ h => List.mem_append_left _ (List.mem_append_left _ (List.mem_append_right _ h))) (by decide +kernel))) (goodIn_sub (fun _ h => List.mem_append_left _ (List.mem_append_right _ h)) (by decide +kernel))) (goodIn_sub (fun _ h => List.mem_append_right _ h) (by decide +kernel))

set_option maxRecDepth 20000 in
theorem ggL_law_L_areFrames_q4 : GoodIn wsL_law wsL_areFrames_r5 := goodIn_r _ [263, 172, 173, 174, 175, 264, 265, 266, 267, 92, 93, 94, 95, 11, 288, 289, 290, 291, 59, 60, 61, 62] (by decide +kernel) (by decide +kernel)
set_option maxRecDepth 20000 in
theorem ggL_law_L_areFrames_qx : GoodIn wsL_law wsX00 := goodIn_r _ [324, 325, 326, 327, 328, 329, 330, 331, 332, 333, 334, 335, 336, 337, 338, 339, 340, 341, 342] (by decide +kernel) (by decide +kernel)
set_option maxRecDepth 20000 in
theorem ggL_law_L_areFrames_qh : GoodIn wsL_law [.code yL_areFrames cL_areFrames 12 (some .boolean)] := goodIn_one 320 rfl (by decide +kernel)
set_option maxRecDepth 20000 in
theorem ggL_law_L_areFrames : GoodIn wsL_law wsL_areFrames := goodIn_ca (goodIn_cons ggL_law_L_areFrames_qh (goodIn_app (goodIn_app ggL_law_L_areFrames_q0 (goodIn_app ggL_law_L_areFrames_q1 (goodIn_app ggL_law_L_areFrames_q2 (goodIn_app ggL_law_L_areFrames_q3 (ggL_law_L_areFrames_q4))))) ggL_law_L_areFrames_qx)) (goodIn_sub (fun _ h => List.mem_append_left _ (List.mem_append_left _ (List.mem_append_right _ h))) (by decide +kernel))

theorem goodIn_one {big : List Cond} {c : Cond} (i : Nat) (h : big[i]? = some c) (hg : goodWord c = true) : GoodIn big [c] := fun w hw => by rw [List.mem_singleton.mp hw]; exact ⟨List.mem_of_getElem? h, good_of_word hg⟩
set_option maxRecDepth 20000 in
theorem ggL_law_L_isRefused_q7 : GoodIn wsL_law wsL_isRefused_r8 := goodIn_r _ [186, 187, 188, 189, 190, 191, 192, 193, 194, 195, 196, 197, 198, 199, 200, 201, 202, 203, 204, 205, 206, 207, 208, 209] (by decide +kernel) (by decide +kernel)
set_option maxRecDepth 20000 in
theorem ggL_law_L_isRefused_q8 : GoodIn wsL_law wsL_isRefused_r9 := goodIn_r _ [210, 211, 212, 213, 214, 215, 216, 24, 217, 218, 219, 220, 221, 222, 223, 224, 225, 226, 227, 228, 229, 230, 231, 232] (by decide +kernel) (by decide +kernel)
set_option maxRecDepth 20000 in
theorem ggL_law_L_isRefused_q9 : GoodIn wsL_law wsL_isRefused_r10 := goodIn_r _ [233, 234, 235, 236, 237, 238, 239, 240, 241, 242, 243, 244, 245, 246, 247, 248, 249, 250, 251, 252, 253, 254, 255, 256] (by decide +kernel) (by decide +kernel)
set_option maxRecDepth 20000 in
theorem ggL_law_L_isRefused_q10 : GoodIn wsL_law wsL_isRefused_r11 := goodIn_r _ [257, 258, 259, 260, 261, 262, 263, 264, 265, 266, 267, 268, 269, 270, 271, 272, 273, 274, 275, 276, 277, 278, 279, 280] (by decide +kernel) (by decide +kernel)
set_option maxRecDepth 20000 in
theorem ggL_law_L_isRefused_q11 : GoodIn wsL_law wsL_isRefused_r12 := goodIn_r _ [281, 282, 283, 284, 285, 286, 287, 288, 289, 290, 291] (by decide +kernel) (by decide +kernel)
set_option maxRecDepth 20000 in
theorem ggL_law_L_isRefused_qx : GoodIn wsL_law wsX00 := goodIn_r _ [324, 325, 326, 327, 328, 329, 330, 331, 332, 333, 334, 335, 336, 337, 338, 339, 340, 341, 342] (by decide +kernel) (by decide +kernel)
set_option maxRecDepth 20000 in
theorem ggL_law_L_isRefused_qh : GoodIn wsL_law [.code yL_isRefused cL_isRefused 12 (some .boolean)] := goodIn_one 37 rfl (by decide +kernel)
set_option maxRecDepth 20000 in
theorem ggL_law_L_isRefused : GoodIn wsL_law wsL_isRefused := goodIn_ca (goodIn_ca (goodIn_ca (goodIn_cons ggL_law_L_isRefused_qh (goodIn_app (goodIn_app ggL_law_L_isRefused_q0 (goodIn_app ggL_law_L_isRefused_q1 (goodIn_app ggL_law_L_isRefused_q2 (goodIn_app ggL_law_L_isRefused_q3 (goodIn_app ggL_law_L_isRefused_q4 (goodIn_app ggL_law_L_isRefused_q5 (goodIn_app ggL_law_L_isRefused_q6 (goodIn_app ggL_law_L_isRefused_q7 (goodIn_app ggL_law_L_isRefused_q8 (goodIn_app ggL_law_L_isRefused_q9 (goodIn_app ggL_law_L_isRefused_q10 (ggL_law_L_isRefused_q11)))))))))))) ggL_law_L_isRefused_qx)) (goodIn_sub (fun _ h => List.mem_append_left _ (List.mem_append_left _ (List.mem_append_right _ h))) (by decide +kernel))) (goodIn_sub (fun _ h => List.mem_append_left _ (List.mem_append_right _ h)) (by decide +kernel))) (goodIn_sub (fun _ h => List.mem_append_right _ h) (by decide +kernel))

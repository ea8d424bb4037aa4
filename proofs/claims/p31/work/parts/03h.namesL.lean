theorem goodIn_cons {big : List Cond} {c : Cond} {L : List Cond} (h1 : GoodIn big [c]) (h2 : GoodIn big L) : GoodIn big (c :: L) := fun w h => (List.mem_cons.mp h).elim (fun e => h1 w (by rw [e]; exact List.mem_singleton.mpr rfl)) (h2 w)
set_option maxRecDepth 20000 in
theorem ggL_law_L_isRefused_q0 : GoodIn wsL_law wsL_isRefused_r1 := goodIn_r _ [38, 39, 40, 2, 41, 25, 42, 43, 36, 44, 45, 46, 47, 48, 49, 50, 51, 52, 53, 54, 27, 55, 56, 57] (by decide +kernel) (by decide +kernel)
set_option maxRecDepth 20000 in
theorem ggL_law_L_isRefused_q1 : GoodIn wsL_law wsL_isRefused_r2 := goodIn_r _ [58, 28, 59, 60, 61, 62, 63, 64, 65, 66, 16, 18, 67, 68, 69, 70, 71, 72, 73, 74, 75, 14, 76, 77] (by decide +kernel) (by decide +kernel)
set_option maxRecDepth 20000 in
theorem ggL_law_L_isRefused_q2 : GoodIn wsL_law wsL_isRefused_r3 := goodIn_r _ [78, 79, 15, 80, 81, 82, 83, 84, 85, 86, 87, 88, 89, 90, 91, 19, 92, 93, 94, 95, 11, 96, 97, 98] (by decide +kernel) (by decide +kernel)
set_option maxRecDepth 20000 in
theorem ggL_law_L_isRefused_q3 : GoodIn wsL_law wsL_isRefused_r4 := goodIn_r _ [99, 100, 101, 102, 12, 103, 104, 105, 106, 13, 107, 108, 109, 110, 111, 112, 113, 114, 115, 116, 117, 118, 10, 119] (by decide +kernel) (by decide +kernel)
set_option maxRecDepth 20000 in
theorem ggL_law_L_isRefused_q4 : GoodIn wsL_law wsL_isRefused_r5 := goodIn_r _ [120, 121, 122, 26, 123, 124, 125, 126, 127, 128, 129, 130, 131, 132, 133, 134, 135, 136, 137, 138, 139, 140, 141, 142] (by decide +kernel) (by decide +kernel)
set_option maxRecDepth 20000 in
theorem ggL_law_L_isRefused_q5 : GoodIn wsL_law wsL_isRefused_r6 := goodIn_r _ [143, 144, 29, 145, 146, 147, 148, 149, 150, 151, 152, 153, 154, 155, 156, 157, 158, 159, 160, 161, 162, 163, 23, 21] (by decide +kernel) (by decide +kernel)
set_option maxRecDepth 20000 in
theorem ggL_law_L_isRefused_q6 : GoodIn wsL_law wsL_isRefused_r7 := goodIn_r _ [20, 164, 165, 166, 167, 168, 169, 170, 171, 22, 172, 173, 174, 175, 176, 177, 178, 179, 180, 181, 182, 183, 184, 185] (by decide +kernel) (by decide +kernel)

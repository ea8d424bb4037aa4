set_option maxRecDepth 20000 in
theorem ggL_law_L_act_q0 : GoodIn wsL_law wsL_act_r1 := goodIn_r _ [110, 111, 112, 113, 114, 115, 2, 116, 74, 75, 117, 118, 10, 96, 97, 98, 119, 120, 121, 122, 26, 123, 124, 125] (by decide +kernel) (by decide +kernel)
set_option maxRecDepth 20000 in
theorem ggL_law_L_act_q1 : GoodIn wsL_law wsL_act_r2 := goodIn_r _ [126, 127, 128, 12, 11, 14, 15, 129, 130, 131, 132, 16, 67, 68, 69, 133, 134, 135, 136, 137, 138, 139, 140, 18] (by decide +kernel) (by decide +kernel)
set_option maxRecDepth 20000 in
theorem ggL_law_L_act_q2 : GoodIn wsL_law wsL_act_r3 := goodIn_r _ [141, 142, 143, 144, 29, 145, 146, 147, 148, 19, 27, 13, 149, 150, 151, 152, 153, 154, 155, 156, 157, 158, 159, 160] (by decide +kernel) (by decide +kernel)
set_option maxRecDepth 20000 in
theorem ggL_law_L_act_q3 : GoodIn wsL_law wsL_act_r4 := goodIn_r _ [161, 162, 163, 25, 23, 21, 20, 63, 64, 65, 66, 164, 165, 166, 167, 168, 169, 170, 171, 22, 172, 173, 174, 175] (by decide +kernel) (by decide +kernel)
set_option maxRecDepth 20000 in
theorem ggL_law_L_act_q4 : GoodIn wsL_law wsL_act_r5 := goodIn_r _ [176, 177, 178, 179, 180, 181, 182, 183, 88, 89, 90, 91, 184, 185, 186, 187, 188, 189, 190, 191, 192, 193, 194, 195] (by decide +kernel) (by decide +kernel)

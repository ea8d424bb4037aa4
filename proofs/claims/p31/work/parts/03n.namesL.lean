set_option maxRecDepth 20000 in
theorem ggL_law_L_areFrames_q0 : GoodIn wsL_law wsL_areFrames_r1 := goodIn_r _ [51, 52, 53, 2, 54, 27, 70, 71, 72, 73, 74, 75, 14, 67, 68, 69, 321, 322, 36, 323, 38, 39, 40, 41] (by decide +kernel) (by decide +kernel)
set_option maxRecDepth 20000 in
theorem ggL_law_L_areFrames_q1 : GoodIn wsL_law wsL_areFrames_r2 := goodIn_r _ [25, 268, 269, 270, 271, 23, 192, 193, 194, 195, 272, 273, 274, 275, 20, 21, 22, 76, 77, 78, 79, 15, 252, 253] (by decide +kernel) (by decide +kernel)
set_option maxRecDepth 20000 in
theorem ggL_law_L_areFrames_q2 : GoodIn wsL_law wsL_areFrames_r3 := goodIn_r _ [254, 255, 99, 100, 101, 102, 12, 96, 97, 98, 80, 81, 82, 83, 16, 84, 85, 86, 87, 88, 89, 90, 91, 18] (by decide +kernel) (by decide +kernel)
set_option maxRecDepth 20000 in
theorem ggL_law_L_areFrames_q3 : GoodIn wsL_law wsL_areFrames_r4 := goodIn_r _ [19, 280, 281, 282, 283, 284, 285, 286, 287, 63, 64, 65, 66, 241, 242, 243, 244, 256, 257, 258, 259, 260, 261, 262] (by decide +kernel) (by decide +kernel)

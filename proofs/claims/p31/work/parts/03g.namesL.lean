set_option maxRecDepth 20000 in
theorem ggL_isRefused_L_of : GoodIn wsL_isRefused wsL_of := goodIn_ca (goodIn_r _ [235, 86, 40, 41, 42, 4, 43, 44, 45, 46, 37, 38, 39, 47, 48, 49, 50, 51, 236, 237, 238, 239, 6, 143, 145, 154, 52, 53, 54, 55, 35, 56, 57, 58, 59, 60, 61, 62, 63, 36, 21, 64, 240, 241, 242, 243, 70, 71, 72, 244, 245, 246, 247, 155, 156, 157, 158, 248, 249, 250, 251, 73, 74, 75, 76, 77, 65, 66, 67, 68, 69, 78, 79, 80, 81, 82, 252, 253, 254, 255, 175, 176, 177, 178, 256, 257, 258, 259, 144, 260, 261, 262, 263, 200, 264, 265, 266, 267, 268, 269, 270, 271, 31, 32, 33, 34, 225, 226, 227, 228, 276, 277, 278, 279, 280, 281, 282, 283, 284, 285, 286, 287, 288, 289, 290, 291, 292, 293, 294] (by decide +kernel) (by decide +kernel)) (goodIn_sub (fun _ h => List.mem_cons_of_mem _ (List.mem_append_left _ (List.mem_append_left _ (List.mem_append_right _ h)))) (by decide +kernel))
set_option maxRecDepth 20000 in
theorem gL_isRefused_L_of : GoodIn wsL_isRefused (va_wsS RL 147 yL_of wsL_of) := goodIn_app (goodIn_of _ (by decide +kernel)) ggL_isRefused_L_of
set_option maxRecDepth 20000 in
theorem ggL_isRefused_X0_owner : GoodIn wsL_isRefused wsX0_owner := goodIn_ca (goodIn_r _ [43, 44, 45, 46, 37, 38, 4, 39, 276, 277, 278, 279, 280, 281, 282, 283, 284, 285, 286, 287, 288, 289, 290, 291, 292, 293, 294] (by decide +kernel) (by decide +kernel)) (goodIn_sub (fun _ h => List.mem_cons_of_mem _ (List.mem_append_left _ (List.mem_append_left _ (List.mem_append_right _ h)))) (by decide +kernel))
set_option maxRecDepth 20000 in
theorem gL_isRefused_X0_owner : GoodIn wsL_isRefused (wsV RL 43 RX0 yX0_owner wsX0_owner) := goodIn_app (goodIn_of _ (by decide +kernel)) ggL_isRefused_X0_owner
set_option maxRecDepth 20000 in
theorem ggL_isRefused_X0_holder : GoodIn wsL_isRefused wsX0_holder := goodIn_ca (goodIn_r _ [50, 44, 45, 51, 37, 38, 4, 39, 276, 277, 278, 279, 280, 281, 282, 283, 284, 285, 286, 287, 288, 289, 290, 291, 292, 293, 294] (by decide +kernel) (by decide +kernel)) (goodIn_sub (fun _ h => List.mem_cons_of_mem _ (List.mem_append_left _ (List.mem_append_left _ (List.mem_append_right _ h)))) (by decide +kernel))
set_option maxRecDepth 20000 in
theorem gL_isRefused_X0_holder : GoodIn wsL_isRefused (wsV RL 46 RX0 yX0_holder wsX0_holder) := goodIn_app (goodIn_of _ (by decide +kernel)) ggL_isRefused_X0_holder
set_option maxRecDepth 20000 in
theorem ggL_isRefused_X0_pageIn : GoodIn wsL_isRefused wsX0_pageIn := goodIn_ca (goodIn_r _ [55, 44, 45, 35, 37, 38, 4, 39, 276, 277, 278, 279, 280, 281, 282, 283, 284, 285, 286, 287, 288, 289, 290, 291, 292, 293, 294] (by decide +kernel) (by decide +kernel)) (goodIn_sub (fun _ h => List.mem_cons_of_mem _ (List.mem_append_left _ (List.mem_append_left _ (List.mem_append_right _ h)))) (by decide +kernel))
set_option maxRecDepth 20000 in
theorem gL_isRefused_X0_pageIn : GoodIn wsL_isRefused (wsV RL 52 RX0 yX0_pageIn wsX0_pageIn) := goodIn_app (goodIn_of _ (by decide +kernel)) ggL_isRefused_X0_pageIn
set_option maxRecDepth 20000 in
theorem ggL_isRefused_X0_stateOf : GoodIn wsL_isRefused wsX0_stateOf := goodIn_ca (goodIn_r _ [76, 44, 45, 77, 70, 71, 4, 72, 276, 277, 278, 279, 280, 281, 282, 283, 284, 285, 286, 287, 288, 289, 290, 291, 292, 293, 294] (by decide +kernel) (by decide +kernel)) (goodIn_sub (fun _ h => List.mem_cons_of_mem _ (List.mem_append_left _ (List.mem_append_left _ (List.mem_append_right _ h)))) (by decide +kernel))
set_option maxRecDepth 20000 in
theorem gL_isRefused_X0_stateOf : GoodIn wsL_isRefused (wsV RL 67 RX0 yX0_stateOf wsX0_stateOf) := goodIn_app (goodIn_of _ (by decide +kernel)) ggL_isRefused_X0_stateOf
set_option maxRecDepth 20000 in
theorem ggL_isRefused_X0_age : GoodIn wsL_isRefused wsX0_age := goodIn_ca (goodIn_r _ [59, 44, 45, 37, 38, 4, 39, 60, 61, 62, 63, 36, 21, 64, 276, 277, 278, 279, 280, 281, 282, 283, 284, 285, 286, 287, 288, 289, 290, 291, 292, 293, 294] (by decide +kernel) (by decide +kernel)) (goodIn_sub (fun _ h => List.mem_cons_of_mem _ (List.mem_append_left _ (List.mem_append_left _ (List.mem_append_right _ h)))) (by decide +kernel))
set_option maxRecDepth 20000 in
theorem gL_isRefused_X0_age : GoodIn wsL_isRefused (wsV RL 55 RX0 yX0_age wsX0_age) := goodIn_app (goodIn_of _ (by decide +kernel)) ggL_isRefused_X0_age
set_option maxRecDepth 20000 in
theorem ggL_isRefused_X0_purse : GoodIn wsL_isRefused wsX0_purse := goodIn_ca (goodIn_r _ [68, 44, 45, 69, 70, 71, 4, 72, 276, 277, 278, 279, 280, 281, 282, 283, 284, 285, 286, 287, 288, 289, 290, 291, 292, 293, 294] (by decide +kernel) (by decide +kernel)) (goodIn_sub (fun _ h => List.mem_cons_of_mem _ (List.mem_append_left _ (List.mem_append_left _ (List.mem_append_right _ h)))) (by decide +kernel))
set_option maxRecDepth 20000 in
theorem gL_isRefused_X0_purse : GoodIn wsL_isRefused (wsV RL 70 RX0 yX0_purse wsX0_purse) := goodIn_app (goodIn_of _ (by decide +kernel)) ggL_isRefused_X0_purse
set_option maxRecDepth 20000 in
theorem ggL_isRefused_X0_free : GoodIn wsL_isRefused wsX0_free := goodIn_r _ [275, 46, 276, 277, 278, 279, 280, 281, 282, 283, 284, 285, 286, 287, 288, 289, 290, 291, 292, 293, 294] (by decide +kernel) (by decide +kernel)
set_option maxRecDepth 20000 in
theorem gL_isRefused_X0_free : GoodIn wsL_isRefused (wsV RL 120 RX0 yX0_free wsX0_free) := goodIn_app (goodIn_of _ (by decide +kernel)) ggL_isRefused_X0_free
set_option maxRecDepth 20000 in
theorem ggL_isRefused_X0_partiesOf : GoodIn wsL_isRefused wsX0_partiesOf := goodIn_ca (goodIn_r _ [259, 44, 45, 145, 144, 154, 175, 176, 177, 4, 178, 6, 276, 277, 278, 279, 280, 281, 282, 283, 284, 285, 286, 287, 288, 289, 290, 291, 292, 293, 294] (by decide +kernel) (by decide +kernel)) (goodIn_sub (fun _ h => List.mem_cons_of_mem _ (List.mem_append_left _ (List.mem_append_left _ (List.mem_append_right _ h)))) (by decide +kernel))
set_option maxRecDepth 20000 in
theorem gL_isRefused_X0_partiesOf : GoodIn wsL_isRefused (wsV RL 80 RX0 yX0_partiesOf wsX0_partiesOf) := goodIn_app (goodIn_of _ (by decide +kernel)) ggL_isRefused_X0_partiesOf
set_option maxRecDepth 20000 in
theorem ggL_isRefused_X0_lasts : GoodIn wsL_isRefused wsX0_lasts := goodIn_ca (goodIn_r _ [255, 44, 45, 143, 175, 176, 177, 4, 178, 6, 276, 277, 278, 279, 280, 281, 282, 283, 284, 285, 286, 287, 288, 289, 290, 291, 292, 293, 294] (by decide +kernel) (by decide +kernel)) (goodIn_sub (fun _ h => List.mem_cons_of_mem _ (List.mem_append_left _ (List.mem_append_left _ (List.mem_append_right _ h)))) (by decide +kernel))
set_option maxRecDepth 20000 in
theorem gL_isRefused_X0_lasts : GoodIn wsL_isRefused (wsV RL 76 RX0 yX0_lasts wsX0_lasts) := goodIn_app (goodIn_of _ (by decide +kernel)) ggL_isRefused_X0_lasts
theorem dL_isRefused_0 : decode cL_isRefused 0 = .ok (.iload_n 1, 1) := by decide +kernel
theorem dL_isRefused_1 : decode cL_isRefused 1 = .ok (.iconst 2, 1) := by decide +kernel
theorem dL_isRefused_2 : decode cL_isRefused 2 = .ok (.irem, 1) := by decide +kernel
theorem dL_isRefused_3 : decode cL_isRefused 3 = .ok (.ifCond .ne 7, 3) := by decide +kernel
theorem dL_isRefused_6 : decode cL_isRefused 6 = .ok (.iconst 1, 1) := by decide +kernel
theorem dL_isRefused_7 : decode cL_isRefused 7 = .ok (.goto 4, 3) := by decide +kernel
theorem dL_isRefused_10 : decode cL_isRefused 10 = .ok (.iconst 0, 1) := by decide +kernel
theorem dL_isRefused_11 : decode cL_isRefused 11 = .ok (.istore_n 2, 1) := by decide +kernel
theorem dL_isRefused_12 : decode cL_isRefused 12 = .ok (.iload_n 2, 1) := by decide +kernel
theorem dL_isRefused_13 : decode cL_isRefused 13 = .ok (.ifCond .eq 12, 3) := by decide +kernel
theorem dL_isRefused_16 : decode cL_isRefused 16 = .ok (.iconst (-1), 1) := by decide +kernel
theorem dL_isRefused_17 : decode cL_isRefused 17 = .ok (.iload_n 1, 1) := by decide +kernel
theorem dL_isRefused_18 : decode cL_isRefused 18 = .ok (.bipush 30, 2) := by decide +kernel
theorem dL_isRefused_20 : decode cL_isRefused 20 = .ok (.irem, 1) := by decide +kernel
theorem dL_isRefused_21 : decode cL_isRefused 21 = .ok (.isub, 1) := by decide +kernel
theorem dL_isRefused_22 : decode cL_isRefused 22 = .ok (.goto 9, 3) := by decide +kernel
theorem dL_isRefused_25 : decode cL_isRefused 25 = .ok (.iconst 5, 1) := by decide +kernel
theorem dL_isRefused_26 : decode cL_isRefused 26 = .ok (.iload_n 1, 1) := by decide +kernel
theorem dL_isRefused_27 : decode cL_isRefused 27 = .ok (.bipush 30, 2) := by decide +kernel
theorem dL_isRefused_29 : decode cL_isRefused 29 = .ok (.irem, 1) := by decide +kernel
theorem dL_isRefused_30 : decode cL_isRefused 30 = .ok (.iadd, 1) := by decide +kernel
theorem dL_isRefused_31 : decode cL_isRefused 31 = .ok (.istore_n 3, 1) := by decide +kernel
theorem dL_isRefused_32 : decode cL_isRefused 32 = .ok (.iload_n 2, 1) := by decide +kernel
theorem dL_isRefused_33 : decode cL_isRefused 33 = .ok (.ifCond .eq 12, 3) := by decide +kernel
theorem dL_isRefused_36 : decode cL_isRefused 36 = .ok (.iconst (-1), 1) := by decide +kernel
theorem dL_isRefused_37 : decode cL_isRefused 37 = .ok (.iload_n 1, 1) := by decide +kernel
theorem dL_isRefused_38 : decode cL_isRefused 38 = .ok (.bipush 30, 2) := by decide +kernel
theorem dL_isRefused_40 : decode cL_isRefused 40 = .ok (.irem, 1) := by decide +kernel
theorem dL_isRefused_41 : decode cL_isRefused 41 = .ok (.isub, 1) := by decide +kernel
theorem dL_isRefused_42 : decode cL_isRefused 42 = .ok (.goto 10, 3) := by decide +kernel
theorem dL_isRefused_45 : decode cL_isRefused 45 = .ok (.bipush 12, 2) := by decide +kernel
theorem dL_isRefused_47 : decode cL_isRefused 47 = .ok (.iload_n 1, 1) := by decide +kernel
theorem dL_isRefused_48 : decode cL_isRefused 48 = .ok (.bipush 30, 2) := by decide +kernel
theorem dL_isRefused_50 : decode cL_isRefused 50 = .ok (.irem, 1) := by decide +kernel
theorem dL_isRefused_51 : decode cL_isRefused 51 = .ok (.iadd, 1) := by decide +kernel
theorem dL_isRefused_52 : decode cL_isRefused 52 = .ok (.istore 4, 2) := by decide +kernel
theorem dL_isRefused_54 : decode cL_isRefused 54 = .ok (.iload_n 2, 1) := by decide +kernel
theorem dL_isRefused_55 : decode cL_isRefused 55 = .ok (.ifCond .eq 12, 3) := by decide +kernel
theorem dL_isRefused_58 : decode cL_isRefused 58 = .ok (.iconst (-1), 1) := by decide +kernel
theorem dL_isRefused_59 : decode cL_isRefused 59 = .ok (.iload_n 1, 1) := by decide +kernel
theorem dL_isRefused_60 : decode cL_isRefused 60 = .ok (.bipush 30, 2) := by decide +kernel
theorem dL_isRefused_62 : decode cL_isRefused 62 = .ok (.irem, 1) := by decide +kernel
theorem dL_isRefused_63 : decode cL_isRefused 63 = .ok (.isub, 1) := by decide +kernel
theorem dL_isRefused_64 : decode cL_isRefused 64 = .ok (.goto 12, 3) := by decide +kernel
theorem dL_isRefused_67 : decode cL_isRefused 67 = .ok (.aload_n 0, 1) := by decide +kernel
theorem dL_isRefused_68 : decode cL_isRefused 68 = .ok (.invokevirtual 105, 3) := by decide +kernel
theorem dL_isRefused_71 : decode cL_isRefused 71 = .ok (.iload_n 1, 1) := by decide +kernel
theorem dL_isRefused_72 : decode cL_isRefused 72 = .ok (.bipush 30, 2) := by decide +kernel
theorem dL_isRefused_74 : decode cL_isRefused 74 = .ok (.irem, 1) := by decide +kernel
theorem dL_isRefused_75 : decode cL_isRefused 75 = .ok (.iadd, 1) := by decide +kernel
theorem dL_isRefused_76 : decode cL_isRefused 76 = .ok (.istore 5, 2) := by decide +kernel
theorem dL_isRefused_78 : decode cL_isRefused 78 = .ok (.aload_n 0, 1) := by decide +kernel
theorem dL_isRefused_79 : decode cL_isRefused 79 = .ok (.invokestatic 143, 3) := by decide +kernel
theorem dL_isRefused_82 : decode cL_isRefused 82 = .ok (.lstore 6, 2) := by decide +kernel
theorem dL_isRefused_84 : decode cL_isRefused 84 = .ok (.aload_n 0, 1) := by decide +kernel
theorem dL_isRefused_85 : decode cL_isRefused 85 = .ok (.iconst 0, 1) := by decide +kernel
theorem dL_isRefused_86 : decode cL_isRefused 86 = .ok (.iload_n 3, 1) := by decide +kernel
theorem dL_isRefused_87 : decode cL_isRefused 87 = .ok (.iconst (-1), 1) := by decide +kernel
theorem dL_isRefused_88 : decode cL_isRefused 88 = .ok (.invokestatic 131, 3) := by decide +kernel
theorem dL_isRefused_91 : decode cL_isRefused 91 = .ok (.sipush (-1211), 3) := by decide +kernel
theorem dL_isRefused_94 : decode cL_isRefused 94 = .ok (.if_icmp .ne 223, 3) := by decide +kernel
theorem dL_isRefused_97 : decode cL_isRefused 97 = .ok (.aload_n 0, 1) := by decide +kernel
theorem dL_isRefused_98 : decode cL_isRefused 98 = .ok (.iconst 0, 1) := by decide +kernel
theorem dL_isRefused_99 : decode cL_isRefused 99 = .ok (.iload_n 1, 1) := by decide +kernel
theorem dL_isRefused_100 : decode cL_isRefused 100 = .ok (.iconst 5, 1) := by decide +kernel
theorem dL_isRefused_101 : decode cL_isRefused 101 = .ok (.irem, 1) := by decide +kernel
theorem dL_isRefused_102 : decode cL_isRefused 102 = .ok (.iload_n 2, 1) := by decide +kernel
theorem dL_isRefused_103 : decode cL_isRefused 103 = .ok (.ifCond .eq 12, 3) := by decide +kernel
theorem dL_isRefused_106 : decode cL_isRefused 106 = .ok (.iconst (-1), 1) := by decide +kernel
theorem dL_isRefused_107 : decode cL_isRefused 107 = .ok (.iload_n 1, 1) := by decide +kernel
theorem dL_isRefused_108 : decode cL_isRefused 108 = .ok (.bipush 30, 2) := by decide +kernel
theorem dL_isRefused_110 : decode cL_isRefused 110 = .ok (.irem, 1) := by decide +kernel
theorem dL_isRefused_111 : decode cL_isRefused 111 = .ok (.isub, 1) := by decide +kernel
theorem dL_isRefused_112 : decode cL_isRefused 112 = .ok (.goto 5, 3) := by decide +kernel
theorem dL_isRefused_115 : decode cL_isRefused 115 = .ok (.bipush 10, 2) := by decide +kernel
theorem dL_isRefused_117 : decode cL_isRefused 117 = .ok (.invokestatic 131, 3) := by decide +kernel
theorem dL_isRefused_120 : decode cL_isRefused 120 = .ok (.sipush (-1212), 3) := by decide +kernel
theorem dL_isRefused_123 : decode cL_isRefused 123 = .ok (.if_icmp .ne 194, 3) := by decide +kernel
theorem dL_isRefused_126 : decode cL_isRefused 126 = .ok (.aload_n 0, 1) := by decide +kernel
theorem dL_isRefused_127 : decode cL_isRefused 127 = .ok (.iconst 1, 1) := by decide +kernel
theorem dL_isRefused_128 : decode cL_isRefused 128 = .ok (.iload_n 2, 1) := by decide +kernel
theorem dL_isRefused_129 : decode cL_isRefused 129 = .ok (.ifCond .eq 12, 3) := by decide +kernel
theorem dL_isRefused_132 : decode cL_isRefused 132 = .ok (.iconst (-1), 1) := by decide +kernel
theorem dL_isRefused_133 : decode cL_isRefused 133 = .ok (.iload_n 1, 1) := by decide +kernel
theorem dL_isRefused_134 : decode cL_isRefused 134 = .ok (.bipush 30, 2) := by decide +kernel
theorem dL_isRefused_136 : decode cL_isRefused 136 = .ok (.irem, 1) := by decide +kernel
theorem dL_isRefused_137 : decode cL_isRefused 137 = .ok (.isub, 1) := by decide +kernel
theorem dL_isRefused_138 : decode cL_isRefused 138 = .ok (.goto 10, 3) := by decide +kernel
theorem dL_isRefused_141 : decode cL_isRefused 141 = .ok (.bipush 10, 2) := by decide +kernel
theorem dL_isRefused_143 : decode cL_isRefused 143 = .ok (.iload_n 1, 1) := by decide +kernel
theorem dL_isRefused_144 : decode cL_isRefused 144 = .ok (.bipush 30, 2) := by decide +kernel
theorem dL_isRefused_146 : decode cL_isRefused 146 = .ok (.irem, 1) := by decide +kernel
theorem dL_isRefused_147 : decode cL_isRefused 147 = .ok (.iadd, 1) := by decide +kernel
theorem dL_isRefused_148 : decode cL_isRefused 148 = .ok (.iconst 0, 1) := by decide +kernel
theorem dL_isRefused_149 : decode cL_isRefused 149 = .ok (.invokestatic 131, 3) := by decide +kernel
theorem dL_isRefused_152 : decode cL_isRefused 152 = .ok (.sipush (-1212), 3) := by decide +kernel
theorem dL_isRefused_155 : decode cL_isRefused 155 = .ok (.if_icmp .ne 162, 3) := by decide +kernel
theorem dL_isRefused_158 : decode cL_isRefused 158 = .ok (.aload_n 0, 1) := by decide +kernel
theorem dL_isRefused_159 : decode cL_isRefused 159 = .ok (.iconst 2, 1) := by decide +kernel
theorem dL_isRefused_160 : decode cL_isRefused 160 = .ok (.iload_n 3, 1) := by decide +kernel
theorem dL_isRefused_161 : decode cL_isRefused 161 = .ok (.iconst 0, 1) := by decide +kernel
theorem dL_isRefused_162 : decode cL_isRefused 162 = .ok (.invokestatic 131, 3) := by decide +kernel
theorem dL_isRefused_165 : decode cL_isRefused 165 = .ok (.sipush (-1211), 3) := by decide +kernel
theorem dL_isRefused_168 : decode cL_isRefused 168 = .ok (.if_icmp .ne 149, 3) := by decide +kernel
theorem dL_isRefused_171 : decode cL_isRefused 171 = .ok (.aload_n 0, 1) := by decide +kernel
theorem dL_isRefused_172 : decode cL_isRefused 172 = .ok (.iconst 3, 1) := by decide +kernel
theorem dL_isRefused_173 : decode cL_isRefused 173 = .ok (.iload 4, 2) := by decide +kernel
theorem dL_isRefused_175 : decode cL_isRefused 175 = .ok (.iconst 0, 1) := by decide +kernel
theorem dL_isRefused_176 : decode cL_isRefused 176 = .ok (.invokestatic 131, 3) := by decide +kernel
theorem dL_isRefused_179 : decode cL_isRefused 179 = .ok (.sipush (-1211), 3) := by decide +kernel
theorem dL_isRefused_182 : decode cL_isRefused 182 = .ok (.if_icmp .ne 135, 3) := by decide +kernel
theorem dL_isRefused_185 : decode cL_isRefused 185 = .ok (.aload_n 0, 1) := by decide +kernel
theorem dL_isRefused_186 : decode cL_isRefused 186 = .ok (.iconst 4, 1) := by decide +kernel
theorem dL_isRefused_187 : decode cL_isRefused 187 = .ok (.iload 4, 2) := by decide +kernel
theorem dL_isRefused_189 : decode cL_isRefused 189 = .ok (.iconst 0, 1) := by decide +kernel
theorem dL_isRefused_190 : decode cL_isRefused 190 = .ok (.invokestatic 131, 3) := by decide +kernel
theorem dL_isRefused_193 : decode cL_isRefused 193 = .ok (.sipush (-1211), 3) := by decide +kernel
theorem dL_isRefused_196 : decode cL_isRefused 196 = .ok (.if_icmp .ne 121, 3) := by decide +kernel
theorem dL_isRefused_199 : decode cL_isRefused 199 = .ok (.aload_n 0, 1) := by decide +kernel
theorem dL_isRefused_200 : decode cL_isRefused 200 = .ok (.iconst 5, 1) := by decide +kernel
theorem dL_isRefused_201 : decode cL_isRefused 201 = .ok (.iload_n 3, 1) := by decide +kernel
theorem dL_isRefused_202 : decode cL_isRefused 202 = .ok (.iconst 0, 1) := by decide +kernel
theorem dL_isRefused_203 : decode cL_isRefused 203 = .ok (.invokestatic 131, 3) := by decide +kernel
theorem dL_isRefused_206 : decode cL_isRefused 206 = .ok (.sipush (-1211), 3) := by decide +kernel
theorem dL_isRefused_209 : decode cL_isRefused 209 = .ok (.if_icmp .ne 108, 3) := by decide +kernel
theorem dL_isRefused_212 : decode cL_isRefused 212 = .ok (.aload_n 0, 1) := by decide +kernel
theorem dL_isRefused_213 : decode cL_isRefused 213 = .ok (.iconst 5, 1) := by decide +kernel
theorem dL_isRefused_214 : decode cL_isRefused 214 = .ok (.iload_n 1, 1) := by decide +kernel
theorem dL_isRefused_215 : decode cL_isRefused 215 = .ok (.iconst 5, 1) := by decide +kernel
theorem dL_isRefused_216 : decode cL_isRefused 216 = .ok (.irem, 1) := by decide +kernel
theorem dL_isRefused_217 : decode cL_isRefused 217 = .ok (.iload_n 2, 1) := by decide +kernel
theorem dL_isRefused_218 : decode cL_isRefused 218 = .ok (.ifCond .eq 12, 3) := by decide +kernel
theorem dL_isRefused_221 : decode cL_isRefused 221 = .ok (.iconst (-1), 1) := by decide +kernel
theorem dL_isRefused_222 : decode cL_isRefused 222 = .ok (.iload_n 1, 1) := by decide +kernel
theorem dL_isRefused_223 : decode cL_isRefused 223 = .ok (.bipush 30, 2) := by decide +kernel
theorem dL_isRefused_225 : decode cL_isRefused 225 = .ok (.irem, 1) := by decide +kernel
theorem dL_isRefused_226 : decode cL_isRefused 226 = .ok (.isub, 1) := by decide +kernel
theorem dL_isRefused_227 : decode cL_isRefused 227 = .ok (.goto 10, 3) := by decide +kernel
theorem dL_isRefused_230 : decode cL_isRefused 230 = .ok (.bipush 8, 2) := by decide +kernel
theorem dL_isRefused_232 : decode cL_isRefused 232 = .ok (.iload_n 1, 1) := by decide +kernel
theorem dL_isRefused_233 : decode cL_isRefused 233 = .ok (.bipush 30, 2) := by decide +kernel
theorem dL_isRefused_235 : decode cL_isRefused 235 = .ok (.irem, 1) := by decide +kernel
theorem dL_isRefused_236 : decode cL_isRefused 236 = .ok (.iadd, 1) := by decide +kernel
theorem dL_isRefused_237 : decode cL_isRefused 237 = .ok (.invokestatic 131, 3) := by decide +kernel
theorem dL_isRefused_240 : decode cL_isRefused 240 = .ok (.sipush (-1211), 3) := by decide +kernel
theorem dL_isRefused_243 : decode cL_isRefused 243 = .ok (.if_icmp .ne 74, 3) := by decide +kernel
theorem dL_isRefused_246 : decode cL_isRefused 246 = .ok (.aload_n 0, 1) := by decide +kernel
theorem dL_isRefused_247 : decode cL_isRefused 247 = .ok (.bipush 6, 2) := by decide +kernel
theorem dL_isRefused_249 : decode cL_isRefused 249 = .ok (.iload 5, 2) := by decide +kernel
theorem dL_isRefused_251 : decode cL_isRefused 251 = .ok (.iconst 0, 1) := by decide +kernel
theorem dL_isRefused_252 : decode cL_isRefused 252 = .ok (.invokestatic 131, 3) := by decide +kernel
theorem dL_isRefused_255 : decode cL_isRefused 255 = .ok (.sipush (-1211), 3) := by decide +kernel
theorem dL_isRefused_258 : decode cL_isRefused 258 = .ok (.if_icmp .ne 59, 3) := by decide +kernel
theorem dL_isRefused_261 : decode cL_isRefused 261 = .ok (.aload_n 0, 1) := by decide +kernel
theorem dL_isRefused_262 : decode cL_isRefused 262 = .ok (.bipush 7, 2) := by decide +kernel
theorem dL_isRefused_264 : decode cL_isRefused 264 = .ok (.iload_n 2, 1) := by decide +kernel
theorem dL_isRefused_265 : decode cL_isRefused 265 = .ok (.ifCond .eq 12, 3) := by decide +kernel
theorem dL_isRefused_268 : decode cL_isRefused 268 = .ok (.iconst 0, 1) := by decide +kernel
theorem dL_isRefused_269 : decode cL_isRefused 269 = .ok (.iload_n 1, 1) := by decide +kernel
theorem dL_isRefused_270 : decode cL_isRefused 270 = .ok (.bipush 30, 2) := by decide +kernel
theorem dL_isRefused_272 : decode cL_isRefused 272 = .ok (.irem, 1) := by decide +kernel
theorem dL_isRefused_273 : decode cL_isRefused 273 = .ok (.isub, 1) := by decide +kernel
theorem dL_isRefused_274 : decode cL_isRefused 274 = .ok (.goto 11, 3) := by decide +kernel
theorem dL_isRefused_277 : decode cL_isRefused 277 = .ok (.sipush 201, 3) := by decide +kernel
theorem dL_isRefused_280 : decode cL_isRefused 280 = .ok (.iload_n 1, 1) := by decide +kernel
theorem dL_isRefused_281 : decode cL_isRefused 281 = .ok (.bipush 30, 2) := by decide +kernel
theorem dL_isRefused_283 : decode cL_isRefused 283 = .ok (.irem, 1) := by decide +kernel
theorem dL_isRefused_284 : decode cL_isRefused 284 = .ok (.iadd, 1) := by decide +kernel
theorem dL_isRefused_285 : decode cL_isRefused 285 = .ok (.iconst 0, 1) := by decide +kernel
theorem dL_isRefused_286 : decode cL_isRefused 286 = .ok (.invokestatic 131, 3) := by decide +kernel
theorem dL_isRefused_289 : decode cL_isRefused 289 = .ok (.sipush (-1212), 3) := by decide +kernel
theorem dL_isRefused_292 : decode cL_isRefused 292 = .ok (.if_icmp .ne 25, 3) := by decide +kernel
theorem dL_isRefused_295 : decode cL_isRefused 295 = .ok (.aload_n 0, 1) := by decide +kernel
theorem dL_isRefused_296 : decode cL_isRefused 296 = .ok (.bipush 14, 2) := by decide +kernel
theorem dL_isRefused_298 : decode cL_isRefused 298 = .ok (.iconst (-1), 1) := by decide +kernel
theorem dL_isRefused_299 : decode cL_isRefused 299 = .ok (.iload_n 1, 1) := by decide +kernel
theorem dL_isRefused_300 : decode cL_isRefused 300 = .ok (.bipush 30, 2) := by decide +kernel
theorem dL_isRefused_302 : decode cL_isRefused 302 = .ok (.irem, 1) := by decide +kernel
theorem dL_isRefused_303 : decode cL_isRefused 303 = .ok (.isub, 1) := by decide +kernel
theorem dL_isRefused_304 : decode cL_isRefused 304 = .ok (.invokestatic 147, 3) := by decide +kernel
theorem dL_isRefused_307 : decode cL_isRefused 307 = .ok (.sipush (-1211), 3) := by decide +kernel
theorem dL_isRefused_310 : decode cL_isRefused 310 = .ok (.if_icmp .ne 7, 3) := by decide +kernel
theorem dL_isRefused_313 : decode cL_isRefused 313 = .ok (.iconst 1, 1) := by decide +kernel
theorem dL_isRefused_314 : decode cL_isRefused 314 = .ok (.goto 4, 3) := by decide +kernel
theorem dL_isRefused_318 : decode cL_isRefused 318 = .ok (.istore 8, 2) := by decide +kernel
theorem dL_isRefused_320 : decode cL_isRefused 320 = .ok (.iconst 0, 1) := by decide +kernel
theorem dL_isRefused_321 : decode cL_isRefused 321 = .ok (.istore 9, 2) := by decide +kernel
theorem dL_isRefused_323 : decode cL_isRefused 323 = .ok (.iload 9, 2) := by decide +kernel
theorem dL_isRefused_325 : decode cL_isRefused 325 = .ok (.bipush 14, 2) := by decide +kernel
theorem dL_isRefused_327 : decode cL_isRefused 327 = .ok (.if_icmp .ge 57, 3) := by decide +kernel
theorem dL_isRefused_330 : decode cL_isRefused 330 = .ok (.iload 8, 2) := by decide +kernel
theorem dL_isRefused_332 : decode cL_isRefused 332 = .ok (.ifCond .eq 52, 3) := by decide +kernel
theorem dL_isRefused_335 : decode cL_isRefused 335 = .ok (.aload_n 0, 1) := by decide +kernel
theorem dL_isRefused_336 : decode cL_isRefused 336 = .ok (.iload 9, 2) := by decide +kernel
theorem dL_isRefused_338 : decode cL_isRefused 338 = .ok (.iload 9, 2) := by decide +kernel
theorem dL_isRefused_340 : decode cL_isRefused 340 = .ok (.iconst 5, 1) := by decide +kernel
theorem dL_isRefused_341 : decode cL_isRefused 341 = .ok (.if_icmp .ge 8, 3) := by decide +kernel
theorem dL_isRefused_344 : decode cL_isRefused 344 = .ok (.iload 4, 2) := by decide +kernel
theorem dL_isRefused_346 : decode cL_isRefused 346 = .ok (.goto 16, 3) := by decide +kernel
theorem dL_isRefused_349 : decode cL_isRefused 349 = .ok (.iload 9, 2) := by decide +kernel
theorem dL_isRefused_351 : decode cL_isRefused 351 = .ok (.bipush 11, 2) := by decide +kernel
theorem dL_isRefused_353 : decode cL_isRefused 353 = .ok (.if_icmp .ge 7, 3) := by decide +kernel
theorem dL_isRefused_356 : decode cL_isRefused 356 = .ok (.iload_n 3, 1) := by decide +kernel
theorem dL_isRefused_357 : decode cL_isRefused 357 = .ok (.goto 5, 3) := by decide +kernel
theorem dL_isRefused_360 : decode cL_isRefused 360 = .ok (.iload 5, 2) := by decide +kernel
theorem dL_isRefused_362 : decode cL_isRefused 362 = .ok (.invokestatic 147, 3) := by decide +kernel
theorem dL_isRefused_365 : decode cL_isRefused 365 = .ok (.sipush (-1211), 3) := by decide +kernel
theorem dL_isRefused_368 : decode cL_isRefused 368 = .ok (.if_icmp .ne 7, 3) := by decide +kernel
theorem dL_isRefused_371 : decode cL_isRefused 371 = .ok (.iconst 1, 1) := by decide +kernel
theorem dL_isRefused_372 : decode cL_isRefused 372 = .ok (.goto 4, 3) := by decide +kernel
theorem dL_isRefused_376 : decode cL_isRefused 376 = .ok (.istore 8, 2) := by decide +kernel
theorem dL_isRefused_378 : decode cL_isRefused 378 = .ok (.iinc 9 1, 3) := by decide +kernel
theorem dL_isRefused_381 : decode cL_isRefused 381 = .ok (.goto (-58), 3) := by decide +kernel
theorem dL_isRefused_384 : decode cL_isRefused 384 = .ok (.iconst 0, 1) := by decide +kernel
theorem dL_isRefused_385 : decode cL_isRefused 385 = .ok (.istore 9, 2) := by decide +kernel
theorem dL_isRefused_387 : decode cL_isRefused 387 = .ok (.iload 9, 2) := by decide +kernel
theorem dL_isRefused_389 : decode cL_isRefused 389 = .ok (.bipush 12, 2) := by decide +kernel
theorem dL_isRefused_391 : decode cL_isRefused 391 = .ok (.if_icmp .ge 117, 3) := by decide +kernel
theorem dL_isRefused_394 : decode cL_isRefused 394 = .ok (.iload 8, 2) := by decide +kernel
theorem dL_isRefused_396 : decode cL_isRefused 396 = .ok (.ifCond .eq 112, 3) := by decide +kernel
theorem dL_isRefused_399 : decode cL_isRefused 399 = .ok (.aload_n 0, 1) := by decide +kernel
theorem dL_isRefused_400 : decode cL_isRefused 400 = .ok (.iload 9, 2) := by decide +kernel
theorem dL_isRefused_402 : decode cL_isRefused 402 = .ok (.invokevirtual 43, 3) := by decide +kernel
theorem dL_isRefused_405 : decode cL_isRefused 405 = .ok (.ifCond .lt 45, 3) := by decide +kernel
theorem dL_isRefused_450 : decode cL_isRefused 450 = .ok (.iconst 0, 1) := by decide +kernel
theorem dL_isRefused_451 : decode cL_isRefused 451 = .ok (.istore 10, 2) := by decide +kernel
theorem dL_isRefused_453 : decode cL_isRefused 453 = .ok (.iload 10, 2) := by decide +kernel
theorem dL_isRefused_455 : decode cL_isRefused 455 = .ok (.ifCond .ne 17, 3) := by decide +kernel
theorem dL_isRefused_458 : decode cL_isRefused 458 = .ok (.aload_n 0, 1) := by decide +kernel
theorem dL_isRefused_459 : decode cL_isRefused 459 = .ok (.iconst 3, 1) := by decide +kernel
theorem dL_isRefused_460 : decode cL_isRefused 460 = .ok (.iload 9, 2) := by decide +kernel
theorem dL_isRefused_462 : decode cL_isRefused 462 = .ok (.iconst 0, 1) := by decide +kernel
theorem dL_isRefused_463 : decode cL_isRefused 463 = .ok (.invokestatic 131, 3) := by decide +kernel
theorem dL_isRefused_466 : decode cL_isRefused 466 = .ok (.sipush (-1213), 3) := by decide +kernel
theorem dL_isRefused_469 : decode cL_isRefused 469 = .ok (.if_icmp .ne 30, 3) := by decide +kernel
theorem dL_isRefused_472 : decode cL_isRefused 472 = .ok (.aload_n 0, 1) := by decide +kernel
theorem dL_isRefused_473 : decode cL_isRefused 473 = .ok (.iload 9, 2) := by decide +kernel
theorem dL_isRefused_475 : decode cL_isRefused 475 = .ok (.invokevirtual 55, 3) := by decide +kernel
theorem dL_isRefused_478 : decode cL_isRefused 478 = .ok (.ifCond .ge 17, 3) := by decide +kernel
theorem dL_isRefused_481 : decode cL_isRefused 481 = .ok (.aload_n 0, 1) := by decide +kernel
theorem dL_isRefused_482 : decode cL_isRefused 482 = .ok (.iconst 4, 1) := by decide +kernel
theorem dL_isRefused_483 : decode cL_isRefused 483 = .ok (.iload 9, 2) := by decide +kernel
theorem dL_isRefused_485 : decode cL_isRefused 485 = .ok (.iconst 0, 1) := by decide +kernel
theorem dL_isRefused_486 : decode cL_isRefused 486 = .ok (.invokestatic 131, 3) := by decide +kernel
theorem dL_isRefused_489 : decode cL_isRefused 489 = .ok (.sipush (-1213), 3) := by decide +kernel
theorem dL_isRefused_492 : decode cL_isRefused 492 = .ok (.if_icmp .ne 7, 3) := by decide +kernel
theorem dL_isRefused_495 : decode cL_isRefused 495 = .ok (.iconst 1, 1) := by decide +kernel
theorem dL_isRefused_496 : decode cL_isRefused 496 = .ok (.goto 4, 3) := by decide +kernel
theorem dL_isRefused_500 : decode cL_isRefused 500 = .ok (.istore 8, 2) := by decide +kernel
theorem dL_isRefused_502 : decode cL_isRefused 502 = .ok (.iinc 9 1, 3) := by decide +kernel
theorem dL_isRefused_505 : decode cL_isRefused 505 = .ok (.goto (-118), 3) := by decide +kernel
theorem dL_isRefused_508 : decode cL_isRefused 508 = .ok (.iconst 0, 1) := by decide +kernel
theorem dL_isRefused_509 : decode cL_isRefused 509 = .ok (.istore 9, 2) := by decide +kernel
theorem dL_isRefused_511 : decode cL_isRefused 511 = .ok (.iload 9, 2) := by decide +kernel
theorem dL_isRefused_513 : decode cL_isRefused 513 = .ok (.iconst 5, 1) := by decide +kernel
theorem dL_isRefused_514 : decode cL_isRefused 514 = .ok (.if_icmp .ge 103, 3) := by decide +kernel
theorem dL_isRefused_517 : decode cL_isRefused 517 = .ok (.iload 8, 2) := by decide +kernel
theorem dL_isRefused_519 : decode cL_isRefused 519 = .ok (.ifCond .eq 98, 3) := by decide +kernel
theorem dL_isRefused_522 : decode cL_isRefused 522 = .ok (.aload_n 0, 1) := by decide +kernel
theorem dL_isRefused_523 : decode cL_isRefused 523 = .ok (.iload 9, 2) := by decide +kernel
theorem dL_isRefused_525 : decode cL_isRefused 525 = .ok (.invokevirtual 67, 3) := by decide +kernel
theorem dL_isRefused_528 : decode cL_isRefused 528 = .ok (.iconst 2, 1) := by decide +kernel
theorem dL_isRefused_529 : decode cL_isRefused 529 = .ok (.if_icmp .eq 25, 3) := by decide +kernel
theorem dL_isRefused_532 : decode cL_isRefused 532 = .ok (.aload_n 0, 1) := by decide +kernel
theorem dL_isRefused_533 : decode cL_isRefused 533 = .ok (.iload 9, 2) := by decide +kernel
theorem dL_isRefused_535 : decode cL_isRefused 535 = .ok (.invokevirtual 70, 3) := by decide +kernel
theorem dL_isRefused_538 : decode cL_isRefused 538 = .ok (.bipush 8, 2) := by decide +kernel
theorem dL_isRefused_540 : decode cL_isRefused 540 = .ok (.if_icmp .lt 14, 3) := by decide +kernel
theorem dL_isRefused_543 : decode cL_isRefused 543 = .ok (.aload_n 0, 1) := by decide +kernel
theorem dL_isRefused_544 : decode cL_isRefused 544 = .ok (.invokevirtual 120, 3) := by decide +kernel
theorem dL_isRefused_547 : decode cL_isRefused 547 = .ok (.ifCond .le 7, 3) := by decide +kernel
theorem dL_isRefused_550 : decode cL_isRefused 550 = .ok (.iconst 1, 1) := by decide +kernel
theorem dL_isRefused_551 : decode cL_isRefused 551 = .ok (.goto 4, 3) := by decide +kernel
theorem dL_isRefused_555 : decode cL_isRefused 555 = .ok (.istore 10, 2) := by decide +kernel
theorem dL_isRefused_557 : decode cL_isRefused 557 = .ok (.iload 10, 2) := by decide +kernel
theorem dL_isRefused_559 : decode cL_isRefused 559 = .ok (.ifCond .ne 17, 3) := by decide +kernel
theorem dL_isRefused_576 : decode cL_isRefused 576 = .ok (.aload_n 0, 1) := by decide +kernel
theorem dL_isRefused_577 : decode cL_isRefused 577 = .ok (.iload 9, 2) := by decide +kernel
theorem dL_isRefused_579 : decode cL_isRefused 579 = .ok (.invokevirtual 67, 3) := by decide +kernel
theorem dL_isRefused_582 : decode cL_isRefused 582 = .ok (.ifCond .eq 22, 3) := by decide +kernel
theorem dL_isRefused_604 : decode cL_isRefused 604 = .ok (.iconst 1, 1) := by decide +kernel
theorem dL_isRefused_605 : decode cL_isRefused 605 = .ok (.goto 4, 3) := by decide +kernel
theorem dL_isRefused_609 : decode cL_isRefused 609 = .ok (.istore 8, 2) := by decide +kernel
theorem dL_isRefused_611 : decode cL_isRefused 611 = .ok (.iinc 9 1, 3) := by decide +kernel
theorem dL_isRefused_614 : decode cL_isRefused 614 = .ok (.goto (-103), 3) := by decide +kernel
theorem dL_isRefused_617 : decode cL_isRefused 617 = .ok (.iconst 0, 1) := by decide +kernel
theorem dL_isRefused_618 : decode cL_isRefused 618 = .ok (.istore 9, 2) := by decide +kernel
theorem dL_isRefused_620 : decode cL_isRefused 620 = .ok (.iload 9, 2) := by decide +kernel
theorem dL_isRefused_622 : decode cL_isRefused 622 = .ok (.aload_n 0, 1) := by decide +kernel
theorem dL_isRefused_623 : decode cL_isRefused 623 = .ok (.invokevirtual 105, 3) := by decide +kernel
theorem dL_isRefused_626 : decode cL_isRefused 626 = .ok (.if_icmp .ge 86, 3) := by decide +kernel
theorem dL_isRefused_712 : decode cL_isRefused 712 = .ok (.iload 8, 2) := by decide +kernel
theorem dL_isRefused_714 : decode cL_isRefused 714 = .ok (.ifCond .eq 17, 3) := by decide +kernel
theorem dL_isRefused_717 : decode cL_isRefused 717 = .ok (.aload_n 0, 1) := by decide +kernel
theorem dL_isRefused_718 : decode cL_isRefused 718 = .ok (.invokestatic 143, 3) := by decide +kernel
theorem dL_isRefused_721 : decode cL_isRefused 721 = .ok (.lload 6, 2) := by decide +kernel
theorem dL_isRefused_723 : decode cL_isRefused 723 = .ok (.lcmp, 1) := by decide +kernel
theorem dL_isRefused_724 : decode cL_isRefused 724 = .ok (.ifCond .ne 7, 3) := by decide +kernel
theorem dL_isRefused_727 : decode cL_isRefused 727 = .ok (.iconst 1, 1) := by decide +kernel
theorem dL_isRefused_728 : decode cL_isRefused 728 = .ok (.goto 4, 3) := by decide +kernel
theorem dL_isRefused_732 : decode cL_isRefused 732 = .ok (.ireturn, 1) := by decide +kernel
set_option maxRecDepth 20000 in
theorem ggL_law_X0_init : GoodIn wsL_law wsX0_init := goodIn_r _ [6, 7, 8, 9, 3, 10, 11, 12, 13, 14, 15, 16, 17, 18, 19, 20, 21, 22, 23, 24, 25, 26, 27, 28, 29, 30, 31, 32, 33, 324, 325, 326, 327, 328, 329, 330, 331, 332, 333, 334, 335, 336, 337, 338, 339, 340, 341, 342] (by decide +kernel) (by decide +kernel)
set_option maxRecDepth 20000 in
theorem gL_law_X0_init : GoodIn wsL_law (wsX0_init) := ggL_law_X0_init

set_option maxRecDepth 20000 in
theorem ggX0_init_J7_fill_53178 : GoodIn wsX0_init wsJ7_fill_53178 := goodIn_r _ [28] (by decide +kernel) (by decide +kernel)
set_option maxRecDepth 20000 in
theorem gX0_init_J7_fill_53178 : GoodIn wsX0_init (va_wsS RX0 69 yJ7_fill_53178 wsJ7_fill_53178) := goodIn_app (goodIn_of _ (by decide +kernel)) ggX0_init_J7_fill_53178
theorem dX0_init_0 : decode cX0_init 0 = .ok (.aload_n 0, 1) := by decide +kernel
theorem dX0_init_1 : decode cX0_init 1 = .ok (.invokespecial 3, 3) := by decide +kernel
theorem dX0_init_4 : decode cX0_init 4 = .ok (.aload_n 0, 1) := by decide +kernel
theorem dX0_init_5 : decode cX0_init 5 = .ok (.iconst 5, 1) := by decide +kernel
theorem dX0_init_6 : decode cX0_init 6 = .ok (.newarray .int, 2) := by decide +kernel
theorem dX0_init_8 : decode cX0_init 8 = .ok (.putfield 9, 3) := by decide +kernel
theorem dX0_init_11 : decode cX0_init 11 = .ok (.aload_n 0, 1) := by decide +kernel
theorem dX0_init_12 : decode cX0_init 12 = .ok (.iconst 5, 1) := by decide +kernel
theorem dX0_init_13 : decode cX0_init 13 = .ok (.newarray .int, 2) := by decide +kernel
theorem dX0_init_15 : decode cX0_init 15 = .ok (.putfield 13, 3) := by decide +kernel
theorem dX0_init_18 : decode cX0_init 18 = .ok (.aload_n 0, 1) := by decide +kernel
theorem dX0_init_19 : decode cX0_init 19 = .ok (.iconst 5, 1) := by decide +kernel
theorem dX0_init_20 : decode cX0_init 20 = .ok (.newarray .int, 2) := by decide +kernel
theorem dX0_init_22 : decode cX0_init 22 = .ok (.putfield 16, 3) := by decide +kernel
theorem dX0_init_25 : decode cX0_init 25 = .ok (.aload_n 0, 1) := by decide +kernel
theorem dX0_init_26 : decode cX0_init 26 = .ok (.iconst 5, 1) := by decide +kernel
theorem dX0_init_27 : decode cX0_init 27 = .ok (.newarray .int, 2) := by decide +kernel
theorem dX0_init_29 : decode cX0_init 29 = .ok (.putfield 19, 3) := by decide +kernel
theorem dX0_init_32 : decode cX0_init 32 = .ok (.aload_n 0, 1) := by decide +kernel
theorem dX0_init_33 : decode cX0_init 33 = .ok (.bipush 12, 2) := by decide +kernel
theorem dX0_init_35 : decode cX0_init 35 = .ok (.newarray .int, 2) := by decide +kernel
theorem dX0_init_37 : decode cX0_init 37 = .ok (.putfield 22, 3) := by decide +kernel
theorem dX0_init_40 : decode cX0_init 40 = .ok (.aload_n 0, 1) := by decide +kernel
theorem dX0_init_41 : decode cX0_init 41 = .ok (.bipush 12, 2) := by decide +kernel
theorem dX0_init_43 : decode cX0_init 43 = .ok (.newarray .int, 2) := by decide +kernel
theorem dX0_init_45 : decode cX0_init 45 = .ok (.putfield 25, 3) := by decide +kernel
theorem dX0_init_48 : decode cX0_init 48 = .ok (.aload_n 0, 1) := by decide +kernel
theorem dX0_init_49 : decode cX0_init 49 = .ok (.bipush 12, 2) := by decide +kernel
theorem dX0_init_51 : decode cX0_init 51 = .ok (.newarray .int, 2) := by decide +kernel
theorem dX0_init_53 : decode cX0_init 53 = .ok (.putfield 28, 3) := by decide +kernel
theorem dX0_init_56 : decode cX0_init 56 = .ok (.aload_n 0, 1) := by decide +kernel
theorem dX0_init_57 : decode cX0_init 57 = .ok (.bipush 12, 2) := by decide +kernel
theorem dX0_init_59 : decode cX0_init 59 = .ok (.newarray .boolean, 2) := by decide +kernel
theorem dX0_init_61 : decode cX0_init 61 = .ok (.putfield 31, 3) := by decide +kernel
theorem dX0_init_64 : decode cX0_init 64 = .ok (.aload_n 0, 1) := by decide +kernel
theorem dX0_init_65 : decode cX0_init 65 = .ok (.bipush 12, 2) := by decide +kernel
theorem dX0_init_67 : decode cX0_init 67 = .ok (.newarray .int, 2) := by decide +kernel
theorem dX0_init_69 : decode cX0_init 69 = .ok (.putfield 35, 3) := by decide +kernel
theorem dX0_init_72 : decode cX0_init 72 = .ok (.aload_n 0, 1) := by decide +kernel
theorem dX0_init_73 : decode cX0_init 73 = .ok (.bipush 60, 2) := by decide +kernel
theorem dX0_init_75 : decode cX0_init 75 = .ok (.newarray .int, 2) := by decide +kernel
theorem dX0_init_77 : decode cX0_init 77 = .ok (.putfield 38, 3) := by decide +kernel
theorem dX0_init_80 : decode cX0_init 80 = .ok (.aload_n 0, 1) := by decide +kernel
theorem dX0_init_81 : decode cX0_init 81 = .ok (.bipush 60, 2) := by decide +kernel
theorem dX0_init_83 : decode cX0_init 83 = .ok (.newarray .int, 2) := by decide +kernel
theorem dX0_init_85 : decode cX0_init 85 = .ok (.putfield 41, 3) := by decide +kernel
theorem dX0_init_88 : decode cX0_init 88 = .ok (.aload_n 0, 1) := by decide +kernel
theorem dX0_init_89 : decode cX0_init 89 = .ok (.bipush 60, 2) := by decide +kernel
theorem dX0_init_91 : decode cX0_init 91 = .ok (.newarray .int, 2) := by decide +kernel
theorem dX0_init_93 : decode cX0_init 93 = .ok (.putfield 44, 3) := by decide +kernel
theorem dX0_init_96 : decode cX0_init 96 = .ok (.aload_n 0, 1) := by decide +kernel
theorem dX0_init_97 : decode cX0_init 97 = .ok (.bipush 60, 2) := by decide +kernel
theorem dX0_init_99 : decode cX0_init 99 = .ok (.newarray .boolean, 2) := by decide +kernel
theorem dX0_init_101 : decode cX0_init 101 = .ok (.putfield 47, 3) := by decide +kernel
theorem dX0_init_104 : decode cX0_init 104 = .ok (.aload_n 0, 1) := by decide +kernel
theorem dX0_init_105 : decode cX0_init 105 = .ok (.bipush 60, 2) := by decide +kernel
theorem dX0_init_107 : decode cX0_init 107 = .ok (.newarray .int, 2) := by decide +kernel
theorem dX0_init_109 : decode cX0_init 109 = .ok (.putfield 50, 3) := by decide +kernel
theorem dX0_init_112 : decode cX0_init 112 = .ok (.aload_n 0, 1) := by decide +kernel
theorem dX0_init_113 : decode cX0_init 113 = .ok (.iconst 0, 1) := by decide +kernel
theorem dX0_init_114 : decode cX0_init 114 = .ok (.putfield 53, 3) := by decide +kernel
theorem dX0_init_117 : decode cX0_init 117 = .ok (.aload_n 0, 1) := by decide +kernel
theorem dX0_init_118 : decode cX0_init 118 = .ok (.iconst 1, 1) := by decide +kernel
theorem dX0_init_119 : decode cX0_init 119 = .ok (.putfield 57, 3) := by decide +kernel
theorem dX0_init_122 : decode cX0_init 122 = .ok (.aload_n 0, 1) := by decide +kernel
theorem dX0_init_123 : decode cX0_init 123 = .ok (.iconst 0, 1) := by decide +kernel
theorem dX0_init_124 : decode cX0_init 124 = .ok (.putfield 60, 3) := by decide +kernel
theorem dX0_init_127 : decode cX0_init 127 = .ok (.aload_n 0, 1) := by decide +kernel
theorem dX0_init_128 : decode cX0_init 128 = .ok (.iconst 0, 1) := by decide +kernel
theorem dX0_init_129 : decode cX0_init 129 = .ok (.putfield 63, 3) := by decide +kernel
theorem dX0_init_132 : decode cX0_init 132 = .ok (.aload_n 0, 1) := by decide +kernel
theorem dX0_init_133 : decode cX0_init 133 = .ok (.iconst (-1), 1) := by decide +kernel
theorem dX0_init_134 : decode cX0_init 134 = .ok (.putfield 66, 3) := by decide +kernel
theorem dX0_init_137 : decode cX0_init 137 = .ok (.aload_n 0, 1) := by decide +kernel
theorem dX0_init_138 : decode cX0_init 138 = .ok (.getfield 13, 3) := by decide +kernel
theorem dX0_init_141 : decode cX0_init 141 = .ok (.bipush 20, 2) := by decide +kernel
theorem dX0_init_143 : decode cX0_init 143 = .ok (.invokestatic 69, 3) := by decide +kernel
theorem dX0_init_146 : decode cX0_init 146 = .ok (.aload_n 0, 1) := by decide +kernel
theorem dX0_init_147 : decode cX0_init 147 = .ok (.getfield 16, 3) := by decide +kernel
theorem dX0_init_150 : decode cX0_init 150 = .ok (.iconst 0, 1) := by decide +kernel
theorem dX0_init_151 : decode cX0_init 151 = .ok (.invokestatic 69, 3) := by decide +kernel
theorem dX0_init_154 : decode cX0_init 154 = .ok (.aload_n 0, 1) := by decide +kernel
theorem dX0_init_155 : decode cX0_init 155 = .ok (.getfield 22, 3) := by decide +kernel
theorem dX0_init_158 : decode cX0_init 158 = .ok (.iconst (-1), 1) := by decide +kernel
theorem dX0_init_159 : decode cX0_init 159 = .ok (.invokestatic 69, 3) := by decide +kernel
theorem dX0_init_162 : decode cX0_init 162 = .ok (.aload_n 0, 1) := by decide +kernel
theorem dX0_init_163 : decode cX0_init 163 = .ok (.getfield 25, 3) := by decide +kernel
theorem dX0_init_166 : decode cX0_init 166 = .ok (.iconst (-1), 1) := by decide +kernel
theorem dX0_init_167 : decode cX0_init 167 = .ok (.invokestatic 69, 3) := by decide +kernel
theorem dX0_init_170 : decode cX0_init 170 = .ok (.aload_n 0, 1) := by decide +kernel
theorem dX0_init_171 : decode cX0_init 171 = .ok (.getfield 28, 3) := by decide +kernel
theorem dX0_init_174 : decode cX0_init 174 = .ok (.iconst (-1), 1) := by decide +kernel
theorem dX0_init_175 : decode cX0_init 175 = .ok (.invokestatic 69, 3) := by decide +kernel
theorem dX0_init_178 : decode cX0_init 178 = .ok (.return_, 1) := by decide +kernel
set_option maxRecDepth 20000 in
theorem ggX0_setWage_X0_isProcess : GoodIn wsX0_setWage wsX0_isProcess := goodIn_r _ [9] (by decide +kernel) (by decide +kernel)
set_option maxRecDepth 20000 in
theorem gX0_setWage_X0_isProcess : GoodIn wsX0_setWage (va_wsS RX0 75 yX0_isProcess wsX0_isProcess) := goodIn_app (goodIn_of _ (by decide +kernel)) ggX0_setWage_X0_isProcess
theorem dX0_setWage_0 : decode cX0_setWage 0 = .ok (.iload_n 1, 1) := by decide +kernel
theorem dX0_setWage_1 : decode cX0_setWage 1 = .ok (.invokestatic 75, 3) := by decide +kernel
theorem dX0_setWage_4 : decode cX0_setWage 4 = .ok (.ifCond .ne 13, 3) := by decide +kernel
theorem dX0_setWage_7 : decode cX0_setWage 7 = .ok (.new 79, 3) := by decide +kernel
theorem dX0_setWage_10 : decode cX0_setWage 10 = .ok (.dup, 1) := by decide +kernel
theorem dX0_setWage_11 : decode cX0_setWage 11 = .ok (.ldc 81, 2) := by decide +kernel
theorem dX0_setWage_13 : decode cX0_setWage 13 = .ok (.invokespecial 83, 3) := by decide +kernel
theorem dX0_setWage_16 : decode cX0_setWage 16 = .ok (.athrow, 1) := by decide +kernel
theorem dX0_setWage_17 : decode cX0_setWage 17 = .ok (.iload_n 2, 1) := by decide +kernel
theorem dX0_setWage_18 : decode cX0_setWage 18 = .ok (.ifCond .lt 9, 3) := by decide +kernel
theorem dX0_setWage_21 : decode cX0_setWage 21 = .ok (.iload_n 2, 1) := by decide +kernel
theorem dX0_setWage_22 : decode cX0_setWage 22 = .ok (.bipush 9, 2) := by decide +kernel
theorem dX0_setWage_24 : decode cX0_setWage 24 = .ok (.if_icmp .le 13, 3) := by decide +kernel
theorem dX0_setWage_27 : decode cX0_setWage 27 = .ok (.new 86, 3) := by decide +kernel
theorem dX0_setWage_30 : decode cX0_setWage 30 = .ok (.dup, 1) := by decide +kernel
theorem dX0_setWage_31 : decode cX0_setWage 31 = .ok (.ldc 88, 2) := by decide +kernel
theorem dX0_setWage_33 : decode cX0_setWage 33 = .ok (.invokespecial 90, 3) := by decide +kernel
theorem dX0_setWage_36 : decode cX0_setWage 36 = .ok (.athrow, 1) := by decide +kernel
theorem dX0_setRate_0 : decode cX0_setRate 0 = .ok (.iload_n 1, 1) := by decide +kernel
theorem dX0_setRate_1 : decode cX0_setRate 1 = .ok (.ifCond .lt 9, 3) := by decide +kernel
theorem dX0_setRate_4 : decode cX0_setRate 4 = .ok (.iload_n 1, 1) := by decide +kernel
theorem dX0_setRate_5 : decode cX0_setRate 5 = .ok (.bipush 9, 2) := by decide +kernel
theorem dX0_setRate_7 : decode cX0_setRate 7 = .ok (.if_icmp .le 13, 3) := by decide +kernel
theorem dX0_setRate_10 : decode cX0_setRate 10 = .ok (.new 86, 3) := by decide +kernel
theorem dX0_setRate_13 : decode cX0_setRate 13 = .ok (.dup, 1) := by decide +kernel
theorem dX0_setRate_14 : decode cX0_setRate 14 = .ok (.ldc 91, 2) := by decide +kernel
theorem dX0_setRate_16 : decode cX0_setRate 16 = .ok (.invokespecial 90, 3) := by decide +kernel
theorem dX0_setRate_19 : decode cX0_setRate 19 = .ok (.athrow, 1) := by decide +kernel
set_option maxRecDepth 20000 in
theorem ggX0_buy_X0_isProcess : GoodIn wsX0_buy wsX0_isProcess := goodIn_r _ [12] (by decide +kernel) (by decide +kernel)
set_option maxRecDepth 20000 in
theorem gX0_buy_X0_isProcess : GoodIn wsX0_buy (va_wsS RX0 75 yX0_isProcess wsX0_isProcess) := goodIn_app (goodIn_of _ (by decide +kernel)) ggX0_buy_X0_isProcess
set_option maxRecDepth 20000 in
theorem ggX0_buy_X0_isFrame : GoodIn wsX0_buy wsX0_isFrame := goodIn_r _ [20] (by decide +kernel) (by decide +kernel)
set_option maxRecDepth 20000 in
theorem gX0_buy_X0_isFrame : GoodIn wsX0_buy (va_wsS RX0 102 yX0_isFrame wsX0_isFrame) := goodIn_app (goodIn_of _ (by decide +kernel)) ggX0_buy_X0_isFrame
theorem dX0_buy_0 : decode cX0_buy 0 = .ok (.iload_n 1, 1) := by decide +kernel
theorem dX0_buy_1 : decode cX0_buy 1 = .ok (.invokestatic 75, 3) := by decide +kernel
theorem dX0_buy_4 : decode cX0_buy 4 = .ok (.ifCond .ne 13, 3) := by decide +kernel
theorem dX0_buy_7 : decode cX0_buy 7 = .ok (.new 79, 3) := by decide +kernel
theorem dX0_buy_10 : decode cX0_buy 10 = .ok (.dup, 1) := by decide +kernel
theorem dX0_buy_11 : decode cX0_buy 11 = .ok (.ldc 81, 2) := by decide +kernel
theorem dX0_buy_13 : decode cX0_buy 13 = .ok (.invokespecial 83, 3) := by decide +kernel
theorem dX0_buy_16 : decode cX0_buy 16 = .ok (.athrow, 1) := by decide +kernel
set_option maxRecDepth 20000 in
theorem ggX0_sell_X0_isFrame : GoodIn wsX0_sell wsX0_isFrame := goodIn_r _ [13] (by decide +kernel) (by decide +kernel)
set_option maxRecDepth 20000 in
theorem gX0_sell_X0_isFrame : GoodIn wsX0_sell (va_wsS RX0 102 yX0_isFrame wsX0_isFrame) := goodIn_app (goodIn_of _ (by decide +kernel)) ggX0_sell_X0_isFrame
set_option maxRecDepth 20000 in
theorem ggX0_sell_X0_isProcess : GoodIn wsX0_sell wsX0_isProcess := goodIn_r _ [16] (by decide +kernel) (by decide +kernel)
set_option maxRecDepth 20000 in
theorem gX0_sell_X0_isProcess : GoodIn wsX0_sell (va_wsS RX0 75 yX0_isProcess wsX0_isProcess) := goodIn_app (goodIn_of _ (by decide +kernel)) ggX0_sell_X0_isProcess
theorem dX0_sell_0 : decode cX0_sell 0 = .ok (.iload_n 1, 1) := by decide +kernel
theorem dX0_sell_1 : decode cX0_sell 1 = .ok (.invokestatic 102, 3) := by decide +kernel
theorem dX0_sell_4 : decode cX0_sell 4 = .ok (.ifCond .ne 13, 3) := by decide +kernel
theorem dX0_sell_7 : decode cX0_sell 7 = .ok (.new 79, 3) := by decide +kernel
theorem dX0_sell_10 : decode cX0_sell 10 = .ok (.dup, 1) := by decide +kernel
theorem dX0_sell_11 : decode cX0_sell 11 = .ok (.ldc 107, 2) := by decide +kernel
theorem dX0_sell_13 : decode cX0_sell 13 = .ok (.invokespecial 83, 3) := by decide +kernel
theorem dX0_sell_16 : decode cX0_sell 16 = .ok (.athrow, 1) := by decide +kernel
theorem dX0_sell_17 : decode cX0_sell 17 = .ok (.aload_n 0, 1) := by decide +kernel
theorem dX0_sell_18 : decode cX0_sell 18 = .ok (.getfield 22, 3) := by decide +kernel
theorem dX0_sell_21 : decode cX0_sell 21 = .ok (.iload_n 1, 1) := by decide +kernel
theorem dX0_sell_22 : decode cX0_sell 22 = .ok (.iaload, 1) := by decide +kernel
theorem dX0_sell_23 : decode cX0_sell 23 = .ok (.istore_n 2, 1) := by decide +kernel
theorem dX0_sell_24 : decode cX0_sell 24 = .ok (.iload_n 2, 1) := by decide +kernel
theorem dX0_sell_25 : decode cX0_sell 25 = .ok (.invokestatic 75, 3) := by decide +kernel
theorem dX0_sell_28 : decode cX0_sell 28 = .ok (.ifCond .ne 13, 3) := by decide +kernel
theorem dX0_sell_31 : decode cX0_sell 31 = .ok (.new 93, 3) := by decide +kernel
theorem dX0_sell_34 : decode cX0_sell 34 = .ok (.dup, 1) := by decide +kernel
theorem dX0_sell_35 : decode cX0_sell 35 = .ok (.ldc 109, 2) := by decide +kernel
theorem dX0_sell_37 : decode cX0_sell 37 = .ok (.invokespecial 97, 3) := by decide +kernel
theorem dX0_sell_40 : decode cX0_sell 40 = .ok (.athrow, 1) := by decide +kernel
set_option maxRecDepth 20000 in
theorem ggX0_drop_X0_isFrame : GoodIn wsX0_drop wsX0_isFrame := goodIn_r _ [10] (by decide +kernel) (by decide +kernel)
set_option maxRecDepth 20000 in
theorem gX0_drop_X0_isFrame : GoodIn wsX0_drop (va_wsS RX0 102 yX0_isFrame wsX0_isFrame) := goodIn_app (goodIn_of _ (by decide +kernel)) ggX0_drop_X0_isFrame
theorem dX0_drop_0 : decode cX0_drop 0 = .ok (.iload_n 1, 1) := by decide +kernel
theorem dX0_drop_1 : decode cX0_drop 1 = .ok (.invokestatic 102, 3) := by decide +kernel
theorem dX0_drop_4 : decode cX0_drop 4 = .ok (.ifCond .ne 13, 3) := by decide +kernel
theorem dX0_drop_7 : decode cX0_drop 7 = .ok (.new 79, 3) := by decide +kernel
theorem dX0_drop_10 : decode cX0_drop 10 = .ok (.dup, 1) := by decide +kernel
theorem dX0_drop_11 : decode cX0_drop 11 = .ok (.ldc 107, 2) := by decide +kernel
theorem dX0_drop_13 : decode cX0_drop 13 = .ok (.invokespecial 83, 3) := by decide +kernel
theorem dX0_drop_16 : decode cX0_drop 16 = .ok (.athrow, 1) := by decide +kernel
theorem dX0_drop_17 : decode cX0_drop 17 = .ok (.aload_n 0, 1) := by decide +kernel
theorem dX0_drop_18 : decode cX0_drop 18 = .ok (.getfield 31, 3) := by decide +kernel
theorem dX0_drop_21 : decode cX0_drop 21 = .ok (.iload_n 1, 1) := by decide +kernel
theorem dX0_drop_22 : decode cX0_drop 22 = .ok (.baload, 1) := by decide +kernel
theorem dX0_drop_23 : decode cX0_drop 23 = .ok (.ifCond .ne 13, 3) := by decide +kernel
theorem dX0_drop_26 : decode cX0_drop 26 = .ok (.new 93, 3) := by decide +kernel
theorem dX0_drop_29 : decode cX0_drop 29 = .ok (.dup, 1) := by decide +kernel
theorem dX0_drop_30 : decode cX0_drop 30 = .ok (.ldc 113, 2) := by decide +kernel
theorem dX0_drop_32 : decode cX0_drop 32 = .ok (.invokespecial 97, 3) := by decide +kernel
theorem dX0_drop_35 : decode cX0_drop 35 = .ok (.athrow, 1) := by decide +kernel
set_option maxRecDepth 20000 in
theorem ggX0_touch_X0_isProcess : GoodIn wsX0_touch wsX0_isProcess := goodIn_r _ [14] (by decide +kernel) (by decide +kernel)
set_option maxRecDepth 20000 in
theorem gX0_touch_X0_isProcess : GoodIn wsX0_touch (va_wsS RX0 75 yX0_isProcess wsX0_isProcess) := goodIn_app (goodIn_of _ (by decide +kernel)) ggX0_touch_X0_isProcess
set_option maxRecDepth 20000 in
theorem ggX0_touch_X0_isPage : GoodIn wsX0_touch wsX0_isPage := goodIn_r _ [17] (by decide +kernel) (by decide +kernel)
set_option maxRecDepth 20000 in
theorem gX0_touch_X0_isPage : GoodIn wsX0_touch (va_wsS RX0 119 yX0_isPage wsX0_isPage) := goodIn_app (goodIn_of _ (by decide +kernel)) ggX0_touch_X0_isPage
set_option maxRecDepth 20000 in
theorem ggX0_touch_X0_isFrame : GoodIn wsX0_touch wsX0_isFrame := goodIn_r _ [25] (by decide +kernel) (by decide +kernel)
set_option maxRecDepth 20000 in
theorem gX0_touch_X0_isFrame : GoodIn wsX0_touch (va_wsS RX0 102 yX0_isFrame wsX0_isFrame) := goodIn_app (goodIn_of _ (by decide +kernel)) ggX0_touch_X0_isFrame
theorem dX0_touch_0 : decode cX0_touch 0 = .ok (.iload_n 1, 1) := by decide +kernel
theorem dX0_touch_1 : decode cX0_touch 1 = .ok (.invokestatic 75, 3) := by decide +kernel
theorem dX0_touch_4 : decode cX0_touch 4 = .ok (.ifCond .eq 10, 3) := by decide +kernel
theorem dX0_touch_7 : decode cX0_touch 7 = .ok (.iload_n 2, 1) := by decide +kernel
theorem dX0_touch_8 : decode cX0_touch 8 = .ok (.invokestatic 119, 3) := by decide +kernel
theorem dX0_touch_11 : decode cX0_touch 11 = .ok (.ifCond .ne 13, 3) := by decide +kernel
theorem dX0_touch_14 : decode cX0_touch 14 = .ok (.new 79, 3) := by decide +kernel
theorem dX0_touch_17 : decode cX0_touch 17 = .ok (.dup, 1) := by decide +kernel
theorem dX0_touch_18 : decode cX0_touch 18 = .ok (.ldc 122, 2) := by decide +kernel
theorem dX0_touch_20 : decode cX0_touch 20 = .ok (.invokespecial 83, 3) := by decide +kernel
theorem dX0_touch_23 : decode cX0_touch 23 = .ok (.athrow, 1) := by decide +kernel
set_option maxRecDepth 20000 in
theorem ggX0_payBack_X0_isLoan : GoodIn wsX0_payBack wsX0_isLoan := goodIn_r _ [12, 13, 34, 35, 36, 37, 38, 39, 40, 41, 42, 43, 44, 45, 46, 47, 48, 49, 50, 51, 52] (by decide +kernel) (by decide +kernel)
set_option maxRecDepth 20000 in
theorem gX0_payBack_X0_isLoan : GoodIn wsX0_payBack (wsV RX0 135 RX0 yX0_isLoan wsX0_isLoan) := goodIn_app (goodIn_of _ (by decide +kernel)) ggX0_payBack_X0_isLoan
set_option maxRecDepth 20000 in
theorem ggX0_payBack_X0_isComing : GoodIn wsX0_payBack wsX0_isComing := goodIn_r _ [17, 18, 19, 20, 21, 11, 22, 34, 35, 36, 37, 38, 39, 40, 41, 42, 43, 44, 45, 46, 47, 48, 49, 50, 51, 52] (by decide +kernel) (by decide +kernel)
set_option maxRecDepth 20000 in
theorem gX0_payBack_X0_isComing : GoodIn wsX0_payBack (wsV RX0 140 RX0 yX0_isComing wsX0_isComing) := goodIn_app (goodIn_of _ (by decide +kernel)) ggX0_payBack_X0_isComing
theorem dX0_payBack_0 : decode cX0_payBack 0 = .ok (.aload_n 0, 1) := by decide +kernel
theorem dX0_payBack_1 : decode cX0_payBack 1 = .ok (.iload_n 1, 1) := by decide +kernel
theorem dX0_payBack_2 : decode cX0_payBack 2 = .ok (.invokevirtual 135, 3) := by decide +kernel
theorem dX0_payBack_5 : decode cX0_payBack 5 = .ok (.ifCond .ne 13, 3) := by decide +kernel
theorem dX0_payBack_8 : decode cX0_payBack 8 = .ok (.new 79, 3) := by decide +kernel
theorem dX0_payBack_11 : decode cX0_payBack 11 = .ok (.dup, 1) := by decide +kernel
theorem dX0_payBack_12 : decode cX0_payBack 12 = .ok (.ldc 138, 2) := by decide +kernel
theorem dX0_payBack_14 : decode cX0_payBack 14 = .ok (.invokespecial 83, 3) := by decide +kernel
theorem dX0_payBack_17 : decode cX0_payBack 17 = .ok (.athrow, 1) := by decide +kernel
theorem dX0_advance_0 : decode cX0_advance 0 = .ok (.iload_n 1, 1) := by decide +kernel
theorem dX0_advance_1 : decode cX0_advance 1 = .ok (.iconst 1, 1) := by decide +kernel
theorem dX0_advance_2 : decode cX0_advance 2 = .ok (.if_icmp .lt 10, 3) := by decide +kernel
theorem dX0_advance_5 : decode cX0_advance 5 = .ok (.iload_n 1, 1) := by decide +kernel
theorem dX0_advance_6 : decode cX0_advance 6 = .ok (.sipush 200, 3) := by decide +kernel
theorem dX0_advance_9 : decode cX0_advance 9 = .ok (.if_icmp .le 13, 3) := by decide +kernel
theorem dX0_advance_12 : decode cX0_advance 12 = .ok (.new 86, 3) := by decide +kernel
theorem dX0_advance_15 : decode cX0_advance 15 = .ok (.dup, 1) := by decide +kernel
theorem dX0_advance_16 : decode cX0_advance 16 = .ok (.ldc 148, 2) := by decide +kernel
theorem dX0_advance_18 : decode cX0_advance 18 = .ok (.invokespecial 90, 3) := by decide +kernel
theorem dX0_advance_21 : decode cX0_advance 21 = .ok (.athrow, 1) := by decide +kernel
theorem dX0_tick_0 : decode cX0_tick 0 = .ok (.aload_n 0, 1) := by decide +kernel
theorem dX0_tick_1 : decode cX0_tick 1 = .ok (.getfield 60, 3) := by decide +kernel
theorem dX0_tick_4 : decode cX0_tick 4 = .ok (.ireturn, 1) := by decide +kernel
set_option maxRecDepth 20000 in
theorem ggX0_owner_X0_isFrame : GoodIn wsX0_owner wsX0_isFrame := goodIn_r _ [7] (by decide +kernel) (by decide +kernel)
set_option maxRecDepth 20000 in
theorem gX0_owner_X0_isFrame : GoodIn wsX0_owner (va_wsS RX0 102 yX0_isFrame wsX0_isFrame) := goodIn_app (goodIn_of _ (by decide +kernel)) ggX0_owner_X0_isFrame
theorem dX0_owner_0 : decode cX0_owner 0 = .ok (.iload_n 1, 1) := by decide +kernel
theorem dX0_owner_1 : decode cX0_owner 1 = .ok (.invokestatic 102, 3) := by decide +kernel
theorem dX0_owner_4 : decode cX0_owner 4 = .ok (.ifCond .ne 13, 3) := by decide +kernel
theorem dX0_owner_7 : decode cX0_owner 7 = .ok (.new 79, 3) := by decide +kernel
theorem dX0_owner_10 : decode cX0_owner 10 = .ok (.dup, 1) := by decide +kernel
theorem dX0_owner_11 : decode cX0_owner 11 = .ok (.ldc 107, 2) := by decide +kernel
theorem dX0_owner_13 : decode cX0_owner 13 = .ok (.invokespecial 83, 3) := by decide +kernel
theorem dX0_owner_16 : decode cX0_owner 16 = .ok (.athrow, 1) := by decide +kernel
theorem dX0_owner_17 : decode cX0_owner 17 = .ok (.aload_n 0, 1) := by decide +kernel
theorem dX0_owner_18 : decode cX0_owner 18 = .ok (.getfield 22, 3) := by decide +kernel
theorem dX0_owner_21 : decode cX0_owner 21 = .ok (.iload_n 1, 1) := by decide +kernel
theorem dX0_owner_22 : decode cX0_owner 22 = .ok (.iaload, 1) := by decide +kernel
theorem dX0_owner_23 : decode cX0_owner 23 = .ok (.ireturn, 1) := by decide +kernel
set_option maxRecDepth 20000 in
theorem ggX0_holder_X0_isFrame : GoodIn wsX0_holder wsX0_isFrame := goodIn_r _ [7] (by decide +kernel) (by decide +kernel)
set_option maxRecDepth 20000 in
theorem gX0_holder_X0_isFrame : GoodIn wsX0_holder (va_wsS RX0 102 yX0_isFrame wsX0_isFrame) := goodIn_app (goodIn_of _ (by decide +kernel)) ggX0_holder_X0_isFrame
theorem dX0_holder_0 : decode cX0_holder 0 = .ok (.iload_n 1, 1) := by decide +kernel
theorem dX0_holder_1 : decode cX0_holder 1 = .ok (.invokestatic 102, 3) := by decide +kernel
theorem dX0_holder_4 : decode cX0_holder 4 = .ok (.ifCond .ne 13, 3) := by decide +kernel
theorem dX0_holder_7 : decode cX0_holder 7 = .ok (.new 79, 3) := by decide +kernel
theorem dX0_holder_10 : decode cX0_holder 10 = .ok (.dup, 1) := by decide +kernel
theorem dX0_holder_11 : decode cX0_holder 11 = .ok (.ldc 107, 2) := by decide +kernel
theorem dX0_holder_13 : decode cX0_holder 13 = .ok (.invokespecial 83, 3) := by decide +kernel
theorem dX0_holder_16 : decode cX0_holder 16 = .ok (.athrow, 1) := by decide +kernel
theorem dX0_holder_17 : decode cX0_holder 17 = .ok (.aload_n 0, 1) := by decide +kernel
theorem dX0_holder_18 : decode cX0_holder 18 = .ok (.getfield 25, 3) := by decide +kernel
theorem dX0_holder_21 : decode cX0_holder 21 = .ok (.iload_n 1, 1) := by decide +kernel
theorem dX0_holder_22 : decode cX0_holder 22 = .ok (.iaload, 1) := by decide +kernel
theorem dX0_holder_23 : decode cX0_holder 23 = .ok (.ireturn, 1) := by decide +kernel
set_option maxRecDepth 20000 in
theorem ggX0_holderByLog_X0_isFrame : GoodIn wsX0_holderByLog wsX0_isFrame := goodIn_r _ [11] (by decide +kernel) (by decide +kernel)
set_option maxRecDepth 20000 in
theorem gX0_holderByLog_X0_isFrame : GoodIn wsX0_holderByLog (va_wsS RX0 102 yX0_isFrame wsX0_isFrame) := goodIn_app (goodIn_of _ (by decide +kernel)) ggX0_holderByLog_X0_isFrame
theorem dX0_holderByLog_0 : decode cX0_holderByLog 0 = .ok (.iload_n 1, 1) := by decide +kernel
theorem dX0_holderByLog_1 : decode cX0_holderByLog 1 = .ok (.invokestatic 102, 3) := by decide +kernel
theorem dX0_holderByLog_4 : decode cX0_holderByLog 4 = .ok (.ifCond .ne 13, 3) := by decide +kernel
theorem dX0_holderByLog_7 : decode cX0_holderByLog 7 = .ok (.new 79, 3) := by decide +kernel
theorem dX0_holderByLog_10 : decode cX0_holderByLog 10 = .ok (.dup, 1) := by decide +kernel
theorem dX0_holderByLog_11 : decode cX0_holderByLog 11 = .ok (.ldc 107, 2) := by decide +kernel
theorem dX0_holderByLog_13 : decode cX0_holderByLog 13 = .ok (.invokespecial 83, 3) := by decide +kernel
theorem dX0_holderByLog_16 : decode cX0_holderByLog 16 = .ok (.athrow, 1) := by decide +kernel
theorem dX0_holderByLog_17 : decode cX0_holderByLog 17 = .ok (.iconst 0, 1) := by decide +kernel
theorem dX0_holderByLog_18 : decode cX0_holderByLog 18 = .ok (.istore_n 2, 1) := by decide +kernel
theorem dX0_holderByLog_19 : decode cX0_holderByLog 19 = .ok (.iload_n 2, 1) := by decide +kernel
theorem dX0_holderByLog_20 : decode cX0_holderByLog 20 = .ok (.bipush 60, 2) := by decide +kernel
theorem dX0_holderByLog_22 : decode cX0_holderByLog 22 = .ok (.if_icmp .ge 43, 3) := by decide +kernel
theorem dX0_holderByLog_25 : decode cX0_holderByLog 25 = .ok (.iload_n 2, 1) := by decide +kernel
theorem dX0_holderByLog_26 : decode cX0_holderByLog 26 = .ok (.aload_n 0, 1) := by decide +kernel
theorem dX0_holderByLog_27 : decode cX0_holderByLog 27 = .ok (.getfield 53, 3) := by decide +kernel
theorem dX0_holderByLog_30 : decode cX0_holderByLog 30 = .ok (.if_icmp .ge 35, 3) := by decide +kernel
theorem dX0_holderByLog_65 : decode cX0_holderByLog 65 = .ok (.aload_n 0, 1) := by decide +kernel
theorem dX0_holderByLog_66 : decode cX0_holderByLog 66 = .ok (.getfield 22, 3) := by decide +kernel
theorem dX0_holderByLog_69 : decode cX0_holderByLog 69 = .ok (.iload_n 1, 1) := by decide +kernel
theorem dX0_holderByLog_70 : decode cX0_holderByLog 70 = .ok (.iaload, 1) := by decide +kernel
theorem dX0_holderByLog_71 : decode cX0_holderByLog 71 = .ok (.ireturn, 1) := by decide +kernel
set_option maxRecDepth 20000 in
theorem ggX0_pageIn_X0_isFrame : GoodIn wsX0_pageIn wsX0_isFrame := goodIn_r _ [7] (by decide +kernel) (by decide +kernel)
set_option maxRecDepth 20000 in
theorem gX0_pageIn_X0_isFrame : GoodIn wsX0_pageIn (va_wsS RX0 102 yX0_isFrame wsX0_isFrame) := goodIn_app (goodIn_of _ (by decide +kernel)) ggX0_pageIn_X0_isFrame
theorem dX0_pageIn_0 : decode cX0_pageIn 0 = .ok (.iload_n 1, 1) := by decide +kernel
theorem dX0_pageIn_1 : decode cX0_pageIn 1 = .ok (.invokestatic 102, 3) := by decide +kernel
theorem dX0_pageIn_4 : decode cX0_pageIn 4 = .ok (.ifCond .ne 13, 3) := by decide +kernel
theorem dX0_pageIn_7 : decode cX0_pageIn 7 = .ok (.new 79, 3) := by decide +kernel
theorem dX0_pageIn_10 : decode cX0_pageIn 10 = .ok (.dup, 1) := by decide +kernel
theorem dX0_pageIn_11 : decode cX0_pageIn 11 = .ok (.ldc 107, 2) := by decide +kernel
theorem dX0_pageIn_13 : decode cX0_pageIn 13 = .ok (.invokespecial 83, 3) := by decide +kernel
theorem dX0_pageIn_16 : decode cX0_pageIn 16 = .ok (.athrow, 1) := by decide +kernel
theorem dX0_pageIn_17 : decode cX0_pageIn 17 = .ok (.aload_n 0, 1) := by decide +kernel
theorem dX0_pageIn_18 : decode cX0_pageIn 18 = .ok (.getfield 28, 3) := by decide +kernel
theorem dX0_pageIn_21 : decode cX0_pageIn 21 = .ok (.iload_n 1, 1) := by decide +kernel
theorem dX0_pageIn_22 : decode cX0_pageIn 22 = .ok (.iaload, 1) := by decide +kernel
theorem dX0_pageIn_23 : decode cX0_pageIn 23 = .ok (.ireturn, 1) := by decide +kernel
set_option maxRecDepth 20000 in
theorem ggX0_age_X0_isFrame : GoodIn wsX0_age wsX0_isFrame := goodIn_r _ [6] (by decide +kernel) (by decide +kernel)
set_option maxRecDepth 20000 in
theorem gX0_age_X0_isFrame : GoodIn wsX0_age (va_wsS RX0 102 yX0_isFrame wsX0_isFrame) := goodIn_app (goodIn_of _ (by decide +kernel)) ggX0_age_X0_isFrame
set_option maxRecDepth 20000 in
theorem ggX0_age_X0_ageOf : GoodIn wsX0_age wsX0_ageOf := goodIn_r _ [10, 11, 12, 13, 14, 15, 16, 17, 18, 19, 20, 21, 22, 23, 24, 25, 26, 27, 28, 29, 30, 31, 32] (by decide +kernel) (by decide +kernel)
set_option maxRecDepth 20000 in
theorem gX0_age_X0_ageOf : GoodIn wsX0_age (wsV RX0 156 RX0 yX0_ageOf wsX0_ageOf) := goodIn_app (goodIn_of _ (by decide +kernel)) ggX0_age_X0_ageOf
theorem dX0_age_0 : decode cX0_age 0 = .ok (.iload_n 1, 1) := by decide +kernel
theorem dX0_age_1 : decode cX0_age 1 = .ok (.invokestatic 102, 3) := by decide +kernel
theorem dX0_age_4 : decode cX0_age 4 = .ok (.ifCond .ne 13, 3) := by decide +kernel
theorem dX0_age_7 : decode cX0_age 7 = .ok (.new 79, 3) := by decide +kernel
theorem dX0_age_10 : decode cX0_age 10 = .ok (.dup, 1) := by decide +kernel
theorem dX0_age_11 : decode cX0_age 11 = .ok (.ldc 107, 2) := by decide +kernel
theorem dX0_age_13 : decode cX0_age 13 = .ok (.invokespecial 83, 3) := by decide +kernel
theorem dX0_age_16 : decode cX0_age 16 = .ok (.athrow, 1) := by decide +kernel
theorem dX0_age_17 : decode cX0_age 17 = .ok (.aload_n 0, 1) := by decide +kernel
theorem dX0_age_18 : decode cX0_age 18 = .ok (.iload_n 1, 1) := by decide +kernel
theorem dX0_age_19 : decode cX0_age 19 = .ok (.invokevirtual 156, 3) := by decide +kernel
theorem dX0_age_22 : decode cX0_age 22 = .ok (.ireturn, 1) := by decide +kernel
theorem dX0_free_0 : decode cX0_free 0 = .ok (.iconst 0, 1) := by decide +kernel
theorem dX0_free_1 : decode cX0_free 1 = .ok (.istore_n 1, 1) := by decide +kernel
theorem dX0_free_2 : decode cX0_free 2 = .ok (.iconst 0, 1) := by decide +kernel
theorem dX0_free_3 : decode cX0_free 3 = .ok (.istore_n 2, 1) := by decide +kernel
theorem dX0_free_4 : decode cX0_free 4 = .ok (.iload_n 2, 1) := by decide +kernel
theorem dX0_free_5 : decode cX0_free 5 = .ok (.bipush 12, 2) := by decide +kernel
theorem dX0_free_7 : decode cX0_free 7 = .ok (.if_icmp .ge 22, 3) := by decide +kernel
theorem dX0_free_10 : decode cX0_free 10 = .ok (.aload_n 0, 1) := by decide +kernel
theorem dX0_free_11 : decode cX0_free 11 = .ok (.getfield 22, 3) := by decide +kernel
theorem dX0_free_14 : decode cX0_free 14 = .ok (.iload_n 2, 1) := by decide +kernel
theorem dX0_free_15 : decode cX0_free 15 = .ok (.iaload, 1) := by decide +kernel
theorem dX0_free_16 : decode cX0_free 16 = .ok (.iconst (-1), 1) := by decide +kernel
theorem dX0_free_17 : decode cX0_free 17 = .ok (.if_icmp .ne 6, 3) := by decide +kernel
theorem dX0_free_20 : decode cX0_free 20 = .ok (.iinc 1 1, 3) := by decide +kernel
theorem dX0_free_23 : decode cX0_free 23 = .ok (.iinc 2 1, 3) := by decide +kernel
theorem dX0_free_26 : decode cX0_free 26 = .ok (.goto (-22), 3) := by decide +kernel
theorem dX0_free_29 : decode cX0_free 29 = .ok (.iload_n 1, 1) := by decide +kernel
theorem dX0_free_30 : decode cX0_free 30 = .ok (.ireturn, 1) := by decide +kernel
set_option maxRecDepth 20000 in
theorem ggX0_owns_X0_isProcess : GoodIn wsX0_owns wsX0_isProcess := goodIn_r _ [7] (by decide +kernel) (by decide +kernel)
set_option maxRecDepth 20000 in
theorem gX0_owns_X0_isProcess : GoodIn wsX0_owns (va_wsS RX0 75 yX0_isProcess wsX0_isProcess) := goodIn_app (goodIn_of _ (by decide +kernel)) ggX0_owns_X0_isProcess
theorem dX0_owns_0 : decode cX0_owns 0 = .ok (.iload_n 1, 1) := by decide +kernel
theorem dX0_owns_1 : decode cX0_owns 1 = .ok (.invokestatic 75, 3) := by decide +kernel
theorem dX0_owns_4 : decode cX0_owns 4 = .ok (.ifCond .ne 13, 3) := by decide +kernel
theorem dX0_owns_7 : decode cX0_owns 7 = .ok (.new 79, 3) := by decide +kernel
theorem dX0_owns_10 : decode cX0_owns 10 = .ok (.dup, 1) := by decide +kernel
theorem dX0_owns_11 : decode cX0_owns 11 = .ok (.ldc 81, 2) := by decide +kernel
theorem dX0_owns_13 : decode cX0_owns 13 = .ok (.invokespecial 83, 3) := by decide +kernel
theorem dX0_owns_16 : decode cX0_owns 16 = .ok (.athrow, 1) := by decide +kernel
theorem dX0_owns_17 : decode cX0_owns 17 = .ok (.iconst 0, 1) := by decide +kernel
theorem dX0_owns_18 : decode cX0_owns 18 = .ok (.istore_n 2, 1) := by decide +kernel
theorem dX0_owns_19 : decode cX0_owns 19 = .ok (.iconst 0, 1) := by decide +kernel
theorem dX0_owns_20 : decode cX0_owns 20 = .ok (.istore_n 3, 1) := by decide +kernel
theorem dX0_owns_21 : decode cX0_owns 21 = .ok (.iload_n 3, 1) := by decide +kernel
theorem dX0_owns_22 : decode cX0_owns 22 = .ok (.bipush 12, 2) := by decide +kernel
theorem dX0_owns_24 : decode cX0_owns 24 = .ok (.if_icmp .ge 22, 3) := by decide +kernel
theorem dX0_owns_27 : decode cX0_owns 27 = .ok (.aload_n 0, 1) := by decide +kernel
theorem dX0_owns_28 : decode cX0_owns 28 = .ok (.getfield 22, 3) := by decide +kernel
theorem dX0_owns_31 : decode cX0_owns 31 = .ok (.iload_n 3, 1) := by decide +kernel
theorem dX0_owns_32 : decode cX0_owns 32 = .ok (.iaload, 1) := by decide +kernel
theorem dX0_owns_33 : decode cX0_owns 33 = .ok (.iload_n 1, 1) := by decide +kernel
theorem dX0_owns_34 : decode cX0_owns 34 = .ok (.if_icmp .ne 6, 3) := by decide +kernel
theorem dX0_owns_40 : decode cX0_owns 40 = .ok (.iinc 3 1, 3) := by decide +kernel
theorem dX0_owns_43 : decode cX0_owns 43 = .ok (.goto (-22), 3) := by decide +kernel
theorem dX0_owns_46 : decode cX0_owns 46 = .ok (.iload_n 2, 1) := by decide +kernel
theorem dX0_owns_47 : decode cX0_owns 47 = .ok (.ireturn, 1) := by decide +kernel
set_option maxRecDepth 20000 in
theorem ggX0_borrowed_X0_isProcess : GoodIn wsX0_borrowed wsX0_isProcess := goodIn_r _ [6] (by decide +kernel) (by decide +kernel)
set_option maxRecDepth 20000 in
theorem gX0_borrowed_X0_isProcess : GoodIn wsX0_borrowed (va_wsS RX0 75 yX0_isProcess wsX0_isProcess) := goodIn_app (goodIn_of _ (by decide +kernel)) ggX0_borrowed_X0_isProcess
set_option maxRecDepth 20000 in
theorem ggX0_borrowed_X0_countBorrowed : GoodIn wsX0_borrowed wsX0_countBorrowed := goodIn_r _ [10, 11, 12, 13, 14, 15, 16, 17, 18, 19, 20, 21, 22, 23, 24, 25, 26, 27, 28, 29, 30, 31] (by decide +kernel) (by decide +kernel)
set_option maxRecDepth 20000 in
theorem gX0_borrowed_X0_countBorrowed : GoodIn wsX0_borrowed (wsV RX0 159 RX0 yX0_countBorrowed wsX0_countBorrowed) := goodIn_app (goodIn_of _ (by decide +kernel)) ggX0_borrowed_X0_countBorrowed
theorem dX0_borrowed_0 : decode cX0_borrowed 0 = .ok (.iload_n 1, 1) := by decide +kernel
theorem dX0_borrowed_1 : decode cX0_borrowed 1 = .ok (.invokestatic 75, 3) := by decide +kernel
theorem dX0_borrowed_4 : decode cX0_borrowed 4 = .ok (.ifCond .ne 13, 3) := by decide +kernel
theorem dX0_borrowed_7 : decode cX0_borrowed 7 = .ok (.new 79, 3) := by decide +kernel
theorem dX0_borrowed_10 : decode cX0_borrowed 10 = .ok (.dup, 1) := by decide +kernel
theorem dX0_borrowed_11 : decode cX0_borrowed 11 = .ok (.ldc 81, 2) := by decide +kernel
theorem dX0_borrowed_13 : decode cX0_borrowed 13 = .ok (.invokespecial 83, 3) := by decide +kernel
theorem dX0_borrowed_16 : decode cX0_borrowed 16 = .ok (.athrow, 1) := by decide +kernel
theorem dX0_borrowed_17 : decode cX0_borrowed 17 = .ok (.aload_n 0, 1) := by decide +kernel
theorem dX0_borrowed_18 : decode cX0_borrowed 18 = .ok (.iload_n 1, 1) := by decide +kernel
theorem dX0_borrowed_19 : decode cX0_borrowed 19 = .ok (.invokevirtual 159, 3) := by decide +kernel
theorem dX0_borrowed_22 : decode cX0_borrowed 22 = .ok (.ireturn, 1) := by decide +kernel
set_option maxRecDepth 20000 in
theorem ggX0_lent_X0_isProcess : GoodIn wsX0_lent wsX0_isProcess := goodIn_r _ [8] (by decide +kernel) (by decide +kernel)
set_option maxRecDepth 20000 in
theorem gX0_lent_X0_isProcess : GoodIn wsX0_lent (va_wsS RX0 75 yX0_isProcess wsX0_isProcess) := goodIn_app (goodIn_of _ (by decide +kernel)) ggX0_lent_X0_isProcess
theorem dX0_lent_0 : decode cX0_lent 0 = .ok (.iload_n 1, 1) := by decide +kernel
theorem dX0_lent_1 : decode cX0_lent 1 = .ok (.invokestatic 75, 3) := by decide +kernel
theorem dX0_lent_4 : decode cX0_lent 4 = .ok (.ifCond .ne 13, 3) := by decide +kernel
theorem dX0_lent_7 : decode cX0_lent 7 = .ok (.new 79, 3) := by decide +kernel
theorem dX0_lent_10 : decode cX0_lent 10 = .ok (.dup, 1) := by decide +kernel
theorem dX0_lent_11 : decode cX0_lent 11 = .ok (.ldc 81, 2) := by decide +kernel
theorem dX0_lent_13 : decode cX0_lent 13 = .ok (.invokespecial 83, 3) := by decide +kernel
theorem dX0_lent_16 : decode cX0_lent 16 = .ok (.athrow, 1) := by decide +kernel
theorem dX0_lent_17 : decode cX0_lent 17 = .ok (.iconst 0, 1) := by decide +kernel
theorem dX0_lent_18 : decode cX0_lent 18 = .ok (.istore_n 2, 1) := by decide +kernel
theorem dX0_lent_19 : decode cX0_lent 19 = .ok (.iconst 0, 1) := by decide +kernel
theorem dX0_lent_20 : decode cX0_lent 20 = .ok (.istore_n 3, 1) := by decide +kernel
theorem dX0_lent_21 : decode cX0_lent 21 = .ok (.iload_n 3, 1) := by decide +kernel
theorem dX0_lent_22 : decode cX0_lent 22 = .ok (.bipush 12, 2) := by decide +kernel
theorem dX0_lent_24 : decode cX0_lent 24 = .ok (.if_icmp .ge 32, 3) := by decide +kernel
theorem dX0_lent_27 : decode cX0_lent 27 = .ok (.aload_n 0, 1) := by decide +kernel
theorem dX0_lent_28 : decode cX0_lent 28 = .ok (.getfield 22, 3) := by decide +kernel
theorem dX0_lent_31 : decode cX0_lent 31 = .ok (.iload_n 3, 1) := by decide +kernel
theorem dX0_lent_32 : decode cX0_lent 32 = .ok (.iaload, 1) := by decide +kernel
theorem dX0_lent_33 : decode cX0_lent 33 = .ok (.iload_n 1, 1) := by decide +kernel
theorem dX0_lent_34 : decode cX0_lent 34 = .ok (.if_icmp .ne 16, 3) := by decide +kernel
theorem dX0_lent_50 : decode cX0_lent 50 = .ok (.iinc 3 1, 3) := by decide +kernel
theorem dX0_lent_53 : decode cX0_lent 53 = .ok (.goto (-32), 3) := by decide +kernel
theorem dX0_lent_56 : decode cX0_lent 56 = .ok (.iload_n 2, 1) := by decide +kernel
theorem dX0_lent_57 : decode cX0_lent 57 = .ok (.ireturn, 1) := by decide +kernel
set_option maxRecDepth 20000 in
theorem ggX0_stateOf_X0_isProcess : GoodIn wsX0_stateOf wsX0_isProcess := goodIn_r _ [7] (by decide +kernel) (by decide +kernel)
set_option maxRecDepth 20000 in
theorem gX0_stateOf_X0_isProcess : GoodIn wsX0_stateOf (va_wsS RX0 75 yX0_isProcess wsX0_isProcess) := goodIn_app (goodIn_of _ (by decide +kernel)) ggX0_stateOf_X0_isProcess
theorem dX0_stateOf_0 : decode cX0_stateOf 0 = .ok (.iload_n 1, 1) := by decide +kernel
theorem dX0_stateOf_1 : decode cX0_stateOf 1 = .ok (.invokestatic 75, 3) := by decide +kernel
theorem dX0_stateOf_4 : decode cX0_stateOf 4 = .ok (.ifCond .ne 13, 3) := by decide +kernel
theorem dX0_stateOf_7 : decode cX0_stateOf 7 = .ok (.new 79, 3) := by decide +kernel
theorem dX0_stateOf_10 : decode cX0_stateOf 10 = .ok (.dup, 1) := by decide +kernel
theorem dX0_stateOf_11 : decode cX0_stateOf 11 = .ok (.ldc 81, 2) := by decide +kernel
theorem dX0_stateOf_13 : decode cX0_stateOf 13 = .ok (.invokespecial 83, 3) := by decide +kernel
theorem dX0_stateOf_16 : decode cX0_stateOf 16 = .ok (.athrow, 1) := by decide +kernel
theorem dX0_stateOf_17 : decode cX0_stateOf 17 = .ok (.aload_n 0, 1) := by decide +kernel
theorem dX0_stateOf_18 : decode cX0_stateOf 18 = .ok (.getfield 16, 3) := by decide +kernel
theorem dX0_stateOf_21 : decode cX0_stateOf 21 = .ok (.iload_n 1, 1) := by decide +kernel
theorem dX0_stateOf_22 : decode cX0_stateOf 22 = .ok (.iaload, 1) := by decide +kernel
theorem dX0_stateOf_23 : decode cX0_stateOf 23 = .ok (.ireturn, 1) := by decide +kernel
set_option maxRecDepth 20000 in
theorem ggX0_purse_X0_isProcess : GoodIn wsX0_purse wsX0_isProcess := goodIn_r _ [7] (by decide +kernel) (by decide +kernel)
set_option maxRecDepth 20000 in
theorem gX0_purse_X0_isProcess : GoodIn wsX0_purse (va_wsS RX0 75 yX0_isProcess wsX0_isProcess) := goodIn_app (goodIn_of _ (by decide +kernel)) ggX0_purse_X0_isProcess
theorem dX0_purse_0 : decode cX0_purse 0 = .ok (.iload_n 1, 1) := by decide +kernel
theorem dX0_purse_1 : decode cX0_purse 1 = .ok (.invokestatic 75, 3) := by decide +kernel
theorem dX0_purse_4 : decode cX0_purse 4 = .ok (.ifCond .ne 13, 3) := by decide +kernel
theorem dX0_purse_7 : decode cX0_purse 7 = .ok (.new 79, 3) := by decide +kernel
theorem dX0_purse_10 : decode cX0_purse 10 = .ok (.dup, 1) := by decide +kernel
theorem dX0_purse_11 : decode cX0_purse 11 = .ok (.ldc 81, 2) := by decide +kernel
theorem dX0_purse_13 : decode cX0_purse 13 = .ok (.invokespecial 83, 3) := by decide +kernel
theorem dX0_purse_16 : decode cX0_purse 16 = .ok (.athrow, 1) := by decide +kernel
theorem dX0_purse_17 : decode cX0_purse 17 = .ok (.aload_n 0, 1) := by decide +kernel
theorem dX0_purse_18 : decode cX0_purse 18 = .ok (.getfield 13, 3) := by decide +kernel
theorem dX0_purse_21 : decode cX0_purse 21 = .ok (.iload_n 1, 1) := by decide +kernel
theorem dX0_purse_22 : decode cX0_purse 22 = .ok (.iaload, 1) := by decide +kernel
theorem dX0_purse_23 : decode cX0_purse 23 = .ok (.ireturn, 1) := by decide +kernel
set_option maxRecDepth 20000 in
theorem ggX0_faults_X0_isProcess : GoodIn wsX0_faults wsX0_isProcess := goodIn_r _ [7] (by decide +kernel) (by decide +kernel)
set_option maxRecDepth 20000 in
theorem gX0_faults_X0_isProcess : GoodIn wsX0_faults (va_wsS RX0 75 yX0_isProcess wsX0_isProcess) := goodIn_app (goodIn_of _ (by decide +kernel)) ggX0_faults_X0_isProcess
theorem dX0_faults_0 : decode cX0_faults 0 = .ok (.iload_n 1, 1) := by decide +kernel
theorem dX0_faults_1 : decode cX0_faults 1 = .ok (.invokestatic 75, 3) := by decide +kernel
theorem dX0_faults_4 : decode cX0_faults 4 = .ok (.ifCond .ne 13, 3) := by decide +kernel
theorem dX0_faults_7 : decode cX0_faults 7 = .ok (.new 79, 3) := by decide +kernel
theorem dX0_faults_10 : decode cX0_faults 10 = .ok (.dup, 1) := by decide +kernel
theorem dX0_faults_11 : decode cX0_faults 11 = .ok (.ldc 81, 2) := by decide +kernel
theorem dX0_faults_13 : decode cX0_faults 13 = .ok (.invokespecial 83, 3) := by decide +kernel
theorem dX0_faults_16 : decode cX0_faults 16 = .ok (.athrow, 1) := by decide +kernel
theorem dX0_faults_17 : decode cX0_faults 17 = .ok (.aload_n 0, 1) := by decide +kernel
theorem dX0_faults_18 : decode cX0_faults 18 = .ok (.getfield 19, 3) := by decide +kernel
theorem dX0_faults_21 : decode cX0_faults 21 = .ok (.iload_n 1, 1) := by decide +kernel
theorem dX0_faults_22 : decode cX0_faults 22 = .ok (.iaload, 1) := by decide +kernel
theorem dX0_faults_23 : decode cX0_faults 23 = .ok (.ireturn, 1) := by decide +kernel
theorem dX0_loans_0 : decode cX0_loans 0 = .ok (.aload_n 0, 1) := by decide +kernel
theorem dX0_loans_1 : decode cX0_loans 1 = .ok (.getfield 53, 3) := by decide +kernel
theorem dX0_loans_4 : decode cX0_loans 4 = .ok (.ireturn, 1) := by decide +kernel
set_option maxRecDepth 20000 in
theorem ggX0_lasts_X0_isLoan : GoodIn wsX0_lasts wsX0_isLoan := goodIn_r _ [8, 9, 10, 11, 12, 13, 14, 15, 16, 17, 18, 19, 20, 21, 22, 23, 24, 25, 26, 27, 28] (by decide +kernel) (by decide +kernel)
set_option maxRecDepth 20000 in
theorem gX0_lasts_X0_isLoan : GoodIn wsX0_lasts (wsV RX0 135 RX0 yX0_isLoan wsX0_isLoan) := goodIn_app (goodIn_of _ (by decide +kernel)) ggX0_lasts_X0_isLoan
theorem dX0_lasts_0 : decode cX0_lasts 0 = .ok (.aload_n 0, 1) := by decide +kernel
theorem dX0_lasts_1 : decode cX0_lasts 1 = .ok (.iload_n 1, 1) := by decide +kernel
theorem dX0_lasts_2 : decode cX0_lasts 2 = .ok (.invokevirtual 135, 3) := by decide +kernel
theorem dX0_lasts_5 : decode cX0_lasts 5 = .ok (.ifCond .ne 13, 3) := by decide +kernel
theorem dX0_lasts_8 : decode cX0_lasts 8 = .ok (.new 79, 3) := by decide +kernel
theorem dX0_lasts_11 : decode cX0_lasts 11 = .ok (.dup, 1) := by decide +kernel
theorem dX0_lasts_12 : decode cX0_lasts 12 = .ok (.ldc 138, 2) := by decide +kernel
theorem dX0_lasts_14 : decode cX0_lasts 14 = .ok (.invokespecial 83, 3) := by decide +kernel
theorem dX0_lasts_17 : decode cX0_lasts 17 = .ok (.athrow, 1) := by decide +kernel
set_option maxRecDepth 20000 in
theorem ggX0_partiesOf_X0_isLoan : GoodIn wsX0_partiesOf wsX0_isLoan := goodIn_r _ [10, 11, 12, 13, 14, 15, 16, 17, 18, 19, 20, 21, 22, 23, 24, 25, 26, 27, 28, 29, 30] (by decide +kernel) (by decide +kernel)
set_option maxRecDepth 20000 in
theorem gX0_partiesOf_X0_isLoan : GoodIn wsX0_partiesOf (wsV RX0 135 RX0 yX0_isLoan wsX0_isLoan) := goodIn_app (goodIn_of _ (by decide +kernel)) ggX0_partiesOf_X0_isLoan
theorem dX0_partiesOf_0 : decode cX0_partiesOf 0 = .ok (.aload_n 0, 1) := by decide +kernel
theorem dX0_partiesOf_1 : decode cX0_partiesOf 1 = .ok (.iload_n 1, 1) := by decide +kernel
theorem dX0_partiesOf_2 : decode cX0_partiesOf 2 = .ok (.invokevirtual 135, 3) := by decide +kernel
theorem dX0_partiesOf_5 : decode cX0_partiesOf 5 = .ok (.ifCond .ne 13, 3) := by decide +kernel
theorem dX0_partiesOf_8 : decode cX0_partiesOf 8 = .ok (.new 79, 3) := by decide +kernel
theorem dX0_partiesOf_11 : decode cX0_partiesOf 11 = .ok (.dup, 1) := by decide +kernel
theorem dX0_partiesOf_12 : decode cX0_partiesOf 12 = .ok (.ldc 138, 2) := by decide +kernel
theorem dX0_partiesOf_14 : decode cX0_partiesOf 14 = .ok (.invokespecial 83, 3) := by decide +kernel
theorem dX0_partiesOf_17 : decode cX0_partiesOf 17 = .ok (.athrow, 1) := by decide +kernel
set_option maxRecDepth 20000 in
theorem ggX0_interest_X0_isLoan : GoodIn wsX0_interest wsX0_isLoan := goodIn_r _ [8, 9, 10, 11, 12, 13, 14, 15, 16, 17, 18, 19, 20, 21, 22, 23, 24, 25, 26, 27, 28] (by decide +kernel) (by decide +kernel)
set_option maxRecDepth 20000 in
theorem gX0_interest_X0_isLoan : GoodIn wsX0_interest (wsV RX0 135 RX0 yX0_isLoan wsX0_isLoan) := goodIn_app (goodIn_of _ (by decide +kernel)) ggX0_interest_X0_isLoan
theorem dX0_interest_0 : decode cX0_interest 0 = .ok (.aload_n 0, 1) := by decide +kernel
theorem dX0_interest_1 : decode cX0_interest 1 = .ok (.iload_n 1, 1) := by decide +kernel
theorem dX0_interest_2 : decode cX0_interest 2 = .ok (.invokevirtual 135, 3) := by decide +kernel
theorem dX0_interest_5 : decode cX0_interest 5 = .ok (.ifCond .ne 13, 3) := by decide +kernel
theorem dX0_interest_8 : decode cX0_interest 8 = .ok (.new 79, 3) := by decide +kernel
theorem dX0_interest_11 : decode cX0_interest 11 = .ok (.dup, 1) := by decide +kernel
theorem dX0_interest_12 : decode cX0_interest 12 = .ok (.ldc 138, 2) := by decide +kernel
theorem dX0_interest_14 : decode cX0_interest 14 = .ok (.invokespecial 83, 3) := by decide +kernel
theorem dX0_interest_17 : decode cX0_interest 17 = .ok (.athrow, 1) := by decide +kernel
theorem dX0_head_0 : decode cX0_head 0 = .ok (.aload_n 0, 1) := by decide +kernel
theorem dX0_head_1 : decode cX0_head 1 = .ok (.getfield 63, 3) := by decide +kernel
theorem dX0_head_4 : decode cX0_head 4 = .ok (.ireturn, 1) := by decide +kernel
set_option maxRecDepth 20000 in
theorem ggX0_requests_X0_isComing : GoodIn wsX0_requests wsX0_isComing := goodIn_r _ [5, 6, 7, 8, 9, 4, 10, 11, 12, 13, 14, 15, 16, 17, 18, 19, 20, 21, 22, 23, 24, 25, 26, 27, 28, 29] (by decide +kernel) (by decide +kernel)
set_option maxRecDepth 20000 in
theorem gX0_requests_X0_isComing : GoodIn wsX0_requests (wsV RX0 140 RX0 yX0_isComing wsX0_isComing) := goodIn_app (goodIn_of _ (by decide +kernel)) ggX0_requests_X0_isComing
theorem dX0_requests_0 : decode cX0_requests 0 = .ok (.iconst 0, 1) := by decide +kernel
theorem dX0_requests_1 : decode cX0_requests 1 = .ok (.istore_n 1, 1) := by decide +kernel
theorem dX0_requests_2 : decode cX0_requests 2 = .ok (.iconst 0, 1) := by decide +kernel
theorem dX0_requests_3 : decode cX0_requests 3 = .ok (.istore_n 2, 1) := by decide +kernel
theorem dX0_requests_4 : decode cX0_requests 4 = .ok (.iload_n 2, 1) := by decide +kernel
theorem dX0_requests_5 : decode cX0_requests 5 = .ok (.bipush 12, 2) := by decide +kernel
theorem dX0_requests_7 : decode cX0_requests 7 = .ok (.if_icmp .ge 20, 3) := by decide +kernel
theorem dX0_requests_10 : decode cX0_requests 10 = .ok (.aload_n 0, 1) := by decide +kernel
theorem dX0_requests_11 : decode cX0_requests 11 = .ok (.iload_n 2, 1) := by decide +kernel
theorem dX0_requests_12 : decode cX0_requests 12 = .ok (.invokevirtual 140, 3) := by decide +kernel
theorem dX0_requests_15 : decode cX0_requests 15 = .ok (.ifCond .eq 6, 3) := by decide +kernel
theorem dX0_requests_21 : decode cX0_requests 21 = .ok (.iinc 2 1, 3) := by decide +kernel
theorem dX0_requests_24 : decode cX0_requests 24 = .ok (.goto (-20), 3) := by decide +kernel
theorem dX0_requests_27 : decode cX0_requests 27 = .ok (.iload_n 1, 1) := by decide +kernel
theorem dX0_requests_28 : decode cX0_requests 28 = .ok (.ireturn, 1) := by decide +kernel
set_option maxRecDepth 20000 in
theorem ggX0_requestAt_X0_isRequested : GoodIn wsX0_requestAt wsX0_isRequested := goodIn_r _ [7, 8, 9, 10, 6, 11, 12, 13, 14, 15, 16, 17, 18, 19, 20, 21, 22, 23, 24, 25, 26, 27, 28, 29, 30, 31, 32, 33, 34, 35, 36, 37, 38, 39, 40] (by decide +kernel) (by decide +kernel)
set_option maxRecDepth 20000 in
theorem gX0_requestAt_X0_isRequested : GoodIn wsX0_requestAt (wsV RX0 164 RX0 yX0_isRequested wsX0_isRequested) := goodIn_app (goodIn_of _ (by decide +kernel)) ggX0_requestAt_X0_isRequested
theorem dX0_requestAt_0 : decode cX0_requestAt 0 = .ok (.iload_n 1, 1) := by decide +kernel
theorem dX0_requestAt_1 : decode cX0_requestAt 1 = .ok (.ifCond .ge 13, 3) := by decide +kernel
theorem dX0_requestAt_4 : decode cX0_requestAt 4 = .ok (.new 79, 3) := by decide +kernel
theorem dX0_requestAt_7 : decode cX0_requestAt 7 = .ok (.dup, 1) := by decide +kernel
theorem dX0_requestAt_8 : decode cX0_requestAt 8 = .ok (.ldc 162, 2) := by decide +kernel
theorem dX0_requestAt_10 : decode cX0_requestAt 10 = .ok (.invokespecial 83, 3) := by decide +kernel
theorem dX0_requestAt_13 : decode cX0_requestAt 13 = .ok (.athrow, 1) := by decide +kernel
theorem dX0_requestAt_14 : decode cX0_requestAt 14 = .ok (.iconst 0, 1) := by decide +kernel
theorem dX0_requestAt_15 : decode cX0_requestAt 15 = .ok (.istore_n 2, 1) := by decide +kernel
theorem dX0_requestAt_16 : decode cX0_requestAt 16 = .ok (.iconst 0, 1) := by decide +kernel
theorem dX0_requestAt_17 : decode cX0_requestAt 17 = .ok (.istore_n 3, 1) := by decide +kernel
theorem dX0_requestAt_18 : decode cX0_requestAt 18 = .ok (.iload_n 3, 1) := by decide +kernel
theorem dX0_requestAt_19 : decode cX0_requestAt 19 = .ok (.bipush 40, 2) := by decide +kernel
theorem dX0_requestAt_21 : decode cX0_requestAt 21 = .ok (.if_icmp .ge 27, 3) := by decide +kernel
theorem dX0_requestAt_24 : decode cX0_requestAt 24 = .ok (.aload_n 0, 1) := by decide +kernel
theorem dX0_requestAt_25 : decode cX0_requestAt 25 = .ok (.iload_n 3, 1) := by decide +kernel
theorem dX0_requestAt_26 : decode cX0_requestAt 26 = .ok (.invokevirtual 164, 3) := by decide +kernel
theorem dX0_requestAt_29 : decode cX0_requestAt 29 = .ok (.ifCond .eq 13, 3) := by decide +kernel
theorem dX0_requestAt_42 : decode cX0_requestAt 42 = .ok (.iinc 3 1, 3) := by decide +kernel
theorem dX0_requestAt_45 : decode cX0_requestAt 45 = .ok (.goto (-27), 3) := by decide +kernel
theorem dX0_requestAt_48 : decode cX0_requestAt 48 = .ok (.iconst (-1), 1) := by decide +kernel
theorem dX0_requestAt_49 : decode cX0_requestAt 49 = .ok (.ireturn, 1) := by decide +kernel
theorem dX0_isProcess_0 : decode cX0_isProcess 0 = .ok (.iload_n 0, 1) := by decide +kernel
theorem dX0_isProcess_1 : decode cX0_isProcess 1 = .ok (.ifCond .lt 12, 3) := by decide +kernel
theorem dX0_isProcess_4 : decode cX0_isProcess 4 = .ok (.iload_n 0, 1) := by decide +kernel
theorem dX0_isProcess_5 : decode cX0_isProcess 5 = .ok (.iconst 5, 1) := by decide +kernel
theorem dX0_isProcess_6 : decode cX0_isProcess 6 = .ok (.if_icmp .ge 7, 3) := by decide +kernel
theorem dX0_isProcess_9 : decode cX0_isProcess 9 = .ok (.iconst 1, 1) := by decide +kernel
theorem dX0_isProcess_10 : decode cX0_isProcess 10 = .ok (.goto 4, 3) := by decide +kernel
theorem dX0_isProcess_13 : decode cX0_isProcess 13 = .ok (.iconst 0, 1) := by decide +kernel
theorem dX0_isProcess_14 : decode cX0_isProcess 14 = .ok (.ireturn, 1) := by decide +kernel
theorem dX0_isPage_0 : decode cX0_isPage 0 = .ok (.iload_n 0, 1) := by decide +kernel
theorem dX0_isPage_1 : decode cX0_isPage 1 = .ok (.ifCond .lt 13, 3) := by decide +kernel
theorem dX0_isPage_4 : decode cX0_isPage 4 = .ok (.iload_n 0, 1) := by decide +kernel
theorem dX0_isPage_5 : decode cX0_isPage 5 = .ok (.bipush 8, 2) := by decide +kernel
theorem dX0_isPage_7 : decode cX0_isPage 7 = .ok (.if_icmp .ge 7, 3) := by decide +kernel
theorem dX0_isPage_14 : decode cX0_isPage 14 = .ok (.iconst 0, 1) := by decide +kernel
theorem dX0_isPage_15 : decode cX0_isPage 15 = .ok (.ireturn, 1) := by decide +kernel
theorem dX0_isFrame_0 : decode cX0_isFrame 0 = .ok (.iload_n 0, 1) := by decide +kernel
theorem dX0_isFrame_1 : decode cX0_isFrame 1 = .ok (.ifCond .lt 13, 3) := by decide +kernel
theorem dX0_isFrame_4 : decode cX0_isFrame 4 = .ok (.iload_n 0, 1) := by decide +kernel
theorem dX0_isFrame_5 : decode cX0_isFrame 5 = .ok (.bipush 12, 2) := by decide +kernel
theorem dX0_isFrame_7 : decode cX0_isFrame 7 = .ok (.if_icmp .ge 7, 3) := by decide +kernel
theorem dX0_isFrame_10 : decode cX0_isFrame 10 = .ok (.iconst 1, 1) := by decide +kernel
theorem dX0_isFrame_11 : decode cX0_isFrame 11 = .ok (.goto 4, 3) := by decide +kernel
theorem dX0_isFrame_14 : decode cX0_isFrame 14 = .ok (.iconst 0, 1) := by decide +kernel
theorem dX0_isFrame_15 : decode cX0_isFrame 15 = .ok (.ireturn, 1) := by decide +kernel
theorem dX0_isLoan_0 : decode cX0_isLoan 0 = .ok (.iload_n 1, 1) := by decide +kernel
theorem dX0_isLoan_1 : decode cX0_isLoan 1 = .ok (.ifCond .lt 21, 3) := by decide +kernel
theorem dX0_isLoan_4 : decode cX0_isLoan 4 = .ok (.iload_n 1, 1) := by decide +kernel
theorem dX0_isLoan_5 : decode cX0_isLoan 5 = .ok (.bipush 60, 2) := by decide +kernel
theorem dX0_isLoan_7 : decode cX0_isLoan 7 = .ok (.if_icmp .ge 15, 3) := by decide +kernel
theorem dX0_isLoan_10 : decode cX0_isLoan 10 = .ok (.iload_n 1, 1) := by decide +kernel
theorem dX0_isLoan_11 : decode cX0_isLoan 11 = .ok (.aload_n 0, 1) := by decide +kernel
theorem dX0_isLoan_12 : decode cX0_isLoan 12 = .ok (.getfield 53, 3) := by decide +kernel
theorem dX0_isLoan_15 : decode cX0_isLoan 15 = .ok (.if_icmp .ge 7, 3) := by decide +kernel
theorem dX0_isLoan_22 : decode cX0_isLoan 22 = .ok (.iconst 0, 1) := by decide +kernel
theorem dX0_isLoan_23 : decode cX0_isLoan 23 = .ok (.ireturn, 1) := by decide +kernel
set_option maxRecDepth 20000 in
theorem ggX0_isComing_X0_isFrame : GoodIn wsX0_isComing wsX0_isFrame := goodIn_r _ [6] (by decide +kernel) (by decide +kernel)
set_option maxRecDepth 20000 in
theorem gX0_isComing_X0_isFrame : GoodIn wsX0_isComing (va_wsS RX0 102 yX0_isFrame wsX0_isFrame) := goodIn_app (goodIn_of _ (by decide +kernel)) ggX0_isComing_X0_isFrame
theorem dX0_isComing_0 : decode cX0_isComing 0 = .ok (.iload_n 1, 1) := by decide +kernel
theorem dX0_isComing_1 : decode cX0_isComing 1 = .ok (.invokestatic 102, 3) := by decide +kernel
theorem dX0_isComing_4 : decode cX0_isComing 4 = .ok (.ifCond .eq 26, 3) := by decide +kernel
theorem dX0_isComing_7 : decode cX0_isComing 7 = .ok (.aload_n 0, 1) := by decide +kernel
theorem dX0_isComing_8 : decode cX0_isComing 8 = .ok (.getfield 28, 3) := by decide +kernel
theorem dX0_isComing_11 : decode cX0_isComing 11 = .ok (.iload_n 1, 1) := by decide +kernel
theorem dX0_isComing_12 : decode cX0_isComing 12 = .ok (.iaload, 1) := by decide +kernel
theorem dX0_isComing_13 : decode cX0_isComing 13 = .ok (.iconst (-1), 1) := by decide +kernel
theorem dX0_isComing_14 : decode cX0_isComing 14 = .ok (.if_icmp .eq 16, 3) := by decide +kernel
theorem dX0_isComing_30 : decode cX0_isComing 30 = .ok (.iconst 0, 1) := by decide +kernel
theorem dX0_isComing_31 : decode cX0_isComing 31 = .ok (.ireturn, 1) := by decide +kernel
theorem dX0_ageOf_0 : decode cX0_ageOf 0 = .ok (.aload_n 0, 1) := by decide +kernel
theorem dX0_ageOf_1 : decode cX0_ageOf 1 = .ok (.getfield 31, 3) := by decide +kernel
theorem dX0_ageOf_4 : decode cX0_ageOf 4 = .ok (.iload_n 1, 1) := by decide +kernel
theorem dX0_ageOf_5 : decode cX0_ageOf 5 = .ok (.baload, 1) := by decide +kernel
theorem dX0_ageOf_6 : decode cX0_ageOf 6 = .ok (.ifCond .eq 17, 3) := by decide +kernel
theorem dX0_ageOf_23 : decode cX0_ageOf 23 = .ok (.iconst (-1), 1) := by decide +kernel
theorem dX0_ageOf_24 : decode cX0_ageOf 24 = .ok (.ireturn, 1) := by decide +kernel
theorem dX0_countBorrowed_0 : decode cX0_countBorrowed 0 = .ok (.iconst 0, 1) := by decide +kernel
theorem dX0_countBorrowed_1 : decode cX0_countBorrowed 1 = .ok (.istore_n 2, 1) := by decide +kernel
theorem dX0_countBorrowed_2 : decode cX0_countBorrowed 2 = .ok (.iconst 0, 1) := by decide +kernel
theorem dX0_countBorrowed_3 : decode cX0_countBorrowed 3 = .ok (.istore_n 3, 1) := by decide +kernel
theorem dX0_countBorrowed_4 : decode cX0_countBorrowed 4 = .ok (.iload_n 3, 1) := by decide +kernel
theorem dX0_countBorrowed_5 : decode cX0_countBorrowed 5 = .ok (.bipush 12, 2) := by decide +kernel
theorem dX0_countBorrowed_7 : decode cX0_countBorrowed 7 = .ok (.if_icmp .ge 32, 3) := by decide +kernel
theorem dX0_countBorrowed_10 : decode cX0_countBorrowed 10 = .ok (.aload_n 0, 1) := by decide +kernel
theorem dX0_countBorrowed_11 : decode cX0_countBorrowed 11 = .ok (.getfield 25, 3) := by decide +kernel
theorem dX0_countBorrowed_14 : decode cX0_countBorrowed 14 = .ok (.iload_n 3, 1) := by decide +kernel
theorem dX0_countBorrowed_15 : decode cX0_countBorrowed 15 = .ok (.iaload, 1) := by decide +kernel
theorem dX0_countBorrowed_16 : decode cX0_countBorrowed 16 = .ok (.iload_n 1, 1) := by decide +kernel
theorem dX0_countBorrowed_17 : decode cX0_countBorrowed 17 = .ok (.if_icmp .ne 16, 3) := by decide +kernel
theorem dX0_countBorrowed_33 : decode cX0_countBorrowed 33 = .ok (.iinc 3 1, 3) := by decide +kernel
theorem dX0_countBorrowed_36 : decode cX0_countBorrowed 36 = .ok (.goto (-32), 3) := by decide +kernel
theorem dX0_countBorrowed_39 : decode cX0_countBorrowed 39 = .ok (.iload_n 2, 1) := by decide +kernel
theorem dX0_countBorrowed_40 : decode cX0_countBorrowed 40 = .ok (.ireturn, 1) := by decide +kernel
set_option maxRecDepth 20000 in
theorem ggX0_isRequested_X0_isComing : GoodIn wsX0_isRequested wsX0_isComing := goodIn_r _ [5, 6, 7, 8, 9, 4, 10, 16, 17, 18, 19, 20, 21, 22, 23, 24, 25, 26, 27, 28, 29, 30, 31, 32, 33, 34] (by decide +kernel) (by decide +kernel)
set_option maxRecDepth 20000 in
theorem gX0_isRequested_X0_isComing : GoodIn wsX0_isRequested (wsV RX0 140 RX0 yX0_isComing wsX0_isComing) := goodIn_app (goodIn_of _ (by decide +kernel)) ggX0_isRequested_X0_isComing
theorem dX0_isRequested_0 : decode cX0_isRequested 0 = .ok (.iconst 0, 1) := by decide +kernel
theorem dX0_isRequested_1 : decode cX0_isRequested 1 = .ok (.istore_n 2, 1) := by decide +kernel
theorem dX0_isRequested_2 : decode cX0_isRequested 2 = .ok (.iload_n 2, 1) := by decide +kernel
theorem dX0_isRequested_3 : decode cX0_isRequested 3 = .ok (.bipush 12, 2) := by decide +kernel
theorem dX0_isRequested_5 : decode cX0_isRequested 5 = .ok (.if_icmp .ge 28, 3) := by decide +kernel
theorem dX0_isRequested_8 : decode cX0_isRequested 8 = .ok (.aload_n 0, 1) := by decide +kernel
theorem dX0_isRequested_9 : decode cX0_isRequested 9 = .ok (.iload_n 2, 1) := by decide +kernel
theorem dX0_isRequested_10 : decode cX0_isRequested 10 = .ok (.invokevirtual 140, 3) := by decide +kernel
theorem dX0_isRequested_13 : decode cX0_isRequested 13 = .ok (.ifCond .eq 14, 3) := by decide +kernel
theorem dX0_isRequested_27 : decode cX0_isRequested 27 = .ok (.iinc 2 1, 3) := by decide +kernel
theorem dX0_isRequested_30 : decode cX0_isRequested 30 = .ok (.goto (-28), 3) := by decide +kernel
theorem dX0_isRequested_33 : decode cX0_isRequested 33 = .ok (.iconst 0, 1) := by decide +kernel
theorem dX0_isRequested_34 : decode cX0_isRequested 34 = .ok (.ireturn, 1) := by decide +kernel
theorem dJ9_abs_0f7a4_0 : decode cJ9_abs_0f7a4 0 = .ok (.iload_n 0, 1) := by decide +kernel
theorem dJ9_abs_0f7a4_1 : decode cJ9_abs_0f7a4 1 = .ok (.ifCond .ge 8, 3) := by decide +kernel
theorem dJ9_abs_0f7a4_4 : decode cJ9_abs_0f7a4 4 = .ok (.iload_n 0, 1) := by decide +kernel
theorem dJ9_abs_0f7a4_5 : decode cJ9_abs_0f7a4 5 = .ok (.ineg, 1) := by decide +kernel
theorem dJ9_abs_0f7a4_6 : decode cJ9_abs_0f7a4 6 = .ok (.goto 4, 3) := by decide +kernel
theorem dJ9_abs_0f7a4_9 : decode cJ9_abs_0f7a4 9 = .ok (.iload_n 0, 1) := by decide +kernel
theorem dJ9_abs_0f7a4_10 : decode cJ9_abs_0f7a4 10 = .ok (.ireturn, 1) := by decide +kernel
theorem dJ7_fill_53178_0 : decode cJ7_fill_53178 0 = .ok (.iconst 0, 1) := by decide +kernel
theorem dJ7_fill_53178_1 : decode cJ7_fill_53178 1 = .ok (.istore_n 2, 1) := by decide +kernel
theorem dJ7_fill_53178_2 : decode cJ7_fill_53178 2 = .ok (.aload_n 0, 1) := by decide +kernel
theorem dJ7_fill_53178_3 : decode cJ7_fill_53178 3 = .ok (.arraylength, 1) := by decide +kernel
theorem dJ7_fill_53178_4 : decode cJ7_fill_53178 4 = .ok (.istore_n 3, 1) := by decide +kernel
theorem dJ7_fill_53178_5 : decode cJ7_fill_53178 5 = .ok (.iload_n 2, 1) := by decide +kernel
theorem dJ7_fill_53178_6 : decode cJ7_fill_53178 6 = .ok (.iload_n 3, 1) := by decide +kernel
theorem dJ7_fill_53178_7 : decode cJ7_fill_53178 7 = .ok (.if_icmp .ge 13, 3) := by decide +kernel
theorem dJ7_fill_53178_10 : decode cJ7_fill_53178 10 = .ok (.aload_n 0, 1) := by decide +kernel
theorem dJ7_fill_53178_11 : decode cJ7_fill_53178 11 = .ok (.iload_n 2, 1) := by decide +kernel
theorem dJ7_fill_53178_12 : decode cJ7_fill_53178 12 = .ok (.iload_n 1, 1) := by decide +kernel
theorem dJ7_fill_53178_13 : decode cJ7_fill_53178 13 = .ok (.iastore, 1) := by decide +kernel
theorem dJ7_fill_53178_14 : decode cJ7_fill_53178 14 = .ok (.iinc 2 1, 3) := by decide +kernel
theorem dJ7_fill_53178_17 : decode cJ7_fill_53178 17 = .ok (.goto (-12), 3) := by decide +kernel
theorem dJ7_fill_53178_20 : decode cJ7_fill_53178 20 = .ok (.return_, 1) := by decide +kernel

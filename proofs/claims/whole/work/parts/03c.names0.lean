set_option maxRecDepth 20000 in
theorem ggX0_init_J7_fill_53178 : GoodIn wsX0_init wsJ7_fill_53178 := goodIn_r _ [28] (by decide +kernel) (by decide +kernel)
set_option maxRecDepth 20000 in
theorem gX0_init_J7_fill_53178 : GoodIn wsX0_init (va_wsS RX0 69 yJ7_fill_53178 wsJ7_fill_53178) := goodIn_app (goodIn_of _ (by decide +kernel)) ggX0_init_J7_fill_53178
theorem dX0_init_0 : decode cX0_init 0 = .ok (.aload_n 0, 1) := by decide +kernel
theorem dX0_init_1 : decode cX0_init 1 = .ok (.invokespecial 3, 3) := by decide +kernel
theorem dX0_init_4 : decode cX0_init 4 = .ok (.aload_n 0, 1) := by decide +kernel
theorem dX0_init_5 : decode cX0_init 5 = .ok (.iconst 5, 1) := by decide +kernel
theorem dX0_init_6 : decode cX0_init 6 = .ok (.newarray .int, 2) := by decide +kernel
theorem dX0_init_8 : decode cX0_init 8 = .ok (.putfield 9, 3) := by decide +kernel
theorem dX0_init_11 : decode cX0_init 11 = .ok (.aload_n 0, 1) := by decide +kernel
theorem dX0_init_12 : decode cX0_init 12 = .ok (.iconst 5, 1) := by decide +kernel
theorem dX0_init_13 : decode cX0_init 13 = .ok (.newarray .int, 2) := by decide +kernel
theorem dX0_init_15 : decode cX0_init 15 = .ok (.putfield 13, 3) := by decide +kernel
theorem dX0_init_18 : decode cX0_init 18 = .ok (.aload_n 0, 1) := by decide +kernel
theorem dX0_init_19 : decode cX0_init 19 = .ok (.iconst 5, 1) := by decide +kernel
theorem dX0_init_20 : decode cX0_init 20 = .ok (.newarray .int, 2) := by decide +kernel
theorem dX0_init_22 : decode cX0_init 22 = .ok (.putfield 16, 3) := by decide +kernel
theorem dX0_init_25 : decode cX0_init 25 = .ok (.aload_n 0, 1) := by decide +kernel
theorem dX0_init_26 : decode cX0_init 26 = .ok (.iconst 5, 1) := by decide +kernel
theorem dX0_init_27 : decode cX0_init 27 = .ok (.newarray .int, 2) := by decide +kernel
theorem dX0_init_29 : decode cX0_init 29 = .ok (.putfield 19, 3) := by decide +kernel
theorem dX0_init_32 : decode cX0_init 32 = .ok (.aload_n 0, 1) := by decide +kernel
theorem dX0_init_33 : decode cX0_init 33 = .ok (.bipush 12, 2) := by decide +kernel
theorem dX0_init_35 : decode cX0_init 35 = .ok (.newarray .int, 2) := by decide +kernel
theorem dX0_init_37 : decode cX0_init 37 = .ok (.putfield 22, 3) := by decide +kernel
theorem dX0_init_40 : decode cX0_init 40 = .ok (.aload_n 0, 1) := by decide +kernel
theorem dX0_init_41 : decode cX0_init 41 = .ok (.bipush 12, 2) := by decide +kernel
theorem dX0_init_43 : decode cX0_init 43 = .ok (.newarray .int, 2) := by decide +kernel
theorem dX0_init_45 : decode cX0_init 45 = .ok (.putfield 25, 3) := by decide +kernel
theorem dX0_init_48 : decode cX0_init 48 = .ok (.aload_n 0, 1) := by decide +kernel
theorem dX0_init_49 : decode cX0_init 49 = .ok (.bipush 12, 2) := by decide +kernel
theorem dX0_init_51 : decode cX0_init 51 = .ok (.newarray .int, 2) := by decide +kernel
theorem dX0_init_53 : decode cX0_init 53 = .ok (.putfield 28, 3) := by decide +kernel
theorem dX0_init_56 : decode cX0_init 56 = .ok (.aload_n 0, 1) := by decide +kernel
theorem dX0_init_57 : decode cX0_init 57 = .ok (.bipush 12, 2) := by decide +kernel
theorem dX0_init_59 : decode cX0_init 59 = .ok (.newarray .boolean, 2) := by decide +kernel
theorem dX0_init_61 : decode cX0_init 61 = .ok (.putfield 31, 3) := by decide +kernel
theorem dX0_init_64 : decode cX0_init 64 = .ok (.aload_n 0, 1) := by decide +kernel
theorem dX0_init_65 : decode cX0_init 65 = .ok (.bipush 12, 2) := by decide +kernel
theorem dX0_init_67 : decode cX0_init 67 = .ok (.newarray .int, 2) := by decide +kernel
theorem dX0_init_69 : decode cX0_init 69 = .ok (.putfield 35, 3) := by decide +kernel
theorem dX0_init_72 : decode cX0_init 72 = .ok (.aload_n 0, 1) := by decide +kernel
theorem dX0_init_73 : decode cX0_init 73 = .ok (.bipush 60, 2) := by decide +kernel
theorem dX0_init_75 : decode cX0_init 75 = .ok (.newarray .int, 2) := by decide +kernel
theorem dX0_init_77 : decode cX0_init 77 = .ok (.putfield 38, 3) := by decide +kernel
theorem dX0_init_80 : decode cX0_init 80 = .ok (.aload_n 0, 1) := by decide +kernel
theorem dX0_init_81 : decode cX0_init 81 = .ok (.bipush 60, 2) := by decide +kernel
theorem dX0_init_83 : decode cX0_init 83 = .ok (.newarray .int, 2) := by decide +kernel
theorem dX0_init_85 : decode cX0_init 85 = .ok (.putfield 41, 3) := by decide +kernel
theorem dX0_init_88 : decode cX0_init 88 = .ok (.aload_n 0, 1) := by decide +kernel
theorem dX0_init_89 : decode cX0_init 89 = .ok (.bipush 60, 2) := by decide +kernel
theorem dX0_init_91 : decode cX0_init 91 = .ok (.newarray .int, 2) := by decide +kernel
theorem dX0_init_93 : decode cX0_init 93 = .ok (.putfield 44, 3) := by decide +kernel
theorem dX0_init_96 : decode cX0_init 96 = .ok (.aload_n 0, 1) := by decide +kernel
theorem dX0_init_97 : decode cX0_init 97 = .ok (.bipush 60, 2) := by decide +kernel
theorem dX0_init_99 : decode cX0_init 99 = .ok (.newarray .boolean, 2) := by decide +kernel
theorem dX0_init_101 : decode cX0_init 101 = .ok (.putfield 47, 3) := by decide +kernel
theorem dX0_init_104 : decode cX0_init 104 = .ok (.aload_n 0, 1) := by decide +kernel
theorem dX0_init_105 : decode cX0_init 105 = .ok (.bipush 60, 2) := by decide +kernel
theorem dX0_init_107 : decode cX0_init 107 = .ok (.newarray .int, 2) := by decide +kernel
theorem dX0_init_109 : decode cX0_init 109 = .ok (.putfield 50, 3) := by decide +kernel
theorem dX0_init_112 : decode cX0_init 112 = .ok (.aload_n 0, 1) := by decide +kernel
theorem dX0_init_113 : decode cX0_init 113 = .ok (.iconst 0, 1) := by decide +kernel
theorem dX0_init_114 : decode cX0_init 114 = .ok (.putfield 53, 3) := by decide +kernel
theorem dX0_init_117 : decode cX0_init 117 = .ok (.aload_n 0, 1) := by decide +kernel
theorem dX0_init_118 : decode cX0_init 118 = .ok (.iconst 1, 1) := by decide +kernel
theorem dX0_init_119 : decode cX0_init 119 = .ok (.putfield 57, 3) := by decide +kernel
theorem dX0_init_122 : decode cX0_init 122 = .ok (.aload_n 0, 1) := by decide +kernel
theorem dX0_init_123 : decode cX0_init 123 = .ok (.iconst 0, 1) := by decide +kernel
theorem dX0_init_124 : decode cX0_init 124 = .ok (.putfield 60, 3) := by decide +kernel
theorem dX0_init_127 : decode cX0_init 127 = .ok (.aload_n 0, 1) := by decide +kernel
theorem dX0_init_128 : decode cX0_init 128 = .ok (.iconst 0, 1) := by decide +kernel
theorem dX0_init_129 : decode cX0_init 129 = .ok (.putfield 63, 3) := by decide +kernel
theorem dX0_init_132 : decode cX0_init 132 = .ok (.aload_n 0, 1) := by decide +kernel
theorem dX0_init_133 : decode cX0_init 133 = .ok (.iconst (-1), 1) := by decide +kernel
theorem dX0_init_134 : decode cX0_init 134 = .ok (.putfield 66, 3) := by decide +kernel
theorem dX0_init_137 : decode cX0_init 137 = .ok (.aload_n 0, 1) := by decide +kernel
theorem dX0_init_138 : decode cX0_init 138 = .ok (.getfield 13, 3) := by decide +kernel
theorem dX0_init_141 : decode cX0_init 141 = .ok (.bipush 20, 2) := by decide +kernel
theorem dX0_init_143 : decode cX0_init 143 = .ok (.invokestatic 69, 3) := by decide +kernel
theorem dX0_init_146 : decode cX0_init 146 = .ok (.aload_n 0, 1) := by decide +kernel
theorem dX0_init_147 : decode cX0_init 147 = .ok (.getfield 16, 3) := by decide +kernel
theorem dX0_init_150 : decode cX0_init 150 = .ok (.iconst 0, 1) := by decide +kernel
theorem dX0_init_151 : decode cX0_init 151 = .ok (.invokestatic 69, 3) := by decide +kernel
theorem dX0_init_154 : decode cX0_init 154 = .ok (.aload_n 0, 1) := by decide +kernel
theorem dX0_init_155 : decode cX0_init 155 = .ok (.getfield 22, 3) := by decide +kernel
theorem dX0_init_158 : decode cX0_init 158 = .ok (.iconst (-1), 1) := by decide +kernel
theorem dX0_init_159 : decode cX0_init 159 = .ok (.invokestatic 69, 3) := by decide +kernel
theorem dX0_init_162 : decode cX0_init 162 = .ok (.aload_n 0, 1) := by decide +kernel
theorem dX0_init_163 : decode cX0_init 163 = .ok (.getfield 25, 3) := by decide +kernel
theorem dX0_init_166 : decode cX0_init 166 = .ok (.iconst (-1), 1) := by decide +kernel
theorem dX0_init_167 : decode cX0_init 167 = .ok (.invokestatic 69, 3) := by decide +kernel
theorem dX0_init_170 : decode cX0_init 170 = .ok (.aload_n 0, 1) := by decide +kernel
theorem dX0_init_171 : decode cX0_init 171 = .ok (.getfield 28, 3) := by decide +kernel
theorem dX0_init_174 : decode cX0_init 174 = .ok (.iconst (-1), 1) := by decide +kernel
theorem dX0_init_175 : decode cX0_init 175 = .ok (.invokestatic 69, 3) := by decide +kernel
theorem dX0_init_178 : decode cX0_init 178 = .ok (.return_, 1) := by decide +kernel
set_option maxRecDepth 20000 in
theorem ggX0_setWage_X0_isProcess : GoodIn wsX0_setWage wsX0_isProcess := goodIn_r _ [9] (by decide +kernel) (by decide +kernel)
set_option maxRecDepth 20000 in
theorem gX0_setWage_X0_isProcess : GoodIn wsX0_setWage (va_wsS RX0 75 yX0_isProcess wsX0_isProcess) := goodIn_app (goodIn_of _ (by decide +kernel)) ggX0_setWage_X0_isProcess
theorem dX0_setWage_0 : decode cX0_setWage 0 = .ok (.iload_n 1, 1) := by decide +kernel
theorem dX0_setWage_1 : decode cX0_setWage 1 = .ok (.invokestatic 75, 3) := by decide +kernel
theorem dX0_setWage_4 : decode cX0_setWage 4 = .ok (.ifCond .ne 13, 3) := by decide +kernel
theorem dX0_setWage_7 : decode cX0_setWage 7 = .ok (.new 79, 3) := by decide +kernel
theorem dX0_setWage_10 : decode cX0_setWage 10 = .ok (.dup, 1) := by decide +kernel
theorem dX0_setWage_11 : decode cX0_setWage 11 = .ok (.ldc 81, 2) := by decide +kernel
theorem dX0_setWage_13 : decode cX0_setWage 13 = .ok (.invokespecial 83, 3) := by decide +kernel
theorem dX0_setWage_16 : decode cX0_setWage 16 = .ok (.athrow, 1) := by decide +kernel
theorem dX0_setWage_17 : decode cX0_setWage 17 = .ok (.iload_n 2, 1) := by decide +kernel
theorem dX0_setWage_18 : decode cX0_setWage 18 = .ok (.ifCond .lt 9, 3) := by decide +kernel
theorem dX0_setWage_21 : decode cX0_setWage 21 = .ok (.iload_n 2, 1) := by decide +kernel
theorem dX0_setWage_22 : decode cX0_setWage 22 = .ok (.bipush 9, 2) := by decide +kernel
theorem dX0_setWage_24 : decode cX0_setWage 24 = .ok (.if_icmp .le 13, 3) := by decide +kernel
theorem dX0_setWage_27 : decode cX0_setWage 27 = .ok (.new 86, 3) := by decide +kernel
theorem dX0_setWage_30 : decode cX0_setWage 30 = .ok (.dup, 1) := by decide +kernel
theorem dX0_setWage_31 : decode cX0_setWage 31 = .ok (.ldc 88, 2) := by decide +kernel
theorem dX0_setWage_33 : decode cX0_setWage 33 = .ok (.invokespecial 90, 3) := by decide +kernel
theorem dX0_setWage_36 : decode cX0_setWage 36 = .ok (.athrow, 1) := by decide +kernel
theorem dX0_setWage_37 : decode cX0_setWage 37 = .ok (.aload_n 0, 1) := by decide +kernel
theorem dX0_setWage_38 : decode cX0_setWage 38 = .ok (.getfield 9, 3) := by decide +kernel
theorem dX0_setWage_41 : decode cX0_setWage 41 = .ok (.iload_n 1, 1) := by decide +kernel
theorem dX0_setWage_42 : decode cX0_setWage 42 = .ok (.iaload, 1) := by decide +kernel
theorem dX0_setWage_43 : decode cX0_setWage 43 = .ok (.istore_n 3, 1) := by decide +kernel
theorem dX0_setWage_44 : decode cX0_setWage 44 = .ok (.aload_n 0, 1) := by decide +kernel
theorem dX0_setWage_45 : decode cX0_setWage 45 = .ok (.getfield 9, 3) := by decide +kernel
theorem dX0_setWage_48 : decode cX0_setWage 48 = .ok (.iload_n 1, 1) := by decide +kernel
theorem dX0_setWage_49 : decode cX0_setWage 49 = .ok (.iload_n 2, 1) := by decide +kernel
theorem dX0_setWage_50 : decode cX0_setWage 50 = .ok (.iastore, 1) := by decide +kernel
theorem dX0_setWage_51 : decode cX0_setWage 51 = .ok (.iload_n 3, 1) := by decide +kernel
theorem dX0_setWage_52 : decode cX0_setWage 52 = .ok (.ireturn, 1) := by decide +kernel
theorem dX0_setRate_0 : decode cX0_setRate 0 = .ok (.iload_n 1, 1) := by decide +kernel
theorem dX0_setRate_1 : decode cX0_setRate 1 = .ok (.ifCond .lt 9, 3) := by decide +kernel
theorem dX0_setRate_4 : decode cX0_setRate 4 = .ok (.iload_n 1, 1) := by decide +kernel
theorem dX0_setRate_5 : decode cX0_setRate 5 = .ok (.bipush 9, 2) := by decide +kernel
theorem dX0_setRate_7 : decode cX0_setRate 7 = .ok (.if_icmp .le 13, 3) := by decide +kernel
theorem dX0_setRate_10 : decode cX0_setRate 10 = .ok (.new 86, 3) := by decide +kernel
theorem dX0_setRate_13 : decode cX0_setRate 13 = .ok (.dup, 1) := by decide +kernel
theorem dX0_setRate_14 : decode cX0_setRate 14 = .ok (.ldc 91, 2) := by decide +kernel
theorem dX0_setRate_16 : decode cX0_setRate 16 = .ok (.invokespecial 90, 3) := by decide +kernel
theorem dX0_setRate_19 : decode cX0_setRate 19 = .ok (.athrow, 1) := by decide +kernel
theorem dX0_setRate_20 : decode cX0_setRate 20 = .ok (.aload_n 0, 1) := by decide +kernel
theorem dX0_setRate_21 : decode cX0_setRate 21 = .ok (.getfield 57, 3) := by decide +kernel
theorem dX0_setRate_24 : decode cX0_setRate 24 = .ok (.istore_n 2, 1) := by decide +kernel
theorem dX0_setRate_25 : decode cX0_setRate 25 = .ok (.aload_n 0, 1) := by decide +kernel
theorem dX0_setRate_26 : decode cX0_setRate 26 = .ok (.iload_n 1, 1) := by decide +kernel
theorem dX0_setRate_27 : decode cX0_setRate 27 = .ok (.putfield 57, 3) := by decide +kernel
theorem dX0_setRate_30 : decode cX0_setRate 30 = .ok (.iload_n 2, 1) := by decide +kernel
theorem dX0_setRate_31 : decode cX0_setRate 31 = .ok (.ireturn, 1) := by decide +kernel
set_option maxRecDepth 20000 in
theorem ggX0_buy_X0_isProcess : GoodIn wsX0_buy wsX0_isProcess := goodIn_r _ [12] (by decide +kernel) (by decide +kernel)
set_option maxRecDepth 20000 in
theorem gX0_buy_X0_isProcess : GoodIn wsX0_buy (va_wsS RX0 75 yX0_isProcess wsX0_isProcess) := goodIn_app (goodIn_of _ (by decide +kernel)) ggX0_buy_X0_isProcess
set_option maxRecDepth 20000 in
theorem ggX0_buy_X0_lowestEmptyFrame : GoodIn wsX0_buy wsX0_lowestEmptyFrame := goodIn_r _ [16, 8, 17, 21, 22, 23, 24, 25, 26, 27, 28, 29, 30, 31, 32, 33, 34, 35, 36, 37, 38, 39] (by decide +kernel) (by decide +kernel)
set_option maxRecDepth 20000 in
theorem gX0_buy_X0_lowestEmptyFrame : GoodIn wsX0_buy (wsV RX0 98 RX0 yX0_lowestEmptyFrame wsX0_lowestEmptyFrame) := goodIn_app (goodIn_of _ (by decide +kernel)) ggX0_buy_X0_lowestEmptyFrame
set_option maxRecDepth 20000 in
theorem ggX0_buy_X0_isFrame : GoodIn wsX0_buy wsX0_isFrame := goodIn_r _ [20] (by decide +kernel) (by decide +kernel)
set_option maxRecDepth 20000 in
theorem gX0_buy_X0_isFrame : GoodIn wsX0_buy (va_wsS RX0 102 yX0_isFrame wsX0_isFrame) := goodIn_app (goodIn_of _ (by decide +kernel)) ggX0_buy_X0_isFrame
theorem dX0_buy_0 : decode cX0_buy 0 = .ok (.iload_n 1, 1) := by decide +kernel
theorem dX0_buy_1 : decode cX0_buy 1 = .ok (.invokestatic 75, 3) := by decide +kernel
theorem dX0_buy_4 : decode cX0_buy 4 = .ok (.ifCond .ne 13, 3) := by decide +kernel
theorem dX0_buy_7 : decode cX0_buy 7 = .ok (.new 79, 3) := by decide +kernel
theorem dX0_buy_10 : decode cX0_buy 10 = .ok (.dup, 1) := by decide +kernel
theorem dX0_buy_11 : decode cX0_buy 11 = .ok (.ldc 81, 2) := by decide +kernel
theorem dX0_buy_13 : decode cX0_buy 13 = .ok (.invokespecial 83, 3) := by decide +kernel
theorem dX0_buy_16 : decode cX0_buy 16 = .ok (.athrow, 1) := by decide +kernel
theorem dX0_buy_17 : decode cX0_buy 17 = .ok (.aload_n 0, 1) := by decide +kernel
theorem dX0_buy_18 : decode cX0_buy 18 = .ok (.getfield 16, 3) := by decide +kernel
theorem dX0_buy_21 : decode cX0_buy 21 = .ok (.iload_n 1, 1) := by decide +kernel
theorem dX0_buy_22 : decode cX0_buy 22 = .ok (.iaload, 1) := by decide +kernel
theorem dX0_buy_23 : decode cX0_buy 23 = .ok (.iconst 2, 1) := by decide +kernel
theorem dX0_buy_24 : decode cX0_buy 24 = .ok (.if_icmp .eq 14, 3) := by decide +kernel
theorem dX0_buy_27 : decode cX0_buy 27 = .ok (.aload_n 0, 1) := by decide +kernel
theorem dX0_buy_28 : decode cX0_buy 28 = .ok (.getfield 13, 3) := by decide +kernel
theorem dX0_buy_31 : decode cX0_buy 31 = .ok (.iload_n 1, 1) := by decide +kernel
theorem dX0_buy_32 : decode cX0_buy 32 = .ok (.iaload, 1) := by decide +kernel
theorem dX0_buy_33 : decode cX0_buy 33 = .ok (.bipush 8, 2) := by decide +kernel
theorem dX0_buy_35 : decode cX0_buy 35 = .ok (.if_icmp .ge 13, 3) := by decide +kernel
theorem dX0_buy_38 : decode cX0_buy 38 = .ok (.new 93, 3) := by decide +kernel
theorem dX0_buy_41 : decode cX0_buy 41 = .ok (.dup, 1) := by decide +kernel
theorem dX0_buy_42 : decode cX0_buy 42 = .ok (.ldc 95, 2) := by decide +kernel
theorem dX0_buy_44 : decode cX0_buy 44 = .ok (.invokespecial 97, 3) := by decide +kernel
theorem dX0_buy_47 : decode cX0_buy 47 = .ok (.athrow, 1) := by decide +kernel
theorem dX0_buy_48 : decode cX0_buy 48 = .ok (.aload_n 0, 1) := by decide +kernel
theorem dX0_buy_49 : decode cX0_buy 49 = .ok (.iconst (-1), 1) := by decide +kernel
theorem dX0_buy_50 : decode cX0_buy 50 = .ok (.invokevirtual 98, 3) := by decide +kernel
theorem dX0_buy_53 : decode cX0_buy 53 = .ok (.istore_n 2, 1) := by decide +kernel
theorem dX0_buy_54 : decode cX0_buy 54 = .ok (.iload_n 2, 1) := by decide +kernel
theorem dX0_buy_55 : decode cX0_buy 55 = .ok (.invokestatic 102, 3) := by decide +kernel
theorem dX0_buy_58 : decode cX0_buy 58 = .ok (.ifCond .ne 13, 3) := by decide +kernel
theorem dX0_buy_61 : decode cX0_buy 61 = .ok (.new 93, 3) := by decide +kernel
theorem dX0_buy_64 : decode cX0_buy 64 = .ok (.dup, 1) := by decide +kernel
theorem dX0_buy_65 : decode cX0_buy 65 = .ok (.ldc 105, 2) := by decide +kernel
theorem dX0_buy_67 : decode cX0_buy 67 = .ok (.invokespecial 97, 3) := by decide +kernel
theorem dX0_buy_70 : decode cX0_buy 70 = .ok (.athrow, 1) := by decide +kernel
theorem dX0_buy_71 : decode cX0_buy 71 = .ok (.aload_n 0, 1) := by decide +kernel
theorem dX0_buy_72 : decode cX0_buy 72 = .ok (.getfield 13, 3) := by decide +kernel
theorem dX0_buy_75 : decode cX0_buy 75 = .ok (.iload_n 1, 1) := by decide +kernel
theorem dX0_buy_76 : decode cX0_buy 76 = .ok (.dup2, 1) := by decide +kernel
theorem dX0_buy_77 : decode cX0_buy 77 = .ok (.iaload, 1) := by decide +kernel
theorem dX0_buy_78 : decode cX0_buy 78 = .ok (.bipush 8, 2) := by decide +kernel
theorem dX0_buy_80 : decode cX0_buy 80 = .ok (.isub, 1) := by decide +kernel
theorem dX0_buy_81 : decode cX0_buy 81 = .ok (.iastore, 1) := by decide +kernel
theorem dX0_buy_82 : decode cX0_buy 82 = .ok (.aload_n 0, 1) := by decide +kernel
theorem dX0_buy_83 : decode cX0_buy 83 = .ok (.getfield 22, 3) := by decide +kernel
theorem dX0_buy_86 : decode cX0_buy 86 = .ok (.iload_n 2, 1) := by decide +kernel
theorem dX0_buy_87 : decode cX0_buy 87 = .ok (.iload_n 1, 1) := by decide +kernel
theorem dX0_buy_88 : decode cX0_buy 88 = .ok (.iastore, 1) := by decide +kernel
theorem dX0_buy_89 : decode cX0_buy 89 = .ok (.aload_n 0, 1) := by decide +kernel
theorem dX0_buy_90 : decode cX0_buy 90 = .ok (.getfield 25, 3) := by decide +kernel
theorem dX0_buy_93 : decode cX0_buy 93 = .ok (.iload_n 2, 1) := by decide +kernel
theorem dX0_buy_94 : decode cX0_buy 94 = .ok (.iload_n 1, 1) := by decide +kernel
theorem dX0_buy_95 : decode cX0_buy 95 = .ok (.iastore, 1) := by decide +kernel
theorem dX0_buy_96 : decode cX0_buy 96 = .ok (.iload_n 2, 1) := by decide +kernel
theorem dX0_buy_97 : decode cX0_buy 97 = .ok (.ireturn, 1) := by decide +kernel
set_option maxRecDepth 20000 in
theorem ggX0_sell_X0_isFrame : GoodIn wsX0_sell wsX0_isFrame := goodIn_r _ [13] (by decide +kernel) (by decide +kernel)
set_option maxRecDepth 20000 in
theorem gX0_sell_X0_isFrame : GoodIn wsX0_sell (va_wsS RX0 102 yX0_isFrame wsX0_isFrame) := goodIn_app (goodIn_of _ (by decide +kernel)) ggX0_sell_X0_isFrame
set_option maxRecDepth 20000 in
theorem ggX0_sell_X0_isProcess : GoodIn wsX0_sell wsX0_isProcess := goodIn_r _ [16] (by decide +kernel) (by decide +kernel)
set_option maxRecDepth 20000 in
theorem gX0_sell_X0_isProcess : GoodIn wsX0_sell (va_wsS RX0 75 yX0_isProcess wsX0_isProcess) := goodIn_app (goodIn_of _ (by decide +kernel)) ggX0_sell_X0_isProcess
theorem dX0_sell_0 : decode cX0_sell 0 = .ok (.iload_n 1, 1) := by decide +kernel
theorem dX0_sell_1 : decode cX0_sell 1 = .ok (.invokestatic 102, 3) := by decide +kernel
theorem dX0_sell_4 : decode cX0_sell 4 = .ok (.ifCond .ne 13, 3) := by decide +kernel
theorem dX0_sell_7 : decode cX0_sell 7 = .ok (.new 79, 3) := by decide +kernel
theorem dX0_sell_10 : decode cX0_sell 10 = .ok (.dup, 1) := by decide +kernel
theorem dX0_sell_11 : decode cX0_sell 11 = .ok (.ldc 107, 2) := by decide +kernel
theorem dX0_sell_13 : decode cX0_sell 13 = .ok (.invokespecial 83, 3) := by decide +kernel
theorem dX0_sell_16 : decode cX0_sell 16 = .ok (.athrow, 1) := by decide +kernel
theorem dX0_sell_17 : decode cX0_sell 17 = .ok (.aload_n 0, 1) := by decide +kernel
theorem dX0_sell_18 : decode cX0_sell 18 = .ok (.getfield 22, 3) := by decide +kernel
theorem dX0_sell_21 : decode cX0_sell 21 = .ok (.iload_n 1, 1) := by decide +kernel
theorem dX0_sell_22 : decode cX0_sell 22 = .ok (.iaload, 1) := by decide +kernel
theorem dX0_sell_23 : decode cX0_sell 23 = .ok (.istore_n 2, 1) := by decide +kernel
theorem dX0_sell_24 : decode cX0_sell 24 = .ok (.iload_n 2, 1) := by decide +kernel
theorem dX0_sell_25 : decode cX0_sell 25 = .ok (.invokestatic 75, 3) := by decide +kernel
theorem dX0_sell_28 : decode cX0_sell 28 = .ok (.ifCond .ne 13, 3) := by decide +kernel
theorem dX0_sell_31 : decode cX0_sell 31 = .ok (.new 93, 3) := by decide +kernel
theorem dX0_sell_34 : decode cX0_sell 34 = .ok (.dup, 1) := by decide +kernel
theorem dX0_sell_35 : decode cX0_sell 35 = .ok (.ldc 109, 2) := by decide +kernel
theorem dX0_sell_37 : decode cX0_sell 37 = .ok (.invokespecial 97, 3) := by decide +kernel
theorem dX0_sell_40 : decode cX0_sell 40 = .ok (.athrow, 1) := by decide +kernel
theorem dX0_sell_41 : decode cX0_sell 41 = .ok (.aload_n 0, 1) := by decide +kernel
theorem dX0_sell_42 : decode cX0_sell 42 = .ok (.getfield 25, 3) := by decide +kernel
theorem dX0_sell_45 : decode cX0_sell 45 = .ok (.iload_n 1, 1) := by decide +kernel
theorem dX0_sell_46 : decode cX0_sell 46 = .ok (.iaload, 1) := by decide +kernel
theorem dX0_sell_47 : decode cX0_sell 47 = .ok (.iload_n 2, 1) := by decide +kernel
theorem dX0_sell_48 : decode cX0_sell 48 = .ok (.if_icmp .ne 23, 3) := by decide +kernel
theorem dX0_sell_51 : decode cX0_sell 51 = .ok (.aload_n 0, 1) := by decide +kernel
theorem dX0_sell_52 : decode cX0_sell 52 = .ok (.getfield 28, 3) := by decide +kernel
theorem dX0_sell_55 : decode cX0_sell 55 = .ok (.iload_n 1, 1) := by decide +kernel
theorem dX0_sell_56 : decode cX0_sell 56 = .ok (.iaload, 1) := by decide +kernel
theorem dX0_sell_57 : decode cX0_sell 57 = .ok (.iconst (-1), 1) := by decide +kernel
theorem dX0_sell_58 : decode cX0_sell 58 = .ok (.if_icmp .ne 13, 3) := by decide +kernel
theorem dX0_sell_61 : decode cX0_sell 61 = .ok (.aload_n 0, 1) := by decide +kernel
theorem dX0_sell_62 : decode cX0_sell 62 = .ok (.getfield 16, 3) := by decide +kernel
theorem dX0_sell_65 : decode cX0_sell 65 = .ok (.iload_n 2, 1) := by decide +kernel
theorem dX0_sell_66 : decode cX0_sell 66 = .ok (.iaload, 1) := by decide +kernel
theorem dX0_sell_67 : decode cX0_sell 67 = .ok (.iconst 2, 1) := by decide +kernel
theorem dX0_sell_68 : decode cX0_sell 68 = .ok (.if_icmp .ne 13, 3) := by decide +kernel
theorem dX0_sell_71 : decode cX0_sell 71 = .ok (.new 93, 3) := by decide +kernel
theorem dX0_sell_74 : decode cX0_sell 74 = .ok (.dup, 1) := by decide +kernel
theorem dX0_sell_75 : decode cX0_sell 75 = .ok (.ldc 111, 2) := by decide +kernel
theorem dX0_sell_77 : decode cX0_sell 77 = .ok (.invokespecial 97, 3) := by decide +kernel
theorem dX0_sell_80 : decode cX0_sell 80 = .ok (.athrow, 1) := by decide +kernel
theorem dX0_sell_81 : decode cX0_sell 81 = .ok (.aload_n 0, 1) := by decide +kernel
theorem dX0_sell_82 : decode cX0_sell 82 = .ok (.getfield 22, 3) := by decide +kernel
theorem dX0_sell_85 : decode cX0_sell 85 = .ok (.iload_n 1, 1) := by decide +kernel
theorem dX0_sell_86 : decode cX0_sell 86 = .ok (.iconst (-1), 1) := by decide +kernel
theorem dX0_sell_87 : decode cX0_sell 87 = .ok (.iastore, 1) := by decide +kernel
theorem dX0_sell_88 : decode cX0_sell 88 = .ok (.aload_n 0, 1) := by decide +kernel
theorem dX0_sell_89 : decode cX0_sell 89 = .ok (.getfield 25, 3) := by decide +kernel
theorem dX0_sell_92 : decode cX0_sell 92 = .ok (.iload_n 1, 1) := by decide +kernel
theorem dX0_sell_93 : decode cX0_sell 93 = .ok (.iconst (-1), 1) := by decide +kernel
theorem dX0_sell_94 : decode cX0_sell 94 = .ok (.iastore, 1) := by decide +kernel
theorem dX0_sell_95 : decode cX0_sell 95 = .ok (.aload_n 0, 1) := by decide +kernel
theorem dX0_sell_96 : decode cX0_sell 96 = .ok (.getfield 13, 3) := by decide +kernel
theorem dX0_sell_99 : decode cX0_sell 99 = .ok (.iload_n 2, 1) := by decide +kernel
theorem dX0_sell_100 : decode cX0_sell 100 = .ok (.dup2, 1) := by decide +kernel
theorem dX0_sell_101 : decode cX0_sell 101 = .ok (.iaload, 1) := by decide +kernel
theorem dX0_sell_102 : decode cX0_sell 102 = .ok (.iconst 4, 1) := by decide +kernel
theorem dX0_sell_103 : decode cX0_sell 103 = .ok (.iadd, 1) := by decide +kernel
theorem dX0_sell_104 : decode cX0_sell 104 = .ok (.iastore, 1) := by decide +kernel
theorem dX0_sell_105 : decode cX0_sell 105 = .ok (.aload_n 0, 1) := by decide +kernel
theorem dX0_sell_106 : decode cX0_sell 106 = .ok (.getfield 13, 3) := by decide +kernel
theorem dX0_sell_109 : decode cX0_sell 109 = .ok (.iload_n 2, 1) := by decide +kernel
theorem dX0_sell_110 : decode cX0_sell 110 = .ok (.iaload, 1) := by decide +kernel
theorem dX0_sell_111 : decode cX0_sell 111 = .ok (.ireturn, 1) := by decide +kernel
set_option maxRecDepth 20000 in
theorem ggX0_drop_X0_isFrame : GoodIn wsX0_drop wsX0_isFrame := goodIn_r _ [10] (by decide +kernel) (by decide +kernel)
set_option maxRecDepth 20000 in
theorem gX0_drop_X0_isFrame : GoodIn wsX0_drop (va_wsS RX0 102 yX0_isFrame wsX0_isFrame) := goodIn_app (goodIn_of _ (by decide +kernel)) ggX0_drop_X0_isFrame
set_option maxRecDepth 20000 in
theorem ggX0_drop_X0_dropPage : GoodIn wsX0_drop wsX0_dropPage := goodIn_r _ [14, 6, 5, 15, 16, 17, 18, 19, 20, 21, 22, 23, 24, 25, 26, 27, 28, 29, 30, 31, 32, 33, 34] (by decide +kernel) (by decide +kernel)
set_option maxRecDepth 20000 in
theorem gX0_drop_X0_dropPage : GoodIn wsX0_drop (wsV RX0 115 RX0 yX0_dropPage wsX0_dropPage) := goodIn_app (goodIn_of _ (by decide +kernel)) ggX0_drop_X0_dropPage
theorem dX0_drop_0 : decode cX0_drop 0 = .ok (.iload_n 1, 1) := by decide +kernel
theorem dX0_drop_1 : decode cX0_drop 1 = .ok (.invokestatic 102, 3) := by decide +kernel
theorem dX0_drop_4 : decode cX0_drop 4 = .ok (.ifCond .ne 13, 3) := by decide +kernel
theorem dX0_drop_7 : decode cX0_drop 7 = .ok (.new 79, 3) := by decide +kernel
theorem dX0_drop_10 : decode cX0_drop 10 = .ok (.dup, 1) := by decide +kernel
theorem dX0_drop_11 : decode cX0_drop 11 = .ok (.ldc 107, 2) := by decide +kernel
theorem dX0_drop_13 : decode cX0_drop 13 = .ok (.invokespecial 83, 3) := by decide +kernel
theorem dX0_drop_16 : decode cX0_drop 16 = .ok (.athrow, 1) := by decide +kernel
theorem dX0_drop_17 : decode cX0_drop 17 = .ok (.aload_n 0, 1) := by decide +kernel
theorem dX0_drop_18 : decode cX0_drop 18 = .ok (.getfield 31, 3) := by decide +kernel
theorem dX0_drop_21 : decode cX0_drop 21 = .ok (.iload_n 1, 1) := by decide +kernel
theorem dX0_drop_22 : decode cX0_drop 22 = .ok (.baload, 1) := by decide +kernel
theorem dX0_drop_23 : decode cX0_drop 23 = .ok (.ifCond .ne 13, 3) := by decide +kernel
theorem dX0_drop_26 : decode cX0_drop 26 = .ok (.new 93, 3) := by decide +kernel
theorem dX0_drop_29 : decode cX0_drop 29 = .ok (.dup, 1) := by decide +kernel
theorem dX0_drop_30 : decode cX0_drop 30 = .ok (.ldc 113, 2) := by decide +kernel
theorem dX0_drop_32 : decode cX0_drop 32 = .ok (.invokespecial 97, 3) := by decide +kernel
theorem dX0_drop_35 : decode cX0_drop 35 = .ok (.athrow, 1) := by decide +kernel
theorem dX0_drop_36 : decode cX0_drop 36 = .ok (.aload_n 0, 1) := by decide +kernel
theorem dX0_drop_37 : decode cX0_drop 37 = .ok (.getfield 28, 3) := by decide +kernel
theorem dX0_drop_40 : decode cX0_drop 40 = .ok (.iload_n 1, 1) := by decide +kernel
theorem dX0_drop_41 : decode cX0_drop 41 = .ok (.iaload, 1) := by decide +kernel
theorem dX0_drop_42 : decode cX0_drop 42 = .ok (.istore_n 2, 1) := by decide +kernel
theorem dX0_drop_43 : decode cX0_drop 43 = .ok (.aload_n 0, 1) := by decide +kernel
theorem dX0_drop_44 : decode cX0_drop 44 = .ok (.iload_n 1, 1) := by decide +kernel
theorem dX0_drop_45 : decode cX0_drop 45 = .ok (.invokevirtual 115, 3) := by decide +kernel
theorem dX0_drop_48 : decode cX0_drop 48 = .ok (.iload_n 2, 1) := by decide +kernel
theorem dX0_drop_49 : decode cX0_drop 49 = .ok (.ireturn, 1) := by decide +kernel
set_option maxRecDepth 20000 in
theorem ggX0_touch_X0_isProcess : GoodIn wsX0_touch wsX0_isProcess := goodIn_r _ [14] (by decide +kernel) (by decide +kernel)
set_option maxRecDepth 20000 in
theorem gX0_touch_X0_isProcess : GoodIn wsX0_touch (va_wsS RX0 75 yX0_isProcess wsX0_isProcess) := goodIn_app (goodIn_of _ (by decide +kernel)) ggX0_touch_X0_isProcess
set_option maxRecDepth 20000 in
theorem ggX0_touch_X0_isPage : GoodIn wsX0_touch wsX0_isPage := goodIn_r _ [17] (by decide +kernel) (by decide +kernel)
set_option maxRecDepth 20000 in
theorem gX0_touch_X0_isPage : GoodIn wsX0_touch (va_wsS RX0 119 yX0_isPage wsX0_isPage) := goodIn_app (goodIn_of _ (by decide +kernel)) ggX0_touch_X0_isPage
set_option maxRecDepth 20000 in
theorem ggX0_touch_X0_frameWithPage : GoodIn wsX0_touch wsX0_frameWithPage := goodIn_r _ [21, 22, 8, 83, 84, 85, 86, 87, 88, 89, 90, 91, 92, 93, 94, 95, 96, 97, 98, 99, 100, 101] (by decide +kernel) (by decide +kernel)
set_option maxRecDepth 20000 in
theorem gX0_touch_X0_frameWithPage : GoodIn wsX0_touch (wsV RX0 126 RX0 yX0_frameWithPage wsX0_frameWithPage) := goodIn_app (goodIn_of _ (by decide +kernel)) ggX0_touch_X0_frameWithPage
set_option maxRecDepth 20000 in
theorem ggX0_touch_X0_isFrame : GoodIn wsX0_touch wsX0_isFrame := goodIn_r _ [25] (by decide +kernel) (by decide +kernel)
set_option maxRecDepth 20000 in
theorem gX0_touch_X0_isFrame : GoodIn wsX0_touch (va_wsS RX0 102 yX0_isFrame wsX0_isFrame) := goodIn_app (goodIn_of _ (by decide +kernel)) ggX0_touch_X0_isFrame
set_option maxRecDepth 20000 in
theorem ggX0_touch_X0_frameForFault : GoodIn wsX0_touch wsX0_frameForFault := goodIn_ca (goodIn_r _ [29, 30, 31, 32, 13, 33, 22, 8, 34, 35, 36, 37, 38, 39, 40, 41, 42, 43, 44, 45, 9, 23, 24, 25, 46, 47, 48, 49, 50, 51, 52, 53, 54, 55, 56, 57, 58, 59, 3, 4, 60, 61, 62, 63, 64, 65, 66, 67, 68, 69, 70, 71, 72, 73, 74, 75, 76, 77, 78, 7, 6, 11, 12, 14, 79, 80, 81, 82, 83, 84, 85, 86, 87, 88, 89, 90, 91, 92, 93, 94, 95, 96, 97, 98, 99, 100, 101] (by decide +kernel) (by decide +kernel)) (goodIn_sub (fun _ h => List.mem_cons_of_mem _ (List.mem_append_right _ h)) (by decide +kernel))
set_option maxRecDepth 20000 in
theorem gX0_touch_X0_frameForFault : GoodIn wsX0_touch (wsV RX0 130 RX0 yX0_frameForFault wsX0_frameForFault) := goodIn_app (goodIn_of _ (by decide +kernel)) ggX0_touch_X0_frameForFault
theorem dX0_touch_0 : decode cX0_touch 0 = .ok (.iload_n 1, 1) := by decide +kernel
theorem dX0_touch_1 : decode cX0_touch 1 = .ok (.invokestatic 75, 3) := by decide +kernel
theorem dX0_touch_4 : decode cX0_touch 4 = .ok (.ifCond .eq 10, 3) := by decide +kernel
theorem dX0_touch_7 : decode cX0_touch 7 = .ok (.iload_n 2, 1) := by decide +kernel
theorem dX0_touch_8 : decode cX0_touch 8 = .ok (.invokestatic 119, 3) := by decide +kernel
theorem dX0_touch_11 : decode cX0_touch 11 = .ok (.ifCond .ne 13, 3) := by decide +kernel
theorem dX0_touch_14 : decode cX0_touch 14 = .ok (.new 79, 3) := by decide +kernel
theorem dX0_touch_17 : decode cX0_touch 17 = .ok (.dup, 1) := by decide +kernel
theorem dX0_touch_18 : decode cX0_touch 18 = .ok (.ldc 122, 2) := by decide +kernel
theorem dX0_touch_20 : decode cX0_touch 20 = .ok (.invokespecial 83, 3) := by decide +kernel
theorem dX0_touch_23 : decode cX0_touch 23 = .ok (.athrow, 1) := by decide +kernel
theorem dX0_touch_24 : decode cX0_touch 24 = .ok (.aload_n 0, 1) := by decide +kernel
theorem dX0_touch_25 : decode cX0_touch 25 = .ok (.getfield 16, 3) := by decide +kernel
theorem dX0_touch_28 : decode cX0_touch 28 = .ok (.iload_n 1, 1) := by decide +kernel
theorem dX0_touch_29 : decode cX0_touch 29 = .ok (.iaload, 1) := by decide +kernel
theorem dX0_touch_30 : decode cX0_touch 30 = .ok (.ifCond .eq 13, 3) := by decide +kernel
theorem dX0_touch_33 : decode cX0_touch 33 = .ok (.new 93, 3) := by decide +kernel
theorem dX0_touch_36 : decode cX0_touch 36 = .ok (.dup, 1) := by decide +kernel
theorem dX0_touch_37 : decode cX0_touch 37 = .ok (.ldc 124, 2) := by decide +kernel
theorem dX0_touch_39 : decode cX0_touch 39 = .ok (.invokespecial 97, 3) := by decide +kernel
theorem dX0_touch_42 : decode cX0_touch 42 = .ok (.athrow, 1) := by decide +kernel
theorem dX0_touch_43 : decode cX0_touch 43 = .ok (.aload_n 0, 1) := by decide +kernel
theorem dX0_touch_44 : decode cX0_touch 44 = .ok (.iload_n 1, 1) := by decide +kernel
theorem dX0_touch_45 : decode cX0_touch 45 = .ok (.iload_n 2, 1) := by decide +kernel
theorem dX0_touch_46 : decode cX0_touch 46 = .ok (.invokevirtual 126, 3) := by decide +kernel
theorem dX0_touch_49 : decode cX0_touch 49 = .ok (.istore_n 3, 1) := by decide +kernel
theorem dX0_touch_50 : decode cX0_touch 50 = .ok (.iload_n 3, 1) := by decide +kernel
theorem dX0_touch_51 : decode cX0_touch 51 = .ok (.invokestatic 102, 3) := by decide +kernel
theorem dX0_touch_54 : decode cX0_touch 54 = .ok (.ifCond .eq 15, 3) := by decide +kernel
theorem dX0_touch_57 : decode cX0_touch 57 = .ok (.aload_n 0, 1) := by decide +kernel
theorem dX0_touch_58 : decode cX0_touch 58 = .ok (.getfield 35, 3) := by decide +kernel
theorem dX0_touch_61 : decode cX0_touch 61 = .ok (.iload_n 3, 1) := by decide +kernel
theorem dX0_touch_62 : decode cX0_touch 62 = .ok (.aload_n 0, 1) := by decide +kernel
theorem dX0_touch_63 : decode cX0_touch 63 = .ok (.getfield 60, 3) := by decide +kernel
theorem dX0_touch_66 : decode cX0_touch 66 = .ok (.iastore, 1) := by decide +kernel
theorem dX0_touch_67 : decode cX0_touch 67 = .ok (.iconst (-1), 1) := by decide +kernel
theorem dX0_touch_68 : decode cX0_touch 68 = .ok (.ireturn, 1) := by decide +kernel
theorem dX0_touch_69 : decode cX0_touch 69 = .ok (.aload_n 0, 1) := by decide +kernel
theorem dX0_touch_70 : decode cX0_touch 70 = .ok (.iload_n 1, 1) := by decide +kernel
theorem dX0_touch_71 : decode cX0_touch 71 = .ok (.invokevirtual 130, 3) := by decide +kernel
theorem dX0_touch_74 : decode cX0_touch 74 = .ok (.istore 4, 2) := by decide +kernel
theorem dX0_touch_76 : decode cX0_touch 76 = .ok (.iload 4, 2) := by decide +kernel
theorem dX0_touch_78 : decode cX0_touch 78 = .ok (.invokestatic 102, 3) := by decide +kernel
theorem dX0_touch_81 : decode cX0_touch 81 = .ok (.ifCond .ne 13, 3) := by decide +kernel
theorem dX0_touch_84 : decode cX0_touch 84 = .ok (.new 93, 3) := by decide +kernel
theorem dX0_touch_87 : decode cX0_touch 87 = .ok (.dup, 1) := by decide +kernel
theorem dX0_touch_88 : decode cX0_touch 88 = .ok (.ldc 133, 2) := by decide +kernel
theorem dX0_touch_90 : decode cX0_touch 90 = .ok (.invokespecial 97, 3) := by decide +kernel
theorem dX0_touch_93 : decode cX0_touch 93 = .ok (.athrow, 1) := by decide +kernel
theorem dX0_touch_94 : decode cX0_touch 94 = .ok (.aload_n 0, 1) := by decide +kernel
theorem dX0_touch_95 : decode cX0_touch 95 = .ok (.getfield 28, 3) := by decide +kernel
theorem dX0_touch_98 : decode cX0_touch 98 = .ok (.iload 4, 2) := by decide +kernel
theorem dX0_touch_100 : decode cX0_touch 100 = .ok (.iload_n 2, 1) := by decide +kernel
theorem dX0_touch_101 : decode cX0_touch 101 = .ok (.iastore, 1) := by decide +kernel
theorem dX0_touch_102 : decode cX0_touch 102 = .ok (.aload_n 0, 1) := by decide +kernel
theorem dX0_touch_103 : decode cX0_touch 103 = .ok (.getfield 31, 3) := by decide +kernel
theorem dX0_touch_106 : decode cX0_touch 106 = .ok (.iload 4, 2) := by decide +kernel
theorem dX0_touch_108 : decode cX0_touch 108 = .ok (.iconst 0, 1) := by decide +kernel
theorem dX0_touch_109 : decode cX0_touch 109 = .ok (.bastore, 1) := by decide +kernel
theorem dX0_touch_110 : decode cX0_touch 110 = .ok (.aload_n 0, 1) := by decide +kernel
theorem dX0_touch_111 : decode cX0_touch 111 = .ok (.getfield 16, 3) := by decide +kernel
theorem dX0_touch_114 : decode cX0_touch 114 = .ok (.iload_n 1, 1) := by decide +kernel
theorem dX0_touch_115 : decode cX0_touch 115 = .ok (.iconst 1, 1) := by decide +kernel
theorem dX0_touch_116 : decode cX0_touch 116 = .ok (.iastore, 1) := by decide +kernel
theorem dX0_touch_117 : decode cX0_touch 117 = .ok (.aload_n 0, 1) := by decide +kernel
theorem dX0_touch_118 : decode cX0_touch 118 = .ok (.getfield 19, 3) := by decide +kernel
theorem dX0_touch_121 : decode cX0_touch 121 = .ok (.iload_n 1, 1) := by decide +kernel
theorem dX0_touch_122 : decode cX0_touch 122 = .ok (.dup2, 1) := by decide +kernel
theorem dX0_touch_123 : decode cX0_touch 123 = .ok (.iaload, 1) := by decide +kernel
theorem dX0_touch_124 : decode cX0_touch 124 = .ok (.iconst 1, 1) := by decide +kernel
theorem dX0_touch_125 : decode cX0_touch 125 = .ok (.iadd, 1) := by decide +kernel
theorem dX0_touch_126 : decode cX0_touch 126 = .ok (.iastore, 1) := by decide +kernel
theorem dX0_touch_127 : decode cX0_touch 127 = .ok (.iload 4, 2) := by decide +kernel
theorem dX0_touch_129 : decode cX0_touch 129 = .ok (.ireturn, 1) := by decide +kernel
set_option maxRecDepth 20000 in
theorem ggX0_payBack_X0_isLoan : GoodIn wsX0_payBack wsX0_isLoan := goodIn_r _ [12, 13, 34, 35, 36, 37, 38, 39, 40, 41, 42, 43, 44, 45, 46, 47, 48, 49, 50, 51, 52] (by decide +kernel) (by decide +kernel)
set_option maxRecDepth 20000 in
theorem gX0_payBack_X0_isLoan : GoodIn wsX0_payBack (wsV RX0 135 RX0 yX0_isLoan wsX0_isLoan) := goodIn_app (goodIn_of _ (by decide +kernel)) ggX0_payBack_X0_isLoan
set_option maxRecDepth 20000 in
theorem ggX0_payBack_X0_isComing : GoodIn wsX0_payBack wsX0_isComing := goodIn_r _ [17, 18, 19, 20, 21, 11, 22, 34, 35, 36, 37, 38, 39, 40, 41, 42, 43, 44, 45, 46, 47, 48, 49, 50, 51, 52] (by decide +kernel) (by decide +kernel)
set_option maxRecDepth 20000 in
theorem gX0_payBack_X0_isComing : GoodIn wsX0_payBack (wsV RX0 140 RX0 yX0_isComing wsX0_isComing) := goodIn_app (goodIn_of _ (by decide +kernel)) ggX0_payBack_X0_isComing
set_option maxRecDepth 20000 in
theorem ggX0_payBack_X0_endLoan : GoodIn wsX0_payBack wsX0_endLoan := goodIn_r _ [26, 5, 6, 27, 28, 20, 21, 11, 22, 29, 30, 31, 32, 18, 19, 33, 34, 35, 36, 37, 38, 39, 40, 41, 42, 43, 44, 45, 46, 47, 48, 49, 50, 51, 52] (by decide +kernel) (by decide +kernel)
set_option maxRecDepth 20000 in
theorem gX0_payBack_X0_endLoan : GoodIn wsX0_payBack (wsV RX0 145 RX0 yX0_endLoan wsX0_endLoan) := goodIn_app (goodIn_of _ (by decide +kernel)) ggX0_payBack_X0_endLoan
theorem dX0_payBack_0 : decode cX0_payBack 0 = .ok (.aload_n 0, 1) := by decide +kernel
theorem dX0_payBack_1 : decode cX0_payBack 1 = .ok (.iload_n 1, 1) := by decide +kernel
theorem dX0_payBack_2 : decode cX0_payBack 2 = .ok (.invokevirtual 135, 3) := by decide +kernel
theorem dX0_payBack_5 : decode cX0_payBack 5 = .ok (.ifCond .ne 13, 3) := by decide +kernel
theorem dX0_payBack_8 : decode cX0_payBack 8 = .ok (.new 79, 3) := by decide +kernel
theorem dX0_payBack_11 : decode cX0_payBack 11 = .ok (.dup, 1) := by decide +kernel
theorem dX0_payBack_12 : decode cX0_payBack 12 = .ok (.ldc 138, 2) := by decide +kernel
theorem dX0_payBack_14 : decode cX0_payBack 14 = .ok (.invokespecial 83, 3) := by decide +kernel
theorem dX0_payBack_17 : decode cX0_payBack 17 = .ok (.athrow, 1) := by decide +kernel
theorem dX0_payBack_18 : decode cX0_payBack 18 = .ok (.aload_n 0, 1) := by decide +kernel
theorem dX0_payBack_19 : decode cX0_payBack 19 = .ok (.getfield 47, 3) := by decide +kernel
theorem dX0_payBack_22 : decode cX0_payBack 22 = .ok (.iload_n 1, 1) := by decide +kernel
theorem dX0_payBack_23 : decode cX0_payBack 23 = .ok (.baload, 1) := by decide +kernel
theorem dX0_payBack_24 : decode cX0_payBack 24 = .ok (.ifCond .eq 16, 3) := by decide +kernel
theorem dX0_payBack_27 : decode cX0_payBack 27 = .ok (.aload_n 0, 1) := by decide +kernel
theorem dX0_payBack_28 : decode cX0_payBack 28 = .ok (.aload_n 0, 1) := by decide +kernel
theorem dX0_payBack_29 : decode cX0_payBack 29 = .ok (.getfield 38, 3) := by decide +kernel
theorem dX0_payBack_32 : decode cX0_payBack 32 = .ok (.iload_n 1, 1) := by decide +kernel
theorem dX0_payBack_33 : decode cX0_payBack 33 = .ok (.iaload, 1) := by decide +kernel
theorem dX0_payBack_34 : decode cX0_payBack 34 = .ok (.invokevirtual 140, 3) := by decide +kernel
theorem dX0_payBack_37 : decode cX0_payBack 37 = .ok (.ifCond .eq 13, 3) := by decide +kernel
theorem dX0_payBack_40 : decode cX0_payBack 40 = .ok (.new 93, 3) := by decide +kernel
theorem dX0_payBack_43 : decode cX0_payBack 43 = .ok (.dup, 1) := by decide +kernel
theorem dX0_payBack_44 : decode cX0_payBack 44 = .ok (.ldc 143, 2) := by decide +kernel
theorem dX0_payBack_46 : decode cX0_payBack 46 = .ok (.invokespecial 97, 3) := by decide +kernel
theorem dX0_payBack_49 : decode cX0_payBack 49 = .ok (.athrow, 1) := by decide +kernel
theorem dX0_payBack_50 : decode cX0_payBack 50 = .ok (.aload_n 0, 1) := by decide +kernel
theorem dX0_payBack_51 : decode cX0_payBack 51 = .ok (.iload_n 1, 1) := by decide +kernel
theorem dX0_payBack_52 : decode cX0_payBack 52 = .ok (.invokevirtual 145, 3) := by decide +kernel
theorem dX0_payBack_55 : decode cX0_payBack 55 = .ok (.aload_n 0, 1) := by decide +kernel
theorem dX0_payBack_56 : decode cX0_payBack 56 = .ok (.getfield 41, 3) := by decide +kernel
theorem dX0_payBack_59 : decode cX0_payBack 59 = .ok (.iload_n 1, 1) := by decide +kernel
theorem dX0_payBack_60 : decode cX0_payBack 60 = .ok (.iaload, 1) := by decide +kernel
theorem dX0_payBack_61 : decode cX0_payBack 61 = .ok (.ireturn, 1) := by decide +kernel
set_option maxRecDepth 20000 in
theorem ggX0_advance_X0_passTick : GoodIn wsX0_advance wsX0_passTick := goodIn_r _ [11, 5, 12, 13, 14, 10, 15, 16, 17, 18, 19, 20, 21, 22, 23, 24, 25, 26, 27, 28, 29, 30, 31, 32, 33, 34, 35, 36, 37, 38, 39, 40, 41, 42, 43, 44, 45, 46, 47, 48, 49, 50, 51, 52, 53, 54, 55, 56, 57, 58, 59, 60, 61, 62, 63, 64, 65, 66, 67, 68, 69, 70, 71, 72, 73, 74, 75, 76, 77, 78, 79, 80, 81, 82, 83, 84, 85, 86, 87, 88, 89, 90, 91, 92, 93, 94, 95, 96, 97, 98, 99, 100, 101, 102, 103, 104, 105, 106, 107, 108, 109] (by decide +kernel) (by decide +kernel)
set_option maxRecDepth 20000 in
theorem gX0_advance_X0_passTick : GoodIn wsX0_advance (wsV RX0 153 RX0 yX0_passTick wsX0_passTick) := goodIn_app (goodIn_of _ (by decide +kernel)) ggX0_advance_X0_passTick
theorem dX0_advance_0 : decode cX0_advance 0 = .ok (.iload_n 1, 1) := by decide +kernel
theorem dX0_advance_1 : decode cX0_advance 1 = .ok (.iconst 1, 1) := by decide +kernel
theorem dX0_advance_2 : decode cX0_advance 2 = .ok (.if_icmp .lt 10, 3) := by decide +kernel
theorem dX0_advance_5 : decode cX0_advance 5 = .ok (.iload_n 1, 1) := by decide +kernel
theorem dX0_advance_6 : decode cX0_advance 6 = .ok (.sipush 200, 3) := by decide +kernel
theorem dX0_advance_9 : decode cX0_advance 9 = .ok (.if_icmp .le 13, 3) := by decide +kernel
theorem dX0_advance_12 : decode cX0_advance 12 = .ok (.new 86, 3) := by decide +kernel
theorem dX0_advance_15 : decode cX0_advance 15 = .ok (.dup, 1) := by decide +kernel
theorem dX0_advance_16 : decode cX0_advance 16 = .ok (.ldc 148, 2) := by decide +kernel
theorem dX0_advance_18 : decode cX0_advance 18 = .ok (.invokespecial 90, 3) := by decide +kernel
theorem dX0_advance_21 : decode cX0_advance 21 = .ok (.athrow, 1) := by decide +kernel
theorem dX0_advance_22 : decode cX0_advance 22 = .ok (.aload_n 0, 1) := by decide +kernel
theorem dX0_advance_23 : decode cX0_advance 23 = .ok (.getfield 60, 3) := by decide +kernel
theorem dX0_advance_26 : decode cX0_advance 26 = .ok (.ldc 150, 2) := by decide +kernel
theorem dX0_advance_28 : decode cX0_advance 28 = .ok (.iload_n 1, 1) := by decide +kernel
theorem dX0_advance_29 : decode cX0_advance 29 = .ok (.isub, 1) := by decide +kernel
theorem dX0_advance_30 : decode cX0_advance 30 = .ok (.if_icmp .le 13, 3) := by decide +kernel
theorem dX0_advance_33 : decode cX0_advance 33 = .ok (.new 93, 3) := by decide +kernel
theorem dX0_advance_36 : decode cX0_advance 36 = .ok (.dup, 1) := by decide +kernel
theorem dX0_advance_37 : decode cX0_advance 37 = .ok (.ldc 151, 2) := by decide +kernel
theorem dX0_advance_39 : decode cX0_advance 39 = .ok (.invokespecial 97, 3) := by decide +kernel
theorem dX0_advance_42 : decode cX0_advance 42 = .ok (.athrow, 1) := by decide +kernel
theorem dX0_advance_43 : decode cX0_advance 43 = .ok (.iconst 0, 1) := by decide +kernel
theorem dX0_advance_44 : decode cX0_advance 44 = .ok (.istore_n 2, 1) := by decide +kernel
theorem dX0_advance_45 : decode cX0_advance 45 = .ok (.iload_n 2, 1) := by decide +kernel
theorem dX0_advance_46 : decode cX0_advance 46 = .ok (.iload_n 1, 1) := by decide +kernel
theorem dX0_advance_47 : decode cX0_advance 47 = .ok (.if_icmp .ge 13, 3) := by decide +kernel
theorem dX0_advance_50 : decode cX0_advance 50 = .ok (.aload_n 0, 1) := by decide +kernel
theorem dX0_advance_51 : decode cX0_advance 51 = .ok (.invokevirtual 153, 3) := by decide +kernel
theorem dX0_advance_54 : decode cX0_advance 54 = .ok (.iinc 2 1, 3) := by decide +kernel
theorem dX0_advance_57 : decode cX0_advance 57 = .ok (.goto (-12), 3) := by decide +kernel
theorem dX0_advance_60 : decode cX0_advance 60 = .ok (.aload_n 0, 1) := by decide +kernel
theorem dX0_advance_61 : decode cX0_advance 61 = .ok (.getfield 60, 3) := by decide +kernel
theorem dX0_advance_64 : decode cX0_advance 64 = .ok (.ireturn, 1) := by decide +kernel
theorem dX0_tick_0 : decode cX0_tick 0 = .ok (.aload_n 0, 1) := by decide +kernel
theorem dX0_tick_1 : decode cX0_tick 1 = .ok (.getfield 60, 3) := by decide +kernel
theorem dX0_tick_4 : decode cX0_tick 4 = .ok (.ireturn, 1) := by decide +kernel
set_option maxRecDepth 20000 in
theorem ggX0_owner_X0_isFrame : GoodIn wsX0_owner wsX0_isFrame := goodIn_r _ [7] (by decide +kernel) (by decide +kernel)
set_option maxRecDepth 20000 in
theorem gX0_owner_X0_isFrame : GoodIn wsX0_owner (va_wsS RX0 102 yX0_isFrame wsX0_isFrame) := goodIn_app (goodIn_of _ (by decide +kernel)) ggX0_owner_X0_isFrame
theorem dX0_owner_0 : decode cX0_owner 0 = .ok (.iload_n 1, 1) := by decide +kernel
theorem dX0_owner_1 : decode cX0_owner 1 = .ok (.invokestatic 102, 3) := by decide +kernel
theorem dX0_owner_4 : decode cX0_owner 4 = .ok (.ifCond .ne 13, 3) := by decide +kernel
theorem dX0_owner_7 : decode cX0_owner 7 = .ok (.new 79, 3) := by decide +kernel
theorem dX0_owner_10 : decode cX0_owner 10 = .ok (.dup, 1) := by decide +kernel
theorem dX0_owner_11 : decode cX0_owner 11 = .ok (.ldc 107, 2) := by decide +kernel
theorem dX0_owner_13 : decode cX0_owner 13 = .ok (.invokespecial 83, 3) := by decide +kernel
theorem dX0_owner_16 : decode cX0_owner 16 = .ok (.athrow, 1) := by decide +kernel
theorem dX0_owner_17 : decode cX0_owner 17 = .ok (.aload_n 0, 1) := by decide +kernel
theorem dX0_owner_18 : decode cX0_owner 18 = .ok (.getfield 22, 3) := by decide +kernel
theorem dX0_owner_21 : decode cX0_owner 21 = .ok (.iload_n 1, 1) := by decide +kernel
theorem dX0_owner_22 : decode cX0_owner 22 = .ok (.iaload, 1) := by decide +kernel
theorem dX0_owner_23 : decode cX0_owner 23 = .ok (.ireturn, 1) := by decide +kernel
set_option maxRecDepth 20000 in
theorem ggX0_holder_X0_isFrame : GoodIn wsX0_holder wsX0_isFrame := goodIn_r _ [7] (by decide +kernel) (by decide +kernel)
set_option maxRecDepth 20000 in
theorem gX0_holder_X0_isFrame : GoodIn wsX0_holder (va_wsS RX0 102 yX0_isFrame wsX0_isFrame) := goodIn_app (goodIn_of _ (by decide +kernel)) ggX0_holder_X0_isFrame
theorem dX0_holder_0 : decode cX0_holder 0 = .ok (.iload_n 1, 1) := by decide +kernel
theorem dX0_holder_1 : decode cX0_holder 1 = .ok (.invokestatic 102, 3) := by decide +kernel
theorem dX0_holder_4 : decode cX0_holder 4 = .ok (.ifCond .ne 13, 3) := by decide +kernel
theorem dX0_holder_7 : decode cX0_holder 7 = .ok (.new 79, 3) := by decide +kernel
theorem dX0_holder_10 : decode cX0_holder 10 = .ok (.dup, 1) := by decide +kernel
theorem dX0_holder_11 : decode cX0_holder 11 = .ok (.ldc 107, 2) := by decide +kernel
theorem dX0_holder_13 : decode cX0_holder 13 = .ok (.invokespecial 83, 3) := by decide +kernel
theorem dX0_holder_16 : decode cX0_holder 16 = .ok (.athrow, 1) := by decide +kernel
theorem dX0_holder_17 : decode cX0_holder 17 = .ok (.aload_n 0, 1) := by decide +kernel
theorem dX0_holder_18 : decode cX0_holder 18 = .ok (.getfield 25, 3) := by decide +kernel
theorem dX0_holder_21 : decode cX0_holder 21 = .ok (.iload_n 1, 1) := by decide +kernel
theorem dX0_holder_22 : decode cX0_holder 22 = .ok (.iaload, 1) := by decide +kernel
theorem dX0_holder_23 : decode cX0_holder 23 = .ok (.ireturn, 1) := by decide +kernel
set_option maxRecDepth 20000 in
theorem ggX0_holderByLog_X0_isFrame : GoodIn wsX0_holderByLog wsX0_isFrame := goodIn_r _ [11] (by decide +kernel) (by decide +kernel)
set_option maxRecDepth 20000 in
theorem gX0_holderByLog_X0_isFrame : GoodIn wsX0_holderByLog (va_wsS RX0 102 yX0_isFrame wsX0_isFrame) := goodIn_app (goodIn_of _ (by decide +kernel)) ggX0_holderByLog_X0_isFrame
theorem dX0_holderByLog_0 : decode cX0_holderByLog 0 = .ok (.iload_n 1, 1) := by decide +kernel
theorem dX0_holderByLog_1 : decode cX0_holderByLog 1 = .ok (.invokestatic 102, 3) := by decide +kernel
theorem dX0_holderByLog_4 : decode cX0_holderByLog 4 = .ok (.ifCond .ne 13, 3) := by decide +kernel
theorem dX0_holderByLog_7 : decode cX0_holderByLog 7 = .ok (.new 79, 3) := by decide +kernel
theorem dX0_holderByLog_10 : decode cX0_holderByLog 10 = .ok (.dup, 1) := by decide +kernel
theorem dX0_holderByLog_11 : decode cX0_holderByLog 11 = .ok (.ldc 107, 2) := by decide +kernel
theorem dX0_holderByLog_13 : decode cX0_holderByLog 13 = .ok (.invokespecial 83, 3) := by decide +kernel
theorem dX0_holderByLog_16 : decode cX0_holderByLog 16 = .ok (.athrow, 1) := by decide +kernel
theorem dX0_holderByLog_17 : decode cX0_holderByLog 17 = .ok (.iconst 0, 1) := by decide +kernel
theorem dX0_holderByLog_18 : decode cX0_holderByLog 18 = .ok (.istore_n 2, 1) := by decide +kernel
theorem dX0_holderByLog_19 : decode cX0_holderByLog 19 = .ok (.iload_n 2, 1) := by decide +kernel
theorem dX0_holderByLog_20 : decode cX0_holderByLog 20 = .ok (.bipush 60, 2) := by decide +kernel
theorem dX0_holderByLog_22 : decode cX0_holderByLog 22 = .ok (.if_icmp .ge 43, 3) := by decide +kernel
theorem dX0_holderByLog_25 : decode cX0_holderByLog 25 = .ok (.iload_n 2, 1) := by decide +kernel
theorem dX0_holderByLog_26 : decode cX0_holderByLog 26 = .ok (.aload_n 0, 1) := by decide +kernel
theorem dX0_holderByLog_27 : decode cX0_holderByLog 27 = .ok (.getfield 53, 3) := by decide +kernel
theorem dX0_holderByLog_30 : decode cX0_holderByLog 30 = .ok (.if_icmp .ge 35, 3) := by decide +kernel
theorem dX0_holderByLog_33 : decode cX0_holderByLog 33 = .ok (.aload_n 0, 1) := by decide +kernel
theorem dX0_holderByLog_34 : decode cX0_holderByLog 34 = .ok (.getfield 47, 3) := by decide +kernel
theorem dX0_holderByLog_37 : decode cX0_holderByLog 37 = .ok (.iload_n 2, 1) := by decide +kernel
theorem dX0_holderByLog_38 : decode cX0_holderByLog 38 = .ok (.baload, 1) := by decide +kernel
theorem dX0_holderByLog_39 : decode cX0_holderByLog 39 = .ok (.ifCond .eq 20, 3) := by decide +kernel
theorem dX0_holderByLog_42 : decode cX0_holderByLog 42 = .ok (.aload_n 0, 1) := by decide +kernel
theorem dX0_holderByLog_43 : decode cX0_holderByLog 43 = .ok (.getfield 38, 3) := by decide +kernel
theorem dX0_holderByLog_46 : decode cX0_holderByLog 46 = .ok (.iload_n 2, 1) := by decide +kernel
theorem dX0_holderByLog_47 : decode cX0_holderByLog 47 = .ok (.iaload, 1) := by decide +kernel
theorem dX0_holderByLog_48 : decode cX0_holderByLog 48 = .ok (.iload_n 1, 1) := by decide +kernel
theorem dX0_holderByLog_49 : decode cX0_holderByLog 49 = .ok (.if_icmp .ne 10, 3) := by decide +kernel
theorem dX0_holderByLog_52 : decode cX0_holderByLog 52 = .ok (.aload_n 0, 1) := by decide +kernel
theorem dX0_holderByLog_53 : decode cX0_holderByLog 53 = .ok (.getfield 44, 3) := by decide +kernel
theorem dX0_holderByLog_56 : decode cX0_holderByLog 56 = .ok (.iload_n 2, 1) := by decide +kernel
theorem dX0_holderByLog_57 : decode cX0_holderByLog 57 = .ok (.iaload, 1) := by decide +kernel
theorem dX0_holderByLog_58 : decode cX0_holderByLog 58 = .ok (.ireturn, 1) := by decide +kernel
theorem dX0_holderByLog_59 : decode cX0_holderByLog 59 = .ok (.iinc 2 1, 3) := by decide +kernel
theorem dX0_holderByLog_62 : decode cX0_holderByLog 62 = .ok (.goto (-43), 3) := by decide +kernel
theorem dX0_holderByLog_65 : decode cX0_holderByLog 65 = .ok (.aload_n 0, 1) := by decide +kernel
theorem dX0_holderByLog_66 : decode cX0_holderByLog 66 = .ok (.getfield 22, 3) := by decide +kernel
theorem dX0_holderByLog_69 : decode cX0_holderByLog 69 = .ok (.iload_n 1, 1) := by decide +kernel
theorem dX0_holderByLog_70 : decode cX0_holderByLog 70 = .ok (.iaload, 1) := by decide +kernel
theorem dX0_holderByLog_71 : decode cX0_holderByLog 71 = .ok (.ireturn, 1) := by decide +kernel
set_option maxRecDepth 20000 in
theorem ggX0_pageIn_X0_isFrame : GoodIn wsX0_pageIn wsX0_isFrame := goodIn_r _ [7] (by decide +kernel) (by decide +kernel)
set_option maxRecDepth 20000 in
theorem gX0_pageIn_X0_isFrame : GoodIn wsX0_pageIn (va_wsS RX0 102 yX0_isFrame wsX0_isFrame) := goodIn_app (goodIn_of _ (by decide +kernel)) ggX0_pageIn_X0_isFrame
theorem dX0_pageIn_0 : decode cX0_pageIn 0 = .ok (.iload_n 1, 1) := by decide +kernel
theorem dX0_pageIn_1 : decode cX0_pageIn 1 = .ok (.invokestatic 102, 3) := by decide +kernel
theorem dX0_pageIn_4 : decode cX0_pageIn 4 = .ok (.ifCond .ne 13, 3) := by decide +kernel
theorem dX0_pageIn_7 : decode cX0_pageIn 7 = .ok (.new 79, 3) := by decide +kernel
theorem dX0_pageIn_10 : decode cX0_pageIn 10 = .ok (.dup, 1) := by decide +kernel
theorem dX0_pageIn_11 : decode cX0_pageIn 11 = .ok (.ldc 107, 2) := by decide +kernel
theorem dX0_pageIn_13 : decode cX0_pageIn 13 = .ok (.invokespecial 83, 3) := by decide +kernel
theorem dX0_pageIn_16 : decode cX0_pageIn 16 = .ok (.athrow, 1) := by decide +kernel
theorem dX0_pageIn_17 : decode cX0_pageIn 17 = .ok (.aload_n 0, 1) := by decide +kernel
theorem dX0_pageIn_18 : decode cX0_pageIn 18 = .ok (.getfield 28, 3) := by decide +kernel
theorem dX0_pageIn_21 : decode cX0_pageIn 21 = .ok (.iload_n 1, 1) := by decide +kernel
theorem dX0_pageIn_22 : decode cX0_pageIn 22 = .ok (.iaload, 1) := by decide +kernel
theorem dX0_pageIn_23 : decode cX0_pageIn 23 = .ok (.ireturn, 1) := by decide +kernel
set_option maxRecDepth 20000 in
theorem ggX0_age_X0_isFrame : GoodIn wsX0_age wsX0_isFrame := goodIn_r _ [6] (by decide +kernel) (by decide +kernel)
set_option maxRecDepth 20000 in
theorem gX0_age_X0_isFrame : GoodIn wsX0_age (va_wsS RX0 102 yX0_isFrame wsX0_isFrame) := goodIn_app (goodIn_of _ (by decide +kernel)) ggX0_age_X0_isFrame
set_option maxRecDepth 20000 in
theorem ggX0_age_X0_ageOf : GoodIn wsX0_age wsX0_ageOf := goodIn_r _ [10, 11, 12, 13, 14, 15, 16, 17, 18, 19, 20, 21, 22, 23, 24, 25, 26, 27, 28, 29, 30, 31, 32] (by decide +kernel) (by decide +kernel)
set_option maxRecDepth 20000 in
theorem gX0_age_X0_ageOf : GoodIn wsX0_age (wsV RX0 156 RX0 yX0_ageOf wsX0_ageOf) := goodIn_app (goodIn_of _ (by decide +kernel)) ggX0_age_X0_ageOf
theorem dX0_age_0 : decode cX0_age 0 = .ok (.iload_n 1, 1) := by decide +kernel
theorem dX0_age_1 : decode cX0_age 1 = .ok (.invokestatic 102, 3) := by decide +kernel
theorem dX0_age_4 : decode cX0_age 4 = .ok (.ifCond .ne 13, 3) := by decide +kernel
theorem dX0_age_7 : decode cX0_age 7 = .ok (.new 79, 3) := by decide +kernel
theorem dX0_age_10 : decode cX0_age 10 = .ok (.dup, 1) := by decide +kernel
theorem dX0_age_11 : decode cX0_age 11 = .ok (.ldc 107, 2) := by decide +kernel
theorem dX0_age_13 : decode cX0_age 13 = .ok (.invokespecial 83, 3) := by decide +kernel
theorem dX0_age_16 : decode cX0_age 16 = .ok (.athrow, 1) := by decide +kernel
theorem dX0_age_17 : decode cX0_age 17 = .ok (.aload_n 0, 1) := by decide +kernel
theorem dX0_age_18 : decode cX0_age 18 = .ok (.iload_n 1, 1) := by decide +kernel
theorem dX0_age_19 : decode cX0_age 19 = .ok (.invokevirtual 156, 3) := by decide +kernel
theorem dX0_age_22 : decode cX0_age 22 = .ok (.ireturn, 1) := by decide +kernel
theorem dX0_free_0 : decode cX0_free 0 = .ok (.iconst 0, 1) := by decide +kernel
theorem dX0_free_1 : decode cX0_free 1 = .ok (.istore_n 1, 1) := by decide +kernel
theorem dX0_free_2 : decode cX0_free 2 = .ok (.iconst 0, 1) := by decide +kernel
theorem dX0_free_3 : decode cX0_free 3 = .ok (.istore_n 2, 1) := by decide +kernel
theorem dX0_free_4 : decode cX0_free 4 = .ok (.iload_n 2, 1) := by decide +kernel
theorem dX0_free_5 : decode cX0_free 5 = .ok (.bipush 12, 2) := by decide +kernel
theorem dX0_free_7 : decode cX0_free 7 = .ok (.if_icmp .ge 22, 3) := by decide +kernel
theorem dX0_free_10 : decode cX0_free 10 = .ok (.aload_n 0, 1) := by decide +kernel
theorem dX0_free_11 : decode cX0_free 11 = .ok (.getfield 22, 3) := by decide +kernel
theorem dX0_free_14 : decode cX0_free 14 = .ok (.iload_n 2, 1) := by decide +kernel
theorem dX0_free_15 : decode cX0_free 15 = .ok (.iaload, 1) := by decide +kernel
theorem dX0_free_16 : decode cX0_free 16 = .ok (.iconst (-1), 1) := by decide +kernel
theorem dX0_free_17 : decode cX0_free 17 = .ok (.if_icmp .ne 6, 3) := by decide +kernel
theorem dX0_free_20 : decode cX0_free 20 = .ok (.iinc 1 1, 3) := by decide +kernel
theorem dX0_free_23 : decode cX0_free 23 = .ok (.iinc 2 1, 3) := by decide +kernel
theorem dX0_free_26 : decode cX0_free 26 = .ok (.goto (-22), 3) := by decide +kernel
theorem dX0_free_29 : decode cX0_free 29 = .ok (.iload_n 1, 1) := by decide +kernel
theorem dX0_free_30 : decode cX0_free 30 = .ok (.ireturn, 1) := by decide +kernel
set_option maxRecDepth 20000 in
theorem ggX0_owns_X0_isProcess : GoodIn wsX0_owns wsX0_isProcess := goodIn_r _ [7] (by decide +kernel) (by decide +kernel)
set_option maxRecDepth 20000 in
theorem gX0_owns_X0_isProcess : GoodIn wsX0_owns (va_wsS RX0 75 yX0_isProcess wsX0_isProcess) := goodIn_app (goodIn_of _ (by decide +kernel)) ggX0_owns_X0_isProcess
theorem dX0_owns_0 : decode cX0_owns 0 = .ok (.iload_n 1, 1) := by decide +kernel
theorem dX0_owns_1 : decode cX0_owns 1 = .ok (.invokestatic 75, 3) := by decide +kernel
theorem dX0_owns_4 : decode cX0_owns 4 = .ok (.ifCond .ne 13, 3) := by decide +kernel
theorem dX0_owns_7 : decode cX0_owns 7 = .ok (.new 79, 3) := by decide +kernel
theorem dX0_owns_10 : decode cX0_owns 10 = .ok (.dup, 1) := by decide +kernel
theorem dX0_owns_11 : decode cX0_owns 11 = .ok (.ldc 81, 2) := by decide +kernel
theorem dX0_owns_13 : decode cX0_owns 13 = .ok (.invokespecial 83, 3) := by decide +kernel
theorem dX0_owns_16 : decode cX0_owns 16 = .ok (.athrow, 1) := by decide +kernel
theorem dX0_owns_17 : decode cX0_owns 17 = .ok (.iconst 0, 1) := by decide +kernel
theorem dX0_owns_18 : decode cX0_owns 18 = .ok (.istore_n 2, 1) := by decide +kernel
theorem dX0_owns_19 : decode cX0_owns 19 = .ok (.iconst 0, 1) := by decide +kernel
theorem dX0_owns_20 : decode cX0_owns 20 = .ok (.istore_n 3, 1) := by decide +kernel
theorem dX0_owns_21 : decode cX0_owns 21 = .ok (.iload_n 3, 1) := by decide +kernel
theorem dX0_owns_22 : decode cX0_owns 22 = .ok (.bipush 12, 2) := by decide +kernel
theorem dX0_owns_24 : decode cX0_owns 24 = .ok (.if_icmp .ge 22, 3) := by decide +kernel
theorem dX0_owns_27 : decode cX0_owns 27 = .ok (.aload_n 0, 1) := by decide +kernel
theorem dX0_owns_28 : decode cX0_owns 28 = .ok (.getfield 22, 3) := by decide +kernel
theorem dX0_owns_31 : decode cX0_owns 31 = .ok (.iload_n 3, 1) := by decide +kernel
theorem dX0_owns_32 : decode cX0_owns 32 = .ok (.iaload, 1) := by decide +kernel
theorem dX0_owns_33 : decode cX0_owns 33 = .ok (.iload_n 1, 1) := by decide +kernel
theorem dX0_owns_34 : decode cX0_owns 34 = .ok (.if_icmp .ne 6, 3) := by decide +kernel
theorem dX0_owns_37 : decode cX0_owns 37 = .ok (.iinc 2 1, 3) := by decide +kernel
theorem dX0_owns_40 : decode cX0_owns 40 = .ok (.iinc 3 1, 3) := by decide +kernel
theorem dX0_owns_43 : decode cX0_owns 43 = .ok (.goto (-22), 3) := by decide +kernel
theorem dX0_owns_46 : decode cX0_owns 46 = .ok (.iload_n 2, 1) := by decide +kernel
theorem dX0_owns_47 : decode cX0_owns 47 = .ok (.ireturn, 1) := by decide +kernel
set_option maxRecDepth 20000 in
theorem ggX0_borrowed_X0_isProcess : GoodIn wsX0_borrowed wsX0_isProcess := goodIn_r _ [6] (by decide +kernel) (by decide +kernel)
set_option maxRecDepth 20000 in
theorem gX0_borrowed_X0_isProcess : GoodIn wsX0_borrowed (va_wsS RX0 75 yX0_isProcess wsX0_isProcess) := goodIn_app (goodIn_of _ (by decide +kernel)) ggX0_borrowed_X0_isProcess
set_option maxRecDepth 20000 in
theorem ggX0_borrowed_X0_countBorrowed : GoodIn wsX0_borrowed wsX0_countBorrowed := goodIn_r _ [10, 11, 12, 13, 14, 15, 16, 17, 18, 19, 20, 21, 22, 23, 24, 25, 26, 27, 28, 29, 30, 31] (by decide +kernel) (by decide +kernel)
set_option maxRecDepth 20000 in
theorem gX0_borrowed_X0_countBorrowed : GoodIn wsX0_borrowed (wsV RX0 159 RX0 yX0_countBorrowed wsX0_countBorrowed) := goodIn_app (goodIn_of _ (by decide +kernel)) ggX0_borrowed_X0_countBorrowed
theorem dX0_borrowed_0 : decode cX0_borrowed 0 = .ok (.iload_n 1, 1) := by decide +kernel
theorem dX0_borrowed_1 : decode cX0_borrowed 1 = .ok (.invokestatic 75, 3) := by decide +kernel
theorem dX0_borrowed_4 : decode cX0_borrowed 4 = .ok (.ifCond .ne 13, 3) := by decide +kernel
theorem dX0_borrowed_7 : decode cX0_borrowed 7 = .ok (.new 79, 3) := by decide +kernel
theorem dX0_borrowed_10 : decode cX0_borrowed 10 = .ok (.dup, 1) := by decide +kernel
theorem dX0_borrowed_11 : decode cX0_borrowed 11 = .ok (.ldc 81, 2) := by decide +kernel
theorem dX0_borrowed_13 : decode cX0_borrowed 13 = .ok (.invokespecial 83, 3) := by decide +kernel
theorem dX0_borrowed_16 : decode cX0_borrowed 16 = .ok (.athrow, 1) := by decide +kernel
theorem dX0_borrowed_17 : decode cX0_borrowed 17 = .ok (.aload_n 0, 1) := by decide +kernel
theorem dX0_borrowed_18 : decode cX0_borrowed 18 = .ok (.iload_n 1, 1) := by decide +kernel
theorem dX0_borrowed_19 : decode cX0_borrowed 19 = .ok (.invokevirtual 159, 3) := by decide +kernel
theorem dX0_borrowed_22 : decode cX0_borrowed 22 = .ok (.ireturn, 1) := by decide +kernel
set_option maxRecDepth 20000 in
theorem ggX0_lent_X0_isProcess : GoodIn wsX0_lent wsX0_isProcess := goodIn_r _ [8] (by decide +kernel) (by decide +kernel)
set_option maxRecDepth 20000 in
theorem gX0_lent_X0_isProcess : GoodIn wsX0_lent (va_wsS RX0 75 yX0_isProcess wsX0_isProcess) := goodIn_app (goodIn_of _ (by decide +kernel)) ggX0_lent_X0_isProcess
theorem dX0_lent_0 : decode cX0_lent 0 = .ok (.iload_n 1, 1) := by decide +kernel
theorem dX0_lent_1 : decode cX0_lent 1 = .ok (.invokestatic 75, 3) := by decide +kernel
theorem dX0_lent_4 : decode cX0_lent 4 = .ok (.ifCond .ne 13, 3) := by decide +kernel
theorem dX0_lent_7 : decode cX0_lent 7 = .ok (.new 79, 3) := by decide +kernel
theorem dX0_lent_10 : decode cX0_lent 10 = .ok (.dup, 1) := by decide +kernel
theorem dX0_lent_11 : decode cX0_lent 11 = .ok (.ldc 81, 2) := by decide +kernel
theorem dX0_lent_13 : decode cX0_lent 13 = .ok (.invokespecial 83, 3) := by decide +kernel
theorem dX0_lent_16 : decode cX0_lent 16 = .ok (.athrow, 1) := by decide +kernel
theorem dX0_lent_17 : decode cX0_lent 17 = .ok (.iconst 0, 1) := by decide +kernel
theorem dX0_lent_18 : decode cX0_lent 18 = .ok (.istore_n 2, 1) := by decide +kernel
theorem dX0_lent_19 : decode cX0_lent 19 = .ok (.iconst 0, 1) := by decide +kernel
theorem dX0_lent_20 : decode cX0_lent 20 = .ok (.istore_n 3, 1) := by decide +kernel
theorem dX0_lent_21 : decode cX0_lent 21 = .ok (.iload_n 3, 1) := by decide +kernel
theorem dX0_lent_22 : decode cX0_lent 22 = .ok (.bipush 12, 2) := by decide +kernel
theorem dX0_lent_24 : decode cX0_lent 24 = .ok (.if_icmp .ge 32, 3) := by decide +kernel
theorem dX0_lent_27 : decode cX0_lent 27 = .ok (.aload_n 0, 1) := by decide +kernel
theorem dX0_lent_28 : decode cX0_lent 28 = .ok (.getfield 22, 3) := by decide +kernel
theorem dX0_lent_31 : decode cX0_lent 31 = .ok (.iload_n 3, 1) := by decide +kernel
theorem dX0_lent_32 : decode cX0_lent 32 = .ok (.iaload, 1) := by decide +kernel
theorem dX0_lent_33 : decode cX0_lent 33 = .ok (.iload_n 1, 1) := by decide +kernel
theorem dX0_lent_34 : decode cX0_lent 34 = .ok (.if_icmp .ne 16, 3) := by decide +kernel
theorem dX0_lent_37 : decode cX0_lent 37 = .ok (.aload_n 0, 1) := by decide +kernel
theorem dX0_lent_38 : decode cX0_lent 38 = .ok (.getfield 25, 3) := by decide +kernel
theorem dX0_lent_41 : decode cX0_lent 41 = .ok (.iload_n 3, 1) := by decide +kernel
theorem dX0_lent_42 : decode cX0_lent 42 = .ok (.iaload, 1) := by decide +kernel
theorem dX0_lent_43 : decode cX0_lent 43 = .ok (.iload_n 1, 1) := by decide +kernel
theorem dX0_lent_44 : decode cX0_lent 44 = .ok (.if_icmp .eq 6, 3) := by decide +kernel
theorem dX0_lent_47 : decode cX0_lent 47 = .ok (.iinc 2 1, 3) := by decide +kernel
theorem dX0_lent_50 : decode cX0_lent 50 = .ok (.iinc 3 1, 3) := by decide +kernel
theorem dX0_lent_53 : decode cX0_lent 53 = .ok (.goto (-32), 3) := by decide +kernel
theorem dX0_lent_56 : decode cX0_lent 56 = .ok (.iload_n 2, 1) := by decide +kernel
theorem dX0_lent_57 : decode cX0_lent 57 = .ok (.ireturn, 1) := by decide +kernel
set_option maxRecDepth 20000 in
theorem ggX0_stateOf_X0_isProcess : GoodIn wsX0_stateOf wsX0_isProcess := goodIn_r _ [7] (by decide +kernel) (by decide +kernel)
set_option maxRecDepth 20000 in
theorem gX0_stateOf_X0_isProcess : GoodIn wsX0_stateOf (va_wsS RX0 75 yX0_isProcess wsX0_isProcess) := goodIn_app (goodIn_of _ (by decide +kernel)) ggX0_stateOf_X0_isProcess
theorem dX0_stateOf_0 : decode cX0_stateOf 0 = .ok (.iload_n 1, 1) := by decide +kernel
theorem dX0_stateOf_1 : decode cX0_stateOf 1 = .ok (.invokestatic 75, 3) := by decide +kernel
theorem dX0_stateOf_4 : decode cX0_stateOf 4 = .ok (.ifCond .ne 13, 3) := by decide +kernel
theorem dX0_stateOf_7 : decode cX0_stateOf 7 = .ok (.new 79, 3) := by decide +kernel
theorem dX0_stateOf_10 : decode cX0_stateOf 10 = .ok (.dup, 1) := by decide +kernel
theorem dX0_stateOf_11 : decode cX0_stateOf 11 = .ok (.ldc 81, 2) := by decide +kernel
theorem dX0_stateOf_13 : decode cX0_stateOf 13 = .ok (.invokespecial 83, 3) := by decide +kernel
theorem dX0_stateOf_16 : decode cX0_stateOf 16 = .ok (.athrow, 1) := by decide +kernel
theorem dX0_stateOf_17 : decode cX0_stateOf 17 = .ok (.aload_n 0, 1) := by decide +kernel
theorem dX0_stateOf_18 : decode cX0_stateOf 18 = .ok (.getfield 16, 3) := by decide +kernel
theorem dX0_stateOf_21 : decode cX0_stateOf 21 = .ok (.iload_n 1, 1) := by decide +kernel
theorem dX0_stateOf_22 : decode cX0_stateOf 22 = .ok (.iaload, 1) := by decide +kernel
theorem dX0_stateOf_23 : decode cX0_stateOf 23 = .ok (.ireturn, 1) := by decide +kernel
set_option maxRecDepth 20000 in
theorem ggX0_purse_X0_isProcess : GoodIn wsX0_purse wsX0_isProcess := goodIn_r _ [7] (by decide +kernel) (by decide +kernel)
set_option maxRecDepth 20000 in
theorem gX0_purse_X0_isProcess : GoodIn wsX0_purse (va_wsS RX0 75 yX0_isProcess wsX0_isProcess) := goodIn_app (goodIn_of _ (by decide +kernel)) ggX0_purse_X0_isProcess
theorem dX0_purse_0 : decode cX0_purse 0 = .ok (.iload_n 1, 1) := by decide +kernel
theorem dX0_purse_1 : decode cX0_purse 1 = .ok (.invokestatic 75, 3) := by decide +kernel
theorem dX0_purse_4 : decode cX0_purse 4 = .ok (.ifCond .ne 13, 3) := by decide +kernel
theorem dX0_purse_7 : decode cX0_purse 7 = .ok (.new 79, 3) := by decide +kernel
theorem dX0_purse_10 : decode cX0_purse 10 = .ok (.dup, 1) := by decide +kernel
theorem dX0_purse_11 : decode cX0_purse 11 = .ok (.ldc 81, 2) := by decide +kernel
theorem dX0_purse_13 : decode cX0_purse 13 = .ok (.invokespecial 83, 3) := by decide +kernel
theorem dX0_purse_16 : decode cX0_purse 16 = .ok (.athrow, 1) := by decide +kernel
theorem dX0_purse_17 : decode cX0_purse 17 = .ok (.aload_n 0, 1) := by decide +kernel
theorem dX0_purse_18 : decode cX0_purse 18 = .ok (.getfield 13, 3) := by decide +kernel
theorem dX0_purse_21 : decode cX0_purse 21 = .ok (.iload_n 1, 1) := by decide +kernel
theorem dX0_purse_22 : decode cX0_purse 22 = .ok (.iaload, 1) := by decide +kernel
theorem dX0_purse_23 : decode cX0_purse 23 = .ok (.ireturn, 1) := by decide +kernel
set_option maxRecDepth 20000 in
theorem ggX0_faults_X0_isProcess : GoodIn wsX0_faults wsX0_isProcess := goodIn_r _ [7] (by decide +kernel) (by decide +kernel)
set_option maxRecDepth 20000 in
theorem gX0_faults_X0_isProcess : GoodIn wsX0_faults (va_wsS RX0 75 yX0_isProcess wsX0_isProcess) := goodIn_app (goodIn_of _ (by decide +kernel)) ggX0_faults_X0_isProcess
theorem dX0_faults_0 : decode cX0_faults 0 = .ok (.iload_n 1, 1) := by decide +kernel
theorem dX0_faults_1 : decode cX0_faults 1 = .ok (.invokestatic 75, 3) := by decide +kernel
theorem dX0_faults_4 : decode cX0_faults 4 = .ok (.ifCond .ne 13, 3) := by decide +kernel
theorem dX0_faults_7 : decode cX0_faults 7 = .ok (.new 79, 3) := by decide +kernel
theorem dX0_faults_10 : decode cX0_faults 10 = .ok (.dup, 1) := by decide +kernel
theorem dX0_faults_11 : decode cX0_faults 11 = .ok (.ldc 81, 2) := by decide +kernel
theorem dX0_faults_13 : decode cX0_faults 13 = .ok (.invokespecial 83, 3) := by decide +kernel
theorem dX0_faults_16 : decode cX0_faults 16 = .ok (.athrow, 1) := by decide +kernel
theorem dX0_faults_17 : decode cX0_faults 17 = .ok (.aload_n 0, 1) := by decide +kernel
theorem dX0_faults_18 : decode cX0_faults 18 = .ok (.getfield 19, 3) := by decide +kernel
theorem dX0_faults_21 : decode cX0_faults 21 = .ok (.iload_n 1, 1) := by decide +kernel
theorem dX0_faults_22 : decode cX0_faults 22 = .ok (.iaload, 1) := by decide +kernel
theorem dX0_faults_23 : decode cX0_faults 23 = .ok (.ireturn, 1) := by decide +kernel
theorem dX0_loans_0 : decode cX0_loans 0 = .ok (.aload_n 0, 1) := by decide +kernel
theorem dX0_loans_1 : decode cX0_loans 1 = .ok (.getfield 53, 3) := by decide +kernel
theorem dX0_loans_4 : decode cX0_loans 4 = .ok (.ireturn, 1) := by decide +kernel
set_option maxRecDepth 20000 in
theorem ggX0_lasts_X0_isLoan : GoodIn wsX0_lasts wsX0_isLoan := goodIn_r _ [8, 9, 10, 11, 12, 13, 14, 15, 16, 17, 18, 19, 20, 21, 22, 23, 24, 25, 26, 27, 28] (by decide +kernel) (by decide +kernel)
set_option maxRecDepth 20000 in
theorem gX0_lasts_X0_isLoan : GoodIn wsX0_lasts (wsV RX0 135 RX0 yX0_isLoan wsX0_isLoan) := goodIn_app (goodIn_of _ (by decide +kernel)) ggX0_lasts_X0_isLoan
theorem dX0_lasts_0 : decode cX0_lasts 0 = .ok (.aload_n 0, 1) := by decide +kernel
theorem dX0_lasts_1 : decode cX0_lasts 1 = .ok (.iload_n 1, 1) := by decide +kernel
theorem dX0_lasts_2 : decode cX0_lasts 2 = .ok (.invokevirtual 135, 3) := by decide +kernel
theorem dX0_lasts_5 : decode cX0_lasts 5 = .ok (.ifCond .ne 13, 3) := by decide +kernel
theorem dX0_lasts_8 : decode cX0_lasts 8 = .ok (.new 79, 3) := by decide +kernel
theorem dX0_lasts_11 : decode cX0_lasts 11 = .ok (.dup, 1) := by decide +kernel
theorem dX0_lasts_12 : decode cX0_lasts 12 = .ok (.ldc 138, 2) := by decide +kernel
theorem dX0_lasts_14 : decode cX0_lasts 14 = .ok (.invokespecial 83, 3) := by decide +kernel
theorem dX0_lasts_17 : decode cX0_lasts 17 = .ok (.athrow, 1) := by decide +kernel
theorem dX0_lasts_18 : decode cX0_lasts 18 = .ok (.aload_n 0, 1) := by decide +kernel
theorem dX0_lasts_19 : decode cX0_lasts 19 = .ok (.getfield 47, 3) := by decide +kernel
theorem dX0_lasts_22 : decode cX0_lasts 22 = .ok (.iload_n 1, 1) := by decide +kernel
theorem dX0_lasts_23 : decode cX0_lasts 23 = .ok (.baload, 1) := by decide +kernel
theorem dX0_lasts_24 : decode cX0_lasts 24 = .ok (.ireturn, 1) := by decide +kernel
set_option maxRecDepth 20000 in
theorem ggX0_partiesOf_X0_isLoan : GoodIn wsX0_partiesOf wsX0_isLoan := goodIn_r _ [10, 11, 12, 13, 14, 15, 16, 17, 18, 19, 20, 21, 22, 23, 24, 25, 26, 27, 28, 29, 30] (by decide +kernel) (by decide +kernel)
set_option maxRecDepth 20000 in
theorem gX0_partiesOf_X0_isLoan : GoodIn wsX0_partiesOf (wsV RX0 135 RX0 yX0_isLoan wsX0_isLoan) := goodIn_app (goodIn_of _ (by decide +kernel)) ggX0_partiesOf_X0_isLoan
theorem dX0_partiesOf_0 : decode cX0_partiesOf 0 = .ok (.aload_n 0, 1) := by decide +kernel
theorem dX0_partiesOf_1 : decode cX0_partiesOf 1 = .ok (.iload_n 1, 1) := by decide +kernel
theorem dX0_partiesOf_2 : decode cX0_partiesOf 2 = .ok (.invokevirtual 135, 3) := by decide +kernel
theorem dX0_partiesOf_5 : decode cX0_partiesOf 5 = .ok (.ifCond .ne 13, 3) := by decide +kernel
theorem dX0_partiesOf_8 : decode cX0_partiesOf 8 = .ok (.new 79, 3) := by decide +kernel
theorem dX0_partiesOf_11 : decode cX0_partiesOf 11 = .ok (.dup, 1) := by decide +kernel
theorem dX0_partiesOf_12 : decode cX0_partiesOf 12 = .ok (.ldc 138, 2) := by decide +kernel
theorem dX0_partiesOf_14 : decode cX0_partiesOf 14 = .ok (.invokespecial 83, 3) := by decide +kernel
theorem dX0_partiesOf_17 : decode cX0_partiesOf 17 = .ok (.athrow, 1) := by decide +kernel
theorem dX0_partiesOf_18 : decode cX0_partiesOf 18 = .ok (.bipush 100, 2) := by decide +kernel
theorem dX0_partiesOf_20 : decode cX0_partiesOf 20 = .ok (.aload_n 0, 1) := by decide +kernel
theorem dX0_partiesOf_21 : decode cX0_partiesOf 21 = .ok (.getfield 38, 3) := by decide +kernel
theorem dX0_partiesOf_24 : decode cX0_partiesOf 24 = .ok (.iload_n 1, 1) := by decide +kernel
theorem dX0_partiesOf_25 : decode cX0_partiesOf 25 = .ok (.iaload, 1) := by decide +kernel
theorem dX0_partiesOf_26 : decode cX0_partiesOf 26 = .ok (.imul, 1) := by decide +kernel
theorem dX0_partiesOf_27 : decode cX0_partiesOf 27 = .ok (.bipush 10, 2) := by decide +kernel
theorem dX0_partiesOf_29 : decode cX0_partiesOf 29 = .ok (.aload_n 0, 1) := by decide +kernel
theorem dX0_partiesOf_30 : decode cX0_partiesOf 30 = .ok (.getfield 41, 3) := by decide +kernel
theorem dX0_partiesOf_33 : decode cX0_partiesOf 33 = .ok (.iload_n 1, 1) := by decide +kernel
theorem dX0_partiesOf_34 : decode cX0_partiesOf 34 = .ok (.iaload, 1) := by decide +kernel
theorem dX0_partiesOf_35 : decode cX0_partiesOf 35 = .ok (.imul, 1) := by decide +kernel
theorem dX0_partiesOf_36 : decode cX0_partiesOf 36 = .ok (.iadd, 1) := by decide +kernel
theorem dX0_partiesOf_37 : decode cX0_partiesOf 37 = .ok (.aload_n 0, 1) := by decide +kernel
theorem dX0_partiesOf_38 : decode cX0_partiesOf 38 = .ok (.getfield 44, 3) := by decide +kernel
theorem dX0_partiesOf_41 : decode cX0_partiesOf 41 = .ok (.iload_n 1, 1) := by decide +kernel
theorem dX0_partiesOf_42 : decode cX0_partiesOf 42 = .ok (.iaload, 1) := by decide +kernel
theorem dX0_partiesOf_43 : decode cX0_partiesOf 43 = .ok (.iadd, 1) := by decide +kernel
theorem dX0_partiesOf_44 : decode cX0_partiesOf 44 = .ok (.ireturn, 1) := by decide +kernel
set_option maxRecDepth 20000 in
theorem ggX0_interest_X0_isLoan : GoodIn wsX0_interest wsX0_isLoan := goodIn_r _ [8, 9, 10, 11, 12, 13, 14, 15, 16, 17, 18, 19, 20, 21, 22, 23, 24, 25, 26, 27, 28] (by decide +kernel) (by decide +kernel)
set_option maxRecDepth 20000 in
theorem gX0_interest_X0_isLoan : GoodIn wsX0_interest (wsV RX0 135 RX0 yX0_isLoan wsX0_isLoan) := goodIn_app (goodIn_of _ (by decide +kernel)) ggX0_interest_X0_isLoan
theorem dX0_interest_0 : decode cX0_interest 0 = .ok (.aload_n 0, 1) := by decide +kernel
theorem dX0_interest_1 : decode cX0_interest 1 = .ok (.iload_n 1, 1) := by decide +kernel
theorem dX0_interest_2 : decode cX0_interest 2 = .ok (.invokevirtual 135, 3) := by decide +kernel
theorem dX0_interest_5 : decode cX0_interest 5 = .ok (.ifCond .ne 13, 3) := by decide +kernel
theorem dX0_interest_8 : decode cX0_interest 8 = .ok (.new 79, 3) := by decide +kernel
theorem dX0_interest_11 : decode cX0_interest 11 = .ok (.dup, 1) := by decide +kernel
theorem dX0_interest_12 : decode cX0_interest 12 = .ok (.ldc 138, 2) := by decide +kernel
theorem dX0_interest_14 : decode cX0_interest 14 = .ok (.invokespecial 83, 3) := by decide +kernel
theorem dX0_interest_17 : decode cX0_interest 17 = .ok (.athrow, 1) := by decide +kernel
theorem dX0_interest_18 : decode cX0_interest 18 = .ok (.aload_n 0, 1) := by decide +kernel
theorem dX0_interest_19 : decode cX0_interest 19 = .ok (.getfield 50, 3) := by decide +kernel
theorem dX0_interest_22 : decode cX0_interest 22 = .ok (.iload_n 1, 1) := by decide +kernel
theorem dX0_interest_23 : decode cX0_interest 23 = .ok (.iaload, 1) := by decide +kernel
theorem dX0_interest_24 : decode cX0_interest 24 = .ok (.ireturn, 1) := by decide +kernel
theorem dX0_head_0 : decode cX0_head 0 = .ok (.aload_n 0, 1) := by decide +kernel
theorem dX0_head_1 : decode cX0_head 1 = .ok (.getfield 63, 3) := by decide +kernel
theorem dX0_head_4 : decode cX0_head 4 = .ok (.ireturn, 1) := by decide +kernel
set_option maxRecDepth 20000 in
theorem ggX0_requests_X0_isComing : GoodIn wsX0_requests wsX0_isComing := goodIn_r _ [5, 6, 7, 8, 9, 4, 10, 11, 12, 13, 14, 15, 16, 17, 18, 19, 20, 21, 22, 23, 24, 25, 26, 27, 28, 29] (by decide +kernel) (by decide +kernel)
set_option maxRecDepth 20000 in
theorem gX0_requests_X0_isComing : GoodIn wsX0_requests (wsV RX0 140 RX0 yX0_isComing wsX0_isComing) := goodIn_app (goodIn_of _ (by decide +kernel)) ggX0_requests_X0_isComing
theorem dX0_requests_0 : decode cX0_requests 0 = .ok (.iconst 0, 1) := by decide +kernel
theorem dX0_requests_1 : decode cX0_requests 1 = .ok (.istore_n 1, 1) := by decide +kernel
theorem dX0_requests_2 : decode cX0_requests 2 = .ok (.iconst 0, 1) := by decide +kernel
theorem dX0_requests_3 : decode cX0_requests 3 = .ok (.istore_n 2, 1) := by decide +kernel
theorem dX0_requests_4 : decode cX0_requests 4 = .ok (.iload_n 2, 1) := by decide +kernel
theorem dX0_requests_5 : decode cX0_requests 5 = .ok (.bipush 12, 2) := by decide +kernel
theorem dX0_requests_7 : decode cX0_requests 7 = .ok (.if_icmp .ge 20, 3) := by decide +kernel
theorem dX0_requests_10 : decode cX0_requests 10 = .ok (.aload_n 0, 1) := by decide +kernel
theorem dX0_requests_11 : decode cX0_requests 11 = .ok (.iload_n 2, 1) := by decide +kernel
theorem dX0_requests_12 : decode cX0_requests 12 = .ok (.invokevirtual 140, 3) := by decide +kernel
theorem dX0_requests_15 : decode cX0_requests 15 = .ok (.ifCond .eq 6, 3) := by decide +kernel
theorem dX0_requests_18 : decode cX0_requests 18 = .ok (.iinc 1 1, 3) := by decide +kernel
theorem dX0_requests_21 : decode cX0_requests 21 = .ok (.iinc 2 1, 3) := by decide +kernel
theorem dX0_requests_24 : decode cX0_requests 24 = .ok (.goto (-20), 3) := by decide +kernel
theorem dX0_requests_27 : decode cX0_requests 27 = .ok (.iload_n 1, 1) := by decide +kernel
theorem dX0_requests_28 : decode cX0_requests 28 = .ok (.ireturn, 1) := by decide +kernel
set_option maxRecDepth 20000 in
theorem ggX0_requestAt_X0_isRequested : GoodIn wsX0_requestAt wsX0_isRequested := goodIn_r _ [7, 8, 9, 10, 6, 11, 12, 13, 14, 15, 16, 17, 18, 19, 20, 21, 22, 23, 24, 25, 26, 27, 28, 29, 30, 31, 32, 33, 34, 35, 36, 37, 38, 39, 40] (by decide +kernel) (by decide +kernel)
set_option maxRecDepth 20000 in
theorem gX0_requestAt_X0_isRequested : GoodIn wsX0_requestAt (wsV RX0 164 RX0 yX0_isRequested wsX0_isRequested) := goodIn_app (goodIn_of _ (by decide +kernel)) ggX0_requestAt_X0_isRequested
theorem dX0_requestAt_0 : decode cX0_requestAt 0 = .ok (.iload_n 1, 1) := by decide +kernel
theorem dX0_requestAt_1 : decode cX0_requestAt 1 = .ok (.ifCond .ge 13, 3) := by decide +kernel
theorem dX0_requestAt_4 : decode cX0_requestAt 4 = .ok (.new 79, 3) := by decide +kernel
theorem dX0_requestAt_7 : decode cX0_requestAt 7 = .ok (.dup, 1) := by decide +kernel
theorem dX0_requestAt_8 : decode cX0_requestAt 8 = .ok (.ldc 162, 2) := by decide +kernel
theorem dX0_requestAt_10 : decode cX0_requestAt 10 = .ok (.invokespecial 83, 3) := by decide +kernel
theorem dX0_requestAt_13 : decode cX0_requestAt 13 = .ok (.athrow, 1) := by decide +kernel
theorem dX0_requestAt_14 : decode cX0_requestAt 14 = .ok (.iconst 0, 1) := by decide +kernel
theorem dX0_requestAt_15 : decode cX0_requestAt 15 = .ok (.istore_n 2, 1) := by decide +kernel
theorem dX0_requestAt_16 : decode cX0_requestAt 16 = .ok (.iconst 0, 1) := by decide +kernel
theorem dX0_requestAt_17 : decode cX0_requestAt 17 = .ok (.istore_n 3, 1) := by decide +kernel
theorem dX0_requestAt_18 : decode cX0_requestAt 18 = .ok (.iload_n 3, 1) := by decide +kernel
theorem dX0_requestAt_19 : decode cX0_requestAt 19 = .ok (.bipush 40, 2) := by decide +kernel
theorem dX0_requestAt_21 : decode cX0_requestAt 21 = .ok (.if_icmp .ge 27, 3) := by decide +kernel
theorem dX0_requestAt_24 : decode cX0_requestAt 24 = .ok (.aload_n 0, 1) := by decide +kernel
theorem dX0_requestAt_25 : decode cX0_requestAt 25 = .ok (.iload_n 3, 1) := by decide +kernel
theorem dX0_requestAt_26 : decode cX0_requestAt 26 = .ok (.invokevirtual 164, 3) := by decide +kernel
theorem dX0_requestAt_29 : decode cX0_requestAt 29 = .ok (.ifCond .eq 13, 3) := by decide +kernel
theorem dX0_requestAt_32 : decode cX0_requestAt 32 = .ok (.iload_n 2, 1) := by decide +kernel
theorem dX0_requestAt_33 : decode cX0_requestAt 33 = .ok (.iload_n 1, 1) := by decide +kernel
theorem dX0_requestAt_34 : decode cX0_requestAt 34 = .ok (.if_icmp .ne 5, 3) := by decide +kernel
theorem dX0_requestAt_37 : decode cX0_requestAt 37 = .ok (.iload_n 3, 1) := by decide +kernel
theorem dX0_requestAt_38 : decode cX0_requestAt 38 = .ok (.ireturn, 1) := by decide +kernel
theorem dX0_requestAt_39 : decode cX0_requestAt 39 = .ok (.iinc 2 1, 3) := by decide +kernel
theorem dX0_requestAt_42 : decode cX0_requestAt 42 = .ok (.iinc 3 1, 3) := by decide +kernel
theorem dX0_requestAt_45 : decode cX0_requestAt 45 = .ok (.goto (-27), 3) := by decide +kernel
theorem dX0_requestAt_48 : decode cX0_requestAt 48 = .ok (.iconst (-1), 1) := by decide +kernel
theorem dX0_requestAt_49 : decode cX0_requestAt 49 = .ok (.ireturn, 1) := by decide +kernel
theorem dX0_isProcess_0 : decode cX0_isProcess 0 = .ok (.iload_n 0, 1) := by decide +kernel
theorem dX0_isProcess_1 : decode cX0_isProcess 1 = .ok (.ifCond .lt 12, 3) := by decide +kernel
theorem dX0_isProcess_4 : decode cX0_isProcess 4 = .ok (.iload_n 0, 1) := by decide +kernel
theorem dX0_isProcess_5 : decode cX0_isProcess 5 = .ok (.iconst 5, 1) := by decide +kernel
theorem dX0_isProcess_6 : decode cX0_isProcess 6 = .ok (.if_icmp .ge 7, 3) := by decide +kernel
theorem dX0_isProcess_9 : decode cX0_isProcess 9 = .ok (.iconst 1, 1) := by decide +kernel
theorem dX0_isProcess_10 : decode cX0_isProcess 10 = .ok (.goto 4, 3) := by decide +kernel
theorem dX0_isProcess_13 : decode cX0_isProcess 13 = .ok (.iconst 0, 1) := by decide +kernel
theorem dX0_isProcess_14 : decode cX0_isProcess 14 = .ok (.ireturn, 1) := by decide +kernel
theorem dX0_isPage_0 : decode cX0_isPage 0 = .ok (.iload_n 0, 1) := by decide +kernel
theorem dX0_isPage_1 : decode cX0_isPage 1 = .ok (.ifCond .lt 13, 3) := by decide +kernel
theorem dX0_isPage_4 : decode cX0_isPage 4 = .ok (.iload_n 0, 1) := by decide +kernel
theorem dX0_isPage_5 : decode cX0_isPage 5 = .ok (.bipush 8, 2) := by decide +kernel
theorem dX0_isPage_7 : decode cX0_isPage 7 = .ok (.if_icmp .ge 7, 3) := by decide +kernel
theorem dX0_isPage_10 : decode cX0_isPage 10 = .ok (.iconst 1, 1) := by decide +kernel
theorem dX0_isPage_11 : decode cX0_isPage 11 = .ok (.goto 4, 3) := by decide +kernel
theorem dX0_isPage_14 : decode cX0_isPage 14 = .ok (.iconst 0, 1) := by decide +kernel
theorem dX0_isPage_15 : decode cX0_isPage 15 = .ok (.ireturn, 1) := by decide +kernel
theorem dX0_isFrame_0 : decode cX0_isFrame 0 = .ok (.iload_n 0, 1) := by decide +kernel
theorem dX0_isFrame_1 : decode cX0_isFrame 1 = .ok (.ifCond .lt 13, 3) := by decide +kernel
theorem dX0_isFrame_4 : decode cX0_isFrame 4 = .ok (.iload_n 0, 1) := by decide +kernel
theorem dX0_isFrame_5 : decode cX0_isFrame 5 = .ok (.bipush 12, 2) := by decide +kernel
theorem dX0_isFrame_7 : decode cX0_isFrame 7 = .ok (.if_icmp .ge 7, 3) := by decide +kernel
theorem dX0_isFrame_10 : decode cX0_isFrame 10 = .ok (.iconst 1, 1) := by decide +kernel
theorem dX0_isFrame_11 : decode cX0_isFrame 11 = .ok (.goto 4, 3) := by decide +kernel
theorem dX0_isFrame_14 : decode cX0_isFrame 14 = .ok (.iconst 0, 1) := by decide +kernel
theorem dX0_isFrame_15 : decode cX0_isFrame 15 = .ok (.ireturn, 1) := by decide +kernel
theorem dX0_isLoan_0 : decode cX0_isLoan 0 = .ok (.iload_n 1, 1) := by decide +kernel
theorem dX0_isLoan_1 : decode cX0_isLoan 1 = .ok (.ifCond .lt 21, 3) := by decide +kernel
theorem dX0_isLoan_4 : decode cX0_isLoan 4 = .ok (.iload_n 1, 1) := by decide +kernel
theorem dX0_isLoan_5 : decode cX0_isLoan 5 = .ok (.bipush 60, 2) := by decide +kernel
theorem dX0_isLoan_7 : decode cX0_isLoan 7 = .ok (.if_icmp .ge 15, 3) := by decide +kernel
theorem dX0_isLoan_10 : decode cX0_isLoan 10 = .ok (.iload_n 1, 1) := by decide +kernel
theorem dX0_isLoan_11 : decode cX0_isLoan 11 = .ok (.aload_n 0, 1) := by decide +kernel
theorem dX0_isLoan_12 : decode cX0_isLoan 12 = .ok (.getfield 53, 3) := by decide +kernel
theorem dX0_isLoan_15 : decode cX0_isLoan 15 = .ok (.if_icmp .ge 7, 3) := by decide +kernel
theorem dX0_isLoan_18 : decode cX0_isLoan 18 = .ok (.iconst 1, 1) := by decide +kernel
theorem dX0_isLoan_19 : decode cX0_isLoan 19 = .ok (.goto 4, 3) := by decide +kernel
theorem dX0_isLoan_22 : decode cX0_isLoan 22 = .ok (.iconst 0, 1) := by decide +kernel
theorem dX0_isLoan_23 : decode cX0_isLoan 23 = .ok (.ireturn, 1) := by decide +kernel
set_option maxRecDepth 20000 in
theorem ggX0_isComing_X0_isFrame : GoodIn wsX0_isComing wsX0_isFrame := goodIn_r _ [6] (by decide +kernel) (by decide +kernel)
set_option maxRecDepth 20000 in
theorem gX0_isComing_X0_isFrame : GoodIn wsX0_isComing (va_wsS RX0 102 yX0_isFrame wsX0_isFrame) := goodIn_app (goodIn_of _ (by decide +kernel)) ggX0_isComing_X0_isFrame
theorem dX0_isComing_0 : decode cX0_isComing 0 = .ok (.iload_n 1, 1) := by decide +kernel
theorem dX0_isComing_1 : decode cX0_isComing 1 = .ok (.invokestatic 102, 3) := by decide +kernel
theorem dX0_isComing_4 : decode cX0_isComing 4 = .ok (.ifCond .eq 26, 3) := by decide +kernel
theorem dX0_isComing_7 : decode cX0_isComing 7 = .ok (.aload_n 0, 1) := by decide +kernel
theorem dX0_isComing_8 : decode cX0_isComing 8 = .ok (.getfield 28, 3) := by decide +kernel
theorem dX0_isComing_11 : decode cX0_isComing 11 = .ok (.iload_n 1, 1) := by decide +kernel
theorem dX0_isComing_12 : decode cX0_isComing 12 = .ok (.iaload, 1) := by decide +kernel
theorem dX0_isComing_13 : decode cX0_isComing 13 = .ok (.iconst (-1), 1) := by decide +kernel
theorem dX0_isComing_14 : decode cX0_isComing 14 = .ok (.if_icmp .eq 16, 3) := by decide +kernel
theorem dX0_isComing_17 : decode cX0_isComing 17 = .ok (.aload_n 0, 1) := by decide +kernel
theorem dX0_isComing_18 : decode cX0_isComing 18 = .ok (.getfield 31, 3) := by decide +kernel
theorem dX0_isComing_21 : decode cX0_isComing 21 = .ok (.iload_n 1, 1) := by decide +kernel
theorem dX0_isComing_22 : decode cX0_isComing 22 = .ok (.baload, 1) := by decide +kernel
theorem dX0_isComing_23 : decode cX0_isComing 23 = .ok (.ifCond .ne 7, 3) := by decide +kernel
theorem dX0_isComing_26 : decode cX0_isComing 26 = .ok (.iconst 1, 1) := by decide +kernel
theorem dX0_isComing_27 : decode cX0_isComing 27 = .ok (.goto 4, 3) := by decide +kernel
theorem dX0_isComing_30 : decode cX0_isComing 30 = .ok (.iconst 0, 1) := by decide +kernel
theorem dX0_isComing_31 : decode cX0_isComing 31 = .ok (.ireturn, 1) := by decide +kernel
theorem dX0_ageOf_0 : decode cX0_ageOf 0 = .ok (.aload_n 0, 1) := by decide +kernel
theorem dX0_ageOf_1 : decode cX0_ageOf 1 = .ok (.getfield 31, 3) := by decide +kernel
theorem dX0_ageOf_4 : decode cX0_ageOf 4 = .ok (.iload_n 1, 1) := by decide +kernel
theorem dX0_ageOf_5 : decode cX0_ageOf 5 = .ok (.baload, 1) := by decide +kernel
theorem dX0_ageOf_6 : decode cX0_ageOf 6 = .ok (.ifCond .eq 17, 3) := by decide +kernel
theorem dX0_ageOf_9 : decode cX0_ageOf 9 = .ok (.aload_n 0, 1) := by decide +kernel
theorem dX0_ageOf_10 : decode cX0_ageOf 10 = .ok (.getfield 60, 3) := by decide +kernel
theorem dX0_ageOf_13 : decode cX0_ageOf 13 = .ok (.aload_n 0, 1) := by decide +kernel
theorem dX0_ageOf_14 : decode cX0_ageOf 14 = .ok (.getfield 35, 3) := by decide +kernel
theorem dX0_ageOf_17 : decode cX0_ageOf 17 = .ok (.iload_n 1, 1) := by decide +kernel
theorem dX0_ageOf_18 : decode cX0_ageOf 18 = .ok (.iaload, 1) := by decide +kernel
theorem dX0_ageOf_19 : decode cX0_ageOf 19 = .ok (.isub, 1) := by decide +kernel
theorem dX0_ageOf_20 : decode cX0_ageOf 20 = .ok (.goto 4, 3) := by decide +kernel
theorem dX0_ageOf_23 : decode cX0_ageOf 23 = .ok (.iconst (-1), 1) := by decide +kernel
theorem dX0_ageOf_24 : decode cX0_ageOf 24 = .ok (.ireturn, 1) := by decide +kernel
theorem dX0_dropPage_0 : decode cX0_dropPage 0 = .ok (.aload_n 0, 1) := by decide +kernel
theorem dX0_dropPage_1 : decode cX0_dropPage 1 = .ok (.getfield 28, 3) := by decide +kernel
theorem dX0_dropPage_4 : decode cX0_dropPage 4 = .ok (.iload_n 1, 1) := by decide +kernel
theorem dX0_dropPage_5 : decode cX0_dropPage 5 = .ok (.iconst (-1), 1) := by decide +kernel
theorem dX0_dropPage_6 : decode cX0_dropPage 6 = .ok (.iastore, 1) := by decide +kernel
theorem dX0_dropPage_7 : decode cX0_dropPage 7 = .ok (.aload_n 0, 1) := by decide +kernel
theorem dX0_dropPage_8 : decode cX0_dropPage 8 = .ok (.getfield 31, 3) := by decide +kernel
theorem dX0_dropPage_11 : decode cX0_dropPage 11 = .ok (.iload_n 1, 1) := by decide +kernel
theorem dX0_dropPage_12 : decode cX0_dropPage 12 = .ok (.iconst 0, 1) := by decide +kernel
theorem dX0_dropPage_13 : decode cX0_dropPage 13 = .ok (.bastore, 1) := by decide +kernel
theorem dX0_dropPage_14 : decode cX0_dropPage 14 = .ok (.aload_n 0, 1) := by decide +kernel
theorem dX0_dropPage_15 : decode cX0_dropPage 15 = .ok (.getfield 66, 3) := by decide +kernel
theorem dX0_dropPage_18 : decode cX0_dropPage 18 = .ok (.iload_n 1, 1) := by decide +kernel
theorem dX0_dropPage_19 : decode cX0_dropPage 19 = .ok (.if_icmp .ne 8, 3) := by decide +kernel
theorem dX0_dropPage_22 : decode cX0_dropPage 22 = .ok (.aload_n 0, 1) := by decide +kernel
theorem dX0_dropPage_23 : decode cX0_dropPage 23 = .ok (.iconst (-1), 1) := by decide +kernel
theorem dX0_dropPage_24 : decode cX0_dropPage 24 = .ok (.putfield 66, 3) := by decide +kernel
theorem dX0_dropPage_27 : decode cX0_dropPage 27 = .ok (.return_, 1) := by decide +kernel
theorem dX0_lowestEmptyFrame_0 : decode cX0_lowestEmptyFrame 0 = .ok (.iconst 0, 1) := by decide +kernel
theorem dX0_lowestEmptyFrame_1 : decode cX0_lowestEmptyFrame 1 = .ok (.istore_n 2, 1) := by decide +kernel
theorem dX0_lowestEmptyFrame_2 : decode cX0_lowestEmptyFrame 2 = .ok (.iload_n 2, 1) := by decide +kernel
theorem dX0_lowestEmptyFrame_3 : decode cX0_lowestEmptyFrame 3 = .ok (.bipush 12, 2) := by decide +kernel
theorem dX0_lowestEmptyFrame_5 : decode cX0_lowestEmptyFrame 5 = .ok (.if_icmp .ge 31, 3) := by decide +kernel
theorem dX0_lowestEmptyFrame_8 : decode cX0_lowestEmptyFrame 8 = .ok (.aload_n 0, 1) := by decide +kernel
theorem dX0_lowestEmptyFrame_9 : decode cX0_lowestEmptyFrame 9 = .ok (.getfield 25, 3) := by decide +kernel
theorem dX0_lowestEmptyFrame_12 : decode cX0_lowestEmptyFrame 12 = .ok (.iload_n 2, 1) := by decide +kernel
theorem dX0_lowestEmptyFrame_13 : decode cX0_lowestEmptyFrame 13 = .ok (.iaload, 1) := by decide +kernel
theorem dX0_lowestEmptyFrame_14 : decode cX0_lowestEmptyFrame 14 = .ok (.iload_n 1, 1) := by decide +kernel
theorem dX0_lowestEmptyFrame_15 : decode cX0_lowestEmptyFrame 15 = .ok (.if_icmp .ne 15, 3) := by decide +kernel
theorem dX0_lowestEmptyFrame_18 : decode cX0_lowestEmptyFrame 18 = .ok (.aload_n 0, 1) := by decide +kernel
theorem dX0_lowestEmptyFrame_19 : decode cX0_lowestEmptyFrame 19 = .ok (.getfield 28, 3) := by decide +kernel
theorem dX0_lowestEmptyFrame_22 : decode cX0_lowestEmptyFrame 22 = .ok (.iload_n 2, 1) := by decide +kernel
theorem dX0_lowestEmptyFrame_23 : decode cX0_lowestEmptyFrame 23 = .ok (.iaload, 1) := by decide +kernel
theorem dX0_lowestEmptyFrame_24 : decode cX0_lowestEmptyFrame 24 = .ok (.iconst (-1), 1) := by decide +kernel
theorem dX0_lowestEmptyFrame_25 : decode cX0_lowestEmptyFrame 25 = .ok (.if_icmp .ne 5, 3) := by decide +kernel
theorem dX0_lowestEmptyFrame_28 : decode cX0_lowestEmptyFrame 28 = .ok (.iload_n 2, 1) := by decide +kernel
theorem dX0_lowestEmptyFrame_29 : decode cX0_lowestEmptyFrame 29 = .ok (.ireturn, 1) := by decide +kernel
theorem dX0_lowestEmptyFrame_30 : decode cX0_lowestEmptyFrame 30 = .ok (.iinc 2 1, 3) := by decide +kernel
theorem dX0_lowestEmptyFrame_33 : decode cX0_lowestEmptyFrame 33 = .ok (.goto (-31), 3) := by decide +kernel
theorem dX0_lowestEmptyFrame_36 : decode cX0_lowestEmptyFrame 36 = .ok (.iconst (-1), 1) := by decide +kernel
theorem dX0_lowestEmptyFrame_37 : decode cX0_lowestEmptyFrame 37 = .ok (.ireturn, 1) := by decide +kernel
theorem dX0_frameWithPage_0 : decode cX0_frameWithPage 0 = .ok (.iconst 0, 1) := by decide +kernel
theorem dX0_frameWithPage_1 : decode cX0_frameWithPage 1 = .ok (.istore_n 3, 1) := by decide +kernel
theorem dX0_frameWithPage_2 : decode cX0_frameWithPage 2 = .ok (.iload_n 3, 1) := by decide +kernel
theorem dX0_frameWithPage_3 : decode cX0_frameWithPage 3 = .ok (.bipush 12, 2) := by decide +kernel
theorem dX0_frameWithPage_5 : decode cX0_frameWithPage 5 = .ok (.if_icmp .ge 31, 3) := by decide +kernel
theorem dX0_frameWithPage_8 : decode cX0_frameWithPage 8 = .ok (.aload_n 0, 1) := by decide +kernel
theorem dX0_frameWithPage_9 : decode cX0_frameWithPage 9 = .ok (.getfield 25, 3) := by decide +kernel
theorem dX0_frameWithPage_12 : decode cX0_frameWithPage 12 = .ok (.iload_n 3, 1) := by decide +kernel
theorem dX0_frameWithPage_13 : decode cX0_frameWithPage 13 = .ok (.iaload, 1) := by decide +kernel
theorem dX0_frameWithPage_14 : decode cX0_frameWithPage 14 = .ok (.iload_n 1, 1) := by decide +kernel
theorem dX0_frameWithPage_15 : decode cX0_frameWithPage 15 = .ok (.if_icmp .ne 15, 3) := by decide +kernel
theorem dX0_frameWithPage_18 : decode cX0_frameWithPage 18 = .ok (.aload_n 0, 1) := by decide +kernel
theorem dX0_frameWithPage_19 : decode cX0_frameWithPage 19 = .ok (.getfield 28, 3) := by decide +kernel
theorem dX0_frameWithPage_22 : decode cX0_frameWithPage 22 = .ok (.iload_n 3, 1) := by decide +kernel
theorem dX0_frameWithPage_23 : decode cX0_frameWithPage 23 = .ok (.iaload, 1) := by decide +kernel
theorem dX0_frameWithPage_24 : decode cX0_frameWithPage 24 = .ok (.iload_n 2, 1) := by decide +kernel
theorem dX0_frameWithPage_25 : decode cX0_frameWithPage 25 = .ok (.if_icmp .ne 5, 3) := by decide +kernel
theorem dX0_frameWithPage_28 : decode cX0_frameWithPage 28 = .ok (.iload_n 3, 1) := by decide +kernel
theorem dX0_frameWithPage_29 : decode cX0_frameWithPage 29 = .ok (.ireturn, 1) := by decide +kernel
theorem dX0_frameWithPage_30 : decode cX0_frameWithPage 30 = .ok (.iinc 3 1, 3) := by decide +kernel
theorem dX0_frameWithPage_33 : decode cX0_frameWithPage 33 = .ok (.goto (-31), 3) := by decide +kernel
theorem dX0_frameWithPage_36 : decode cX0_frameWithPage 36 = .ok (.iconst (-1), 1) := by decide +kernel
theorem dX0_frameWithPage_37 : decode cX0_frameWithPage 37 = .ok (.ireturn, 1) := by decide +kernel
set_option maxRecDepth 20000 in
theorem ggX0_oldestFrame_X0_ageOf : GoodIn wsX0_oldestFrame wsX0_ageOf := goodIn_r _ [6, 7, 8, 9, 10, 11, 12, 13, 14, 15, 16, 17, 18, 19, 20, 21, 22, 23, 24, 25, 26, 27, 28] (by decide +kernel) (by decide +kernel)
set_option maxRecDepth 20000 in
theorem gX0_oldestFrame_X0_ageOf : GoodIn wsX0_oldestFrame (wsV RX0 156 RX0 yX0_ageOf wsX0_ageOf) := goodIn_app (goodIn_of _ (by decide +kernel)) ggX0_oldestFrame_X0_ageOf
theorem dX0_oldestFrame_0 : decode cX0_oldestFrame 0 = .ok (.iconst (-1), 1) := by decide +kernel
theorem dX0_oldestFrame_1 : decode cX0_oldestFrame 1 = .ok (.istore_n 2, 1) := by decide +kernel
theorem dX0_oldestFrame_2 : decode cX0_oldestFrame 2 = .ok (.iconst (-1), 1) := by decide +kernel
theorem dX0_oldestFrame_3 : decode cX0_oldestFrame 3 = .ok (.istore_n 3, 1) := by decide +kernel
theorem dX0_oldestFrame_4 : decode cX0_oldestFrame 4 = .ok (.iconst 0, 1) := by decide +kernel
theorem dX0_oldestFrame_5 : decode cX0_oldestFrame 5 = .ok (.istore 4, 2) := by decide +kernel
theorem dX0_oldestFrame_7 : decode cX0_oldestFrame 7 = .ok (.iload 4, 2) := by decide +kernel
theorem dX0_oldestFrame_9 : decode cX0_oldestFrame 9 = .ok (.bipush 12, 2) := by decide +kernel
theorem dX0_oldestFrame_11 : decode cX0_oldestFrame 11 = .ok (.if_icmp .ge 40, 3) := by decide +kernel
theorem dX0_oldestFrame_14 : decode cX0_oldestFrame 14 = .ok (.aload_n 0, 1) := by decide +kernel
theorem dX0_oldestFrame_15 : decode cX0_oldestFrame 15 = .ok (.getfield 25, 3) := by decide +kernel
theorem dX0_oldestFrame_18 : decode cX0_oldestFrame 18 = .ok (.iload 4, 2) := by decide +kernel
theorem dX0_oldestFrame_20 : decode cX0_oldestFrame 20 = .ok (.iaload, 1) := by decide +kernel
theorem dX0_oldestFrame_21 : decode cX0_oldestFrame 21 = .ok (.iload_n 1, 1) := by decide +kernel
theorem dX0_oldestFrame_22 : decode cX0_oldestFrame 22 = .ok (.if_icmp .ne 23, 3) := by decide +kernel
theorem dX0_oldestFrame_25 : decode cX0_oldestFrame 25 = .ok (.aload_n 0, 1) := by decide +kernel
theorem dX0_oldestFrame_26 : decode cX0_oldestFrame 26 = .ok (.iload 4, 2) := by decide +kernel
theorem dX0_oldestFrame_28 : decode cX0_oldestFrame 28 = .ok (.invokevirtual 156, 3) := by decide +kernel
theorem dX0_oldestFrame_31 : decode cX0_oldestFrame 31 = .ok (.iload_n 3, 1) := by decide +kernel
theorem dX0_oldestFrame_32 : decode cX0_oldestFrame 32 = .ok (.if_icmp .le 13, 3) := by decide +kernel
theorem dX0_oldestFrame_35 : decode cX0_oldestFrame 35 = .ok (.iload 4, 2) := by decide +kernel
theorem dX0_oldestFrame_37 : decode cX0_oldestFrame 37 = .ok (.istore_n 2, 1) := by decide +kernel
theorem dX0_oldestFrame_38 : decode cX0_oldestFrame 38 = .ok (.aload_n 0, 1) := by decide +kernel
theorem dX0_oldestFrame_39 : decode cX0_oldestFrame 39 = .ok (.iload 4, 2) := by decide +kernel
theorem dX0_oldestFrame_41 : decode cX0_oldestFrame 41 = .ok (.invokevirtual 156, 3) := by decide +kernel
theorem dX0_oldestFrame_44 : decode cX0_oldestFrame 44 = .ok (.istore_n 3, 1) := by decide +kernel
theorem dX0_oldestFrame_45 : decode cX0_oldestFrame 45 = .ok (.iinc 4 1, 3) := by decide +kernel
theorem dX0_oldestFrame_48 : decode cX0_oldestFrame 48 = .ok (.goto (-41), 3) := by decide +kernel
theorem dX0_oldestFrame_51 : decode cX0_oldestFrame 51 = .ok (.iload_n 2, 1) := by decide +kernel
theorem dX0_oldestFrame_52 : decode cX0_oldestFrame 52 = .ok (.ireturn, 1) := by decide +kernel
set_option maxRecDepth 20000 in
theorem ggX0_frameForFault_X0_lowestEmptyFrame : GoodIn wsX0_frameForFault wsX0_lowestEmptyFrame := goodIn_r _ [5, 6, 7, 68, 69, 70, 71, 72, 73, 74, 75, 76, 77, 78, 79, 80, 81, 82, 83, 84, 85, 86] (by decide +kernel) (by decide +kernel)
set_option maxRecDepth 20000 in
theorem gX0_frameForFault_X0_lowestEmptyFrame : GoodIn wsX0_frameForFault (wsV RX0 98 RX0 yX0_lowestEmptyFrame wsX0_lowestEmptyFrame) := goodIn_app (goodIn_of _ (by decide +kernel)) ggX0_frameForFault_X0_lowestEmptyFrame
set_option maxRecDepth 20000 in
theorem ggX0_frameForFault_X0_callIn : GoodIn wsX0_frameForFault wsX0_callIn := goodIn_r _ [11, 12, 13, 14, 15, 16, 17, 18, 4, 19, 7, 20, 21, 22, 23, 24, 25, 26, 27, 6, 28, 29, 30, 31, 32, 33, 68, 69, 70, 71, 72, 73, 74, 75, 76, 77, 78, 79, 80, 81, 82, 83, 84, 85, 86] (by decide +kernel) (by decide +kernel)
set_option maxRecDepth 20000 in
theorem gX0_frameForFault_X0_callIn : GoodIn wsX0_frameForFault (wsV RX0 167 RX0 yX0_callIn wsX0_callIn) := goodIn_app (goodIn_of _ (by decide +kernel)) ggX0_frameForFault_X0_callIn
set_option maxRecDepth 20000 in
theorem ggX0_frameForFault_X0_borrow : GoodIn wsX0_frameForFault wsX0_borrow := goodIn_ca (goodIn_r _ [37, 38, 39, 40, 41, 12, 6, 15, 14, 42, 13, 43, 44, 45, 4, 46, 28, 47, 48, 49, 50, 51, 52, 53, 54, 7, 55, 56, 57, 58, 20, 59, 60, 61, 62, 63, 21, 22, 23, 68, 69, 70, 71, 72, 73, 74, 75, 76, 77, 78, 79, 80, 81, 82, 83, 84, 85, 86] (by decide +kernel) (by decide +kernel)) (goodIn_sub (fun _ h => List.mem_cons_of_mem _ (List.mem_append_right _ h)) (by decide +kernel))
set_option maxRecDepth 20000 in
theorem gX0_frameForFault_X0_borrow : GoodIn wsX0_frameForFault (wsV RX0 170 RX0 yX0_borrow wsX0_borrow) := goodIn_app (goodIn_of _ (by decide +kernel)) ggX0_frameForFault_X0_borrow
set_option maxRecDepth 20000 in
theorem ggX0_frameForFault_X0_oldestFrame : GoodIn wsX0_frameForFault wsX0_oldestFrame := goodIn_r _ [67, 6, 55, 56, 57, 4, 58, 20, 59, 60, 68, 69, 70, 71, 72, 73, 74, 75, 76, 77, 78, 79, 80, 81, 82, 83, 84, 85, 86] (by decide +kernel) (by decide +kernel)
set_option maxRecDepth 20000 in
theorem gX0_frameForFault_X0_oldestFrame : GoodIn wsX0_frameForFault (wsV RX0 173 RX0 yX0_oldestFrame wsX0_oldestFrame) := goodIn_app (goodIn_of _ (by decide +kernel)) ggX0_frameForFault_X0_oldestFrame
theorem dX0_frameForFault_0 : decode cX0_frameForFault 0 = .ok (.aload_n 0, 1) := by decide +kernel
theorem dX0_frameForFault_1 : decode cX0_frameForFault 1 = .ok (.iload_n 1, 1) := by decide +kernel
theorem dX0_frameForFault_2 : decode cX0_frameForFault 2 = .ok (.invokevirtual 98, 3) := by decide +kernel
theorem dX0_frameForFault_5 : decode cX0_frameForFault 5 = .ok (.istore_n 2, 1) := by decide +kernel
theorem dX0_frameForFault_6 : decode cX0_frameForFault 6 = .ok (.iload_n 2, 1) := by decide +kernel
theorem dX0_frameForFault_7 : decode cX0_frameForFault 7 = .ok (.iconst (-1), 1) := by decide +kernel
theorem dX0_frameForFault_8 : decode cX0_frameForFault 8 = .ok (.if_icmp .ne 9, 3) := by decide +kernel
theorem dX0_frameForFault_11 : decode cX0_frameForFault 11 = .ok (.aload_n 0, 1) := by decide +kernel
theorem dX0_frameForFault_12 : decode cX0_frameForFault 12 = .ok (.iload_n 1, 1) := by decide +kernel
theorem dX0_frameForFault_13 : decode cX0_frameForFault 13 = .ok (.invokevirtual 167, 3) := by decide +kernel
theorem dX0_frameForFault_16 : decode cX0_frameForFault 16 = .ok (.istore_n 2, 1) := by decide +kernel
theorem dX0_frameForFault_17 : decode cX0_frameForFault 17 = .ok (.iload_n 2, 1) := by decide +kernel
theorem dX0_frameForFault_18 : decode cX0_frameForFault 18 = .ok (.iconst (-1), 1) := by decide +kernel
theorem dX0_frameForFault_19 : decode cX0_frameForFault 19 = .ok (.if_icmp .ne 9, 3) := by decide +kernel
theorem dX0_frameForFault_22 : decode cX0_frameForFault 22 = .ok (.aload_n 0, 1) := by decide +kernel
theorem dX0_frameForFault_23 : decode cX0_frameForFault 23 = .ok (.iload_n 1, 1) := by decide +kernel
theorem dX0_frameForFault_24 : decode cX0_frameForFault 24 = .ok (.invokevirtual 170, 3) := by decide +kernel
theorem dX0_frameForFault_27 : decode cX0_frameForFault 27 = .ok (.istore_n 2, 1) := by decide +kernel
theorem dX0_frameForFault_28 : decode cX0_frameForFault 28 = .ok (.iload_n 2, 1) := by decide +kernel
theorem dX0_frameForFault_29 : decode cX0_frameForFault 29 = .ok (.iconst (-1), 1) := by decide +kernel
theorem dX0_frameForFault_30 : decode cX0_frameForFault 30 = .ok (.if_icmp .ne 9, 3) := by decide +kernel
theorem dX0_frameForFault_33 : decode cX0_frameForFault 33 = .ok (.aload_n 0, 1) := by decide +kernel
theorem dX0_frameForFault_34 : decode cX0_frameForFault 34 = .ok (.iload_n 1, 1) := by decide +kernel
theorem dX0_frameForFault_35 : decode cX0_frameForFault 35 = .ok (.invokevirtual 173, 3) := by decide +kernel
theorem dX0_frameForFault_38 : decode cX0_frameForFault 38 = .ok (.istore_n 2, 1) := by decide +kernel
theorem dX0_frameForFault_39 : decode cX0_frameForFault 39 = .ok (.iload_n 2, 1) := by decide +kernel
theorem dX0_frameForFault_40 : decode cX0_frameForFault 40 = .ok (.ireturn, 1) := by decide +kernel
set_option maxRecDepth 20000 in
theorem ggX0_callIn_X0_isComing : GoodIn wsX0_callIn wsX0_isComing := goodIn_r _ [9, 10, 11, 12, 13, 8, 14, 26, 27, 28, 29, 30, 31, 32, 33, 34, 35, 36, 37, 38, 39, 40, 41, 42, 43, 44] (by decide +kernel) (by decide +kernel)
set_option maxRecDepth 20000 in
theorem gX0_callIn_X0_isComing : GoodIn wsX0_callIn (wsV RX0 140 RX0 yX0_isComing wsX0_isComing) := goodIn_app (goodIn_of _ (by decide +kernel)) ggX0_callIn_X0_isComing
set_option maxRecDepth 20000 in
theorem ggX0_callIn_X0_endLoan : GoodIn wsX0_callIn wsX0_endLoan := goodIn_r _ [18, 2, 4, 19, 20, 12, 13, 8, 14, 21, 22, 23, 24, 10, 11, 25, 26, 27, 28, 29, 30, 31, 32, 33, 34, 35, 36, 37, 38, 39, 40, 41, 42, 43, 44] (by decide +kernel) (by decide +kernel)
set_option maxRecDepth 20000 in
theorem gX0_callIn_X0_endLoan : GoodIn wsX0_callIn (wsV RX0 145 RX0 yX0_endLoan wsX0_endLoan) := goodIn_app (goodIn_of _ (by decide +kernel)) ggX0_callIn_X0_endLoan
theorem dX0_callIn_0 : decode cX0_callIn 0 = .ok (.iconst 0, 1) := by decide +kernel
theorem dX0_callIn_1 : decode cX0_callIn 1 = .ok (.istore_n 2, 1) := by decide +kernel
theorem dX0_callIn_2 : decode cX0_callIn 2 = .ok (.iload_n 2, 1) := by decide +kernel
theorem dX0_callIn_3 : decode cX0_callIn 3 = .ok (.bipush 60, 2) := by decide +kernel
theorem dX0_callIn_5 : decode cX0_callIn 5 = .ok (.if_icmp .ge 61, 3) := by decide +kernel
theorem dX0_callIn_8 : decode cX0_callIn 8 = .ok (.iload_n 2, 1) := by decide +kernel
theorem dX0_callIn_9 : decode cX0_callIn 9 = .ok (.aload_n 0, 1) := by decide +kernel
theorem dX0_callIn_10 : decode cX0_callIn 10 = .ok (.getfield 53, 3) := by decide +kernel
theorem dX0_callIn_13 : decode cX0_callIn 13 = .ok (.if_icmp .ge 53, 3) := by decide +kernel
theorem dX0_callIn_16 : decode cX0_callIn 16 = .ok (.aload_n 0, 1) := by decide +kernel
theorem dX0_callIn_17 : decode cX0_callIn 17 = .ok (.getfield 47, 3) := by decide +kernel
theorem dX0_callIn_20 : decode cX0_callIn 20 = .ok (.iload_n 2, 1) := by decide +kernel
theorem dX0_callIn_21 : decode cX0_callIn 21 = .ok (.baload, 1) := by decide +kernel
theorem dX0_callIn_22 : decode cX0_callIn 22 = .ok (.ifCond .eq 38, 3) := by decide +kernel
theorem dX0_callIn_25 : decode cX0_callIn 25 = .ok (.aload_n 0, 1) := by decide +kernel
theorem dX0_callIn_26 : decode cX0_callIn 26 = .ok (.getfield 41, 3) := by decide +kernel
theorem dX0_callIn_29 : decode cX0_callIn 29 = .ok (.iload_n 2, 1) := by decide +kernel
theorem dX0_callIn_30 : decode cX0_callIn 30 = .ok (.iaload, 1) := by decide +kernel
theorem dX0_callIn_31 : decode cX0_callIn 31 = .ok (.iload_n 1, 1) := by decide +kernel
theorem dX0_callIn_32 : decode cX0_callIn 32 = .ok (.if_icmp .ne 28, 3) := by decide +kernel
theorem dX0_callIn_35 : decode cX0_callIn 35 = .ok (.aload_n 0, 1) := by decide +kernel
theorem dX0_callIn_36 : decode cX0_callIn 36 = .ok (.aload_n 0, 1) := by decide +kernel
theorem dX0_callIn_37 : decode cX0_callIn 37 = .ok (.getfield 38, 3) := by decide +kernel
theorem dX0_callIn_40 : decode cX0_callIn 40 = .ok (.iload_n 2, 1) := by decide +kernel
theorem dX0_callIn_41 : decode cX0_callIn 41 = .ok (.iaload, 1) := by decide +kernel
theorem dX0_callIn_42 : decode cX0_callIn 42 = .ok (.invokevirtual 140, 3) := by decide +kernel
theorem dX0_callIn_45 : decode cX0_callIn 45 = .ok (.ifCond .ne 15, 3) := by decide +kernel
theorem dX0_callIn_48 : decode cX0_callIn 48 = .ok (.aload_n 0, 1) := by decide +kernel
theorem dX0_callIn_49 : decode cX0_callIn 49 = .ok (.iload_n 2, 1) := by decide +kernel
theorem dX0_callIn_50 : decode cX0_callIn 50 = .ok (.invokevirtual 145, 3) := by decide +kernel
theorem dX0_callIn_53 : decode cX0_callIn 53 = .ok (.aload_n 0, 1) := by decide +kernel
theorem dX0_callIn_54 : decode cX0_callIn 54 = .ok (.getfield 38, 3) := by decide +kernel
theorem dX0_callIn_57 : decode cX0_callIn 57 = .ok (.iload_n 2, 1) := by decide +kernel
theorem dX0_callIn_58 : decode cX0_callIn 58 = .ok (.iaload, 1) := by decide +kernel
theorem dX0_callIn_59 : decode cX0_callIn 59 = .ok (.ireturn, 1) := by decide +kernel
theorem dX0_callIn_60 : decode cX0_callIn 60 = .ok (.iinc 2 1, 3) := by decide +kernel
theorem dX0_callIn_63 : decode cX0_callIn 63 = .ok (.goto (-61), 3) := by decide +kernel
theorem dX0_callIn_66 : decode cX0_callIn 66 = .ok (.iconst (-1), 1) := by decide +kernel
theorem dX0_callIn_67 : decode cX0_callIn 67 = .ok (.ireturn, 1) := by decide +kernel
set_option maxRecDepth 20000 in
theorem ggX0_borrow_X0_countBorrowed : GoodIn wsX0_borrow wsX0_countBorrowed := goodIn_r _ [15, 6, 16, 39, 40, 41, 42, 43, 44, 45, 46, 47, 48, 49, 50, 51, 52, 53, 54, 55, 56, 57] (by decide +kernel) (by decide +kernel)
set_option maxRecDepth 20000 in
theorem gX0_borrow_X0_countBorrowed : GoodIn wsX0_borrow (wsV RX0 159 RX0 yX0_countBorrowed wsX0_countBorrowed) := goodIn_app (goodIn_of _ (by decide +kernel)) ggX0_borrow_X0_countBorrowed
set_option maxRecDepth 20000 in
theorem ggX0_borrow_X0_richestLender : GoodIn wsX0_borrow wsX0_richestLender := goodIn_r _ [20, 3, 21, 22, 23, 14, 24, 16, 6, 25, 26, 27, 28, 29, 30, 31, 32, 39, 40, 41, 42, 43, 44, 45, 46, 47, 48, 49, 50, 51, 52, 53, 54, 55, 56, 57] (by decide +kernel) (by decide +kernel)
set_option maxRecDepth 20000 in
theorem gX0_borrow_X0_richestLender : GoodIn wsX0_borrow (wsV RX0 176 RX0 yX0_richestLender wsX0_richestLender) := goodIn_app (goodIn_of _ (by decide +kernel)) ggX0_borrow_X0_richestLender
set_option maxRecDepth 20000 in
theorem ggX0_borrow_X0_isProcess : GoodIn wsX0_borrow wsX0_isProcess := goodIn_r _ [35] (by decide +kernel) (by decide +kernel)
set_option maxRecDepth 20000 in
theorem gX0_borrow_X0_isProcess : GoodIn wsX0_borrow (va_wsS RX0 75 yX0_isProcess wsX0_isProcess) := goodIn_app (goodIn_of _ (by decide +kernel)) ggX0_borrow_X0_isProcess
set_option maxRecDepth 20000 in
theorem ggX0_borrow_X0_frameToLend : GoodIn wsX0_borrow wsX0_frameToLend := goodIn_r _ [24, 16, 6, 25, 26, 27, 28, 14, 29, 30, 31, 32, 39, 40, 41, 42, 43, 44, 45, 46, 47, 48, 49, 50, 51, 52, 53, 54, 55, 56, 57] (by decide +kernel) (by decide +kernel)
set_option maxRecDepth 20000 in
theorem gX0_borrow_X0_frameToLend : GoodIn wsX0_borrow (wsV RX0 179 RX0 yX0_frameToLend wsX0_frameToLend) := goodIn_app (goodIn_of _ (by decide +kernel)) ggX0_borrow_X0_frameToLend
set_option maxRecDepth 20000 in
theorem ggX0_borrow_X0_isFrame : GoodIn wsX0_borrow wsX0_isFrame := goodIn_r _ [38] (by decide +kernel) (by decide +kernel)
set_option maxRecDepth 20000 in
theorem gX0_borrow_X0_isFrame : GoodIn wsX0_borrow (va_wsS RX0 102 yX0_isFrame wsX0_isFrame) := goodIn_app (goodIn_of _ (by decide +kernel)) ggX0_borrow_X0_isFrame
theorem dX0_borrow_0 : decode cX0_borrow 0 = .ok (.aload_n 0, 1) := by decide +kernel
theorem dX0_borrow_1 : decode cX0_borrow 1 = .ok (.getfield 13, 3) := by decide +kernel
theorem dX0_borrow_4 : decode cX0_borrow 4 = .ok (.iload_n 1, 1) := by decide +kernel
theorem dX0_borrow_5 : decode cX0_borrow 5 = .ok (.iaload, 1) := by decide +kernel
theorem dX0_borrow_6 : decode cX0_borrow 6 = .ok (.aload_n 0, 1) := by decide +kernel
theorem dX0_borrow_7 : decode cX0_borrow 7 = .ok (.getfield 57, 3) := by decide +kernel
theorem dX0_borrow_10 : decode cX0_borrow 10 = .ok (.if_icmp .lt 12, 3) := by decide +kernel
theorem dX0_borrow_13 : decode cX0_borrow 13 = .ok (.aload_n 0, 1) := by decide +kernel
theorem dX0_borrow_14 : decode cX0_borrow 14 = .ok (.iload_n 1, 1) := by decide +kernel
theorem dX0_borrow_15 : decode cX0_borrow 15 = .ok (.invokevirtual 159, 3) := by decide +kernel
theorem dX0_borrow_18 : decode cX0_borrow 18 = .ok (.iconst 3, 1) := by decide +kernel
theorem dX0_borrow_19 : decode cX0_borrow 19 = .ok (.if_icmp .lt 5, 3) := by decide +kernel
theorem dX0_borrow_22 : decode cX0_borrow 22 = .ok (.iconst (-1), 1) := by decide +kernel
theorem dX0_borrow_23 : decode cX0_borrow 23 = .ok (.ireturn, 1) := by decide +kernel
theorem dX0_borrow_24 : decode cX0_borrow 24 = .ok (.aload_n 0, 1) := by decide +kernel
theorem dX0_borrow_25 : decode cX0_borrow 25 = .ok (.iload_n 1, 1) := by decide +kernel
theorem dX0_borrow_26 : decode cX0_borrow 26 = .ok (.invokevirtual 176, 3) := by decide +kernel
theorem dX0_borrow_29 : decode cX0_borrow 29 = .ok (.istore_n 2, 1) := by decide +kernel
theorem dX0_borrow_30 : decode cX0_borrow 30 = .ok (.iload_n 2, 1) := by decide +kernel
theorem dX0_borrow_31 : decode cX0_borrow 31 = .ok (.invokestatic 75, 3) := by decide +kernel
theorem dX0_borrow_34 : decode cX0_borrow 34 = .ok (.ifCond .eq 11, 3) := by decide +kernel
theorem dX0_borrow_37 : decode cX0_borrow 37 = .ok (.aload_n 0, 1) := by decide +kernel
theorem dX0_borrow_38 : decode cX0_borrow 38 = .ok (.iload_n 2, 1) := by decide +kernel
theorem dX0_borrow_39 : decode cX0_borrow 39 = .ok (.invokevirtual 179, 3) := by decide +kernel
theorem dX0_borrow_42 : decode cX0_borrow 42 = .ok (.goto 4, 3) := by decide +kernel
theorem dX0_borrow_45 : decode cX0_borrow 45 = .ok (.iconst (-1), 1) := by decide +kernel
theorem dX0_borrow_46 : decode cX0_borrow 46 = .ok (.istore_n 3, 1) := by decide +kernel
theorem dX0_borrow_47 : decode cX0_borrow 47 = .ok (.iload_n 3, 1) := by decide +kernel
theorem dX0_borrow_48 : decode cX0_borrow 48 = .ok (.invokestatic 102, 3) := by decide +kernel
theorem dX0_borrow_51 : decode cX0_borrow 51 = .ok (.ifCond .ne 5, 3) := by decide +kernel
theorem dX0_borrow_54 : decode cX0_borrow 54 = .ok (.iconst (-1), 1) := by decide +kernel
theorem dX0_borrow_55 : decode cX0_borrow 55 = .ok (.ireturn, 1) := by decide +kernel
theorem dX0_borrow_56 : decode cX0_borrow 56 = .ok (.aload_n 0, 1) := by decide +kernel
theorem dX0_borrow_57 : decode cX0_borrow 57 = .ok (.getfield 53, 3) := by decide +kernel
theorem dX0_borrow_60 : decode cX0_borrow 60 = .ok (.bipush 60, 2) := by decide +kernel
theorem dX0_borrow_62 : decode cX0_borrow 62 = .ok (.if_icmp .lt 13, 3) := by decide +kernel
theorem dX0_borrow_65 : decode cX0_borrow 65 = .ok (.new 93, 3) := by decide +kernel
theorem dX0_borrow_68 : decode cX0_borrow 68 = .ok (.dup, 1) := by decide +kernel
theorem dX0_borrow_69 : decode cX0_borrow 69 = .ok (.ldc 182, 2) := by decide +kernel
theorem dX0_borrow_71 : decode cX0_borrow 71 = .ok (.invokespecial 97, 3) := by decide +kernel
theorem dX0_borrow_74 : decode cX0_borrow 74 = .ok (.athrow, 1) := by decide +kernel
theorem dX0_borrow_75 : decode cX0_borrow 75 = .ok (.aload_n 0, 1) := by decide +kernel
theorem dX0_borrow_76 : decode cX0_borrow 76 = .ok (.getfield 25, 3) := by decide +kernel
theorem dX0_borrow_79 : decode cX0_borrow 79 = .ok (.iload_n 3, 1) := by decide +kernel
theorem dX0_borrow_80 : decode cX0_borrow 80 = .ok (.iload_n 1, 1) := by decide +kernel
theorem dX0_borrow_81 : decode cX0_borrow 81 = .ok (.iastore, 1) := by decide +kernel
theorem dX0_borrow_82 : decode cX0_borrow 82 = .ok (.aload_n 0, 1) := by decide +kernel
theorem dX0_borrow_83 : decode cX0_borrow 83 = .ok (.getfield 38, 3) := by decide +kernel
theorem dX0_borrow_86 : decode cX0_borrow 86 = .ok (.aload_n 0, 1) := by decide +kernel
theorem dX0_borrow_87 : decode cX0_borrow 87 = .ok (.getfield 53, 3) := by decide +kernel
theorem dX0_borrow_90 : decode cX0_borrow 90 = .ok (.iload_n 3, 1) := by decide +kernel
theorem dX0_borrow_91 : decode cX0_borrow 91 = .ok (.iastore, 1) := by decide +kernel
theorem dX0_borrow_92 : decode cX0_borrow 92 = .ok (.aload_n 0, 1) := by decide +kernel
theorem dX0_borrow_93 : decode cX0_borrow 93 = .ok (.getfield 41, 3) := by decide +kernel
theorem dX0_borrow_96 : decode cX0_borrow 96 = .ok (.aload_n 0, 1) := by decide +kernel
theorem dX0_borrow_97 : decode cX0_borrow 97 = .ok (.getfield 53, 3) := by decide +kernel
theorem dX0_borrow_100 : decode cX0_borrow 100 = .ok (.iload_n 2, 1) := by decide +kernel
theorem dX0_borrow_101 : decode cX0_borrow 101 = .ok (.iastore, 1) := by decide +kernel
theorem dX0_borrow_102 : decode cX0_borrow 102 = .ok (.aload_n 0, 1) := by decide +kernel
theorem dX0_borrow_103 : decode cX0_borrow 103 = .ok (.getfield 44, 3) := by decide +kernel
theorem dX0_borrow_106 : decode cX0_borrow 106 = .ok (.aload_n 0, 1) := by decide +kernel
theorem dX0_borrow_107 : decode cX0_borrow 107 = .ok (.getfield 53, 3) := by decide +kernel
theorem dX0_borrow_110 : decode cX0_borrow 110 = .ok (.iload_n 1, 1) := by decide +kernel
theorem dX0_borrow_111 : decode cX0_borrow 111 = .ok (.iastore, 1) := by decide +kernel
theorem dX0_borrow_112 : decode cX0_borrow 112 = .ok (.aload_n 0, 1) := by decide +kernel
theorem dX0_borrow_113 : decode cX0_borrow 113 = .ok (.getfield 47, 3) := by decide +kernel
theorem dX0_borrow_116 : decode cX0_borrow 116 = .ok (.aload_n 0, 1) := by decide +kernel
theorem dX0_borrow_117 : decode cX0_borrow 117 = .ok (.getfield 53, 3) := by decide +kernel
theorem dX0_borrow_120 : decode cX0_borrow 120 = .ok (.iconst 1, 1) := by decide +kernel
theorem dX0_borrow_121 : decode cX0_borrow 121 = .ok (.bastore, 1) := by decide +kernel
theorem dX0_borrow_122 : decode cX0_borrow 122 = .ok (.aload_n 0, 1) := by decide +kernel
theorem dX0_borrow_123 : decode cX0_borrow 123 = .ok (.dup, 1) := by decide +kernel
theorem dX0_borrow_124 : decode cX0_borrow 124 = .ok (.getfield 53, 3) := by decide +kernel
theorem dX0_borrow_127 : decode cX0_borrow 127 = .ok (.iconst 1, 1) := by decide +kernel
theorem dX0_borrow_128 : decode cX0_borrow 128 = .ok (.iadd, 1) := by decide +kernel
theorem dX0_borrow_129 : decode cX0_borrow 129 = .ok (.putfield 53, 3) := by decide +kernel
theorem dX0_borrow_132 : decode cX0_borrow 132 = .ok (.iload_n 3, 1) := by decide +kernel
theorem dX0_borrow_133 : decode cX0_borrow 133 = .ok (.ireturn, 1) := by decide +kernel
set_option maxRecDepth 20000 in
theorem ggX0_richestLender_X0_frameToLend : GoodIn wsX0_richestLender wsX0_frameToLend := goodIn_r _ [6, 7, 8, 9, 10, 11, 12, 5, 13, 14, 15, 16, 17, 18, 19, 20, 21, 22, 23, 24, 25, 26, 27, 28, 29, 30, 31, 32, 33, 34, 35] (by decide +kernel) (by decide +kernel)
set_option maxRecDepth 20000 in
theorem gX0_richestLender_X0_frameToLend : GoodIn wsX0_richestLender (wsV RX0 179 RX0 yX0_frameToLend wsX0_frameToLend) := goodIn_app (goodIn_of _ (by decide +kernel)) ggX0_richestLender_X0_frameToLend
theorem dX0_richestLender_0 : decode cX0_richestLender 0 = .ok (.iconst (-1), 1) := by decide +kernel
theorem dX0_richestLender_1 : decode cX0_richestLender 1 = .ok (.istore_n 2, 1) := by decide +kernel
theorem dX0_richestLender_2 : decode cX0_richestLender 2 = .ok (.iconst (-1), 1) := by decide +kernel
theorem dX0_richestLender_3 : decode cX0_richestLender 3 = .ok (.istore_n 3, 1) := by decide +kernel
theorem dX0_richestLender_4 : decode cX0_richestLender 4 = .ok (.iconst 0, 1) := by decide +kernel
theorem dX0_richestLender_5 : decode cX0_richestLender 5 = .ok (.istore 4, 2) := by decide +kernel
theorem dX0_richestLender_7 : decode cX0_richestLender 7 = .ok (.iload 4, 2) := by decide +kernel
theorem dX0_richestLender_9 : decode cX0_richestLender 9 = .ok (.iconst 5, 1) := by decide +kernel
theorem dX0_richestLender_10 : decode cX0_richestLender 10 = .ok (.if_icmp .ge 47, 3) := by decide +kernel
theorem dX0_richestLender_13 : decode cX0_richestLender 13 = .ok (.iload 4, 2) := by decide +kernel
theorem dX0_richestLender_15 : decode cX0_richestLender 15 = .ok (.iload_n 1, 1) := by decide +kernel
theorem dX0_richestLender_16 : decode cX0_richestLender 16 = .ok (.if_icmp .eq 35, 3) := by decide +kernel
theorem dX0_richestLender_19 : decode cX0_richestLender 19 = .ok (.aload_n 0, 1) := by decide +kernel
theorem dX0_richestLender_20 : decode cX0_richestLender 20 = .ok (.getfield 13, 3) := by decide +kernel
theorem dX0_richestLender_23 : decode cX0_richestLender 23 = .ok (.iload 4, 2) := by decide +kernel
theorem dX0_richestLender_25 : decode cX0_richestLender 25 = .ok (.iaload, 1) := by decide +kernel
theorem dX0_richestLender_26 : decode cX0_richestLender 26 = .ok (.iload_n 3, 1) := by decide +kernel
theorem dX0_richestLender_27 : decode cX0_richestLender 27 = .ok (.if_icmp .le 24, 3) := by decide +kernel
theorem dX0_richestLender_30 : decode cX0_richestLender 30 = .ok (.aload_n 0, 1) := by decide +kernel
theorem dX0_richestLender_31 : decode cX0_richestLender 31 = .ok (.iload 4, 2) := by decide +kernel
theorem dX0_richestLender_33 : decode cX0_richestLender 33 = .ok (.invokevirtual 179, 3) := by decide +kernel
theorem dX0_richestLender_36 : decode cX0_richestLender 36 = .ok (.iconst (-1), 1) := by decide +kernel
theorem dX0_richestLender_37 : decode cX0_richestLender 37 = .ok (.if_icmp .eq 14, 3) := by decide +kernel
theorem dX0_richestLender_40 : decode cX0_richestLender 40 = .ok (.iload 4, 2) := by decide +kernel
theorem dX0_richestLender_42 : decode cX0_richestLender 42 = .ok (.istore_n 2, 1) := by decide +kernel
theorem dX0_richestLender_43 : decode cX0_richestLender 43 = .ok (.aload_n 0, 1) := by decide +kernel
theorem dX0_richestLender_44 : decode cX0_richestLender 44 = .ok (.getfield 13, 3) := by decide +kernel
theorem dX0_richestLender_47 : decode cX0_richestLender 47 = .ok (.iload 4, 2) := by decide +kernel
theorem dX0_richestLender_49 : decode cX0_richestLender 49 = .ok (.iaload, 1) := by decide +kernel
theorem dX0_richestLender_50 : decode cX0_richestLender 50 = .ok (.istore_n 3, 1) := by decide +kernel
theorem dX0_richestLender_51 : decode cX0_richestLender 51 = .ok (.iinc 4 1, 3) := by decide +kernel
theorem dX0_richestLender_54 : decode cX0_richestLender 54 = .ok (.goto (-47), 3) := by decide +kernel
theorem dX0_richestLender_57 : decode cX0_richestLender 57 = .ok (.iload_n 2, 1) := by decide +kernel
theorem dX0_richestLender_58 : decode cX0_richestLender 58 = .ok (.ireturn, 1) := by decide +kernel
set_option maxRecDepth 20000 in
theorem ggX0_frameToLend_X0_ageOf : GoodIn wsX0_frameToLend wsX0_ageOf := goodIn_r _ [8, 9, 10, 11, 12, 13, 14, 15, 16, 17, 18, 19, 20, 21, 22, 23, 24, 25, 26, 27, 28, 29, 30] (by decide +kernel) (by decide +kernel)
set_option maxRecDepth 20000 in
theorem gX0_frameToLend_X0_ageOf : GoodIn wsX0_frameToLend (wsV RX0 156 RX0 yX0_ageOf wsX0_ageOf) := goodIn_app (goodIn_of _ (by decide +kernel)) ggX0_frameToLend_X0_ageOf
theorem dX0_frameToLend_0 : decode cX0_frameToLend 0 = .ok (.iconst (-1), 1) := by decide +kernel
theorem dX0_frameToLend_1 : decode cX0_frameToLend 1 = .ok (.istore_n 2, 1) := by decide +kernel
theorem dX0_frameToLend_2 : decode cX0_frameToLend 2 = .ok (.iconst 4, 1) := by decide +kernel
theorem dX0_frameToLend_3 : decode cX0_frameToLend 3 = .ok (.istore_n 3, 1) := by decide +kernel
theorem dX0_frameToLend_4 : decode cX0_frameToLend 4 = .ok (.iconst 0, 1) := by decide +kernel
theorem dX0_frameToLend_5 : decode cX0_frameToLend 5 = .ok (.istore 4, 2) := by decide +kernel
theorem dX0_frameToLend_7 : decode cX0_frameToLend 7 = .ok (.iload 4, 2) := by decide +kernel
theorem dX0_frameToLend_9 : decode cX0_frameToLend 9 = .ok (.bipush 12, 2) := by decide +kernel
theorem dX0_frameToLend_11 : decode cX0_frameToLend 11 = .ok (.if_icmp .ge 65, 3) := by decide +kernel
theorem dX0_frameToLend_14 : decode cX0_frameToLend 14 = .ok (.aload_n 0, 1) := by decide +kernel
theorem dX0_frameToLend_15 : decode cX0_frameToLend 15 = .ok (.getfield 22, 3) := by decide +kernel
theorem dX0_frameToLend_18 : decode cX0_frameToLend 18 = .ok (.iload 4, 2) := by decide +kernel
theorem dX0_frameToLend_20 : decode cX0_frameToLend 20 = .ok (.iaload, 1) := by decide +kernel
theorem dX0_frameToLend_21 : decode cX0_frameToLend 21 = .ok (.iload_n 1, 1) := by decide +kernel
theorem dX0_frameToLend_22 : decode cX0_frameToLend 22 = .ok (.if_icmp .ne 48, 3) := by decide +kernel
theorem dX0_frameToLend_25 : decode cX0_frameToLend 25 = .ok (.aload_n 0, 1) := by decide +kernel
theorem dX0_frameToLend_26 : decode cX0_frameToLend 26 = .ok (.getfield 25, 3) := by decide +kernel
theorem dX0_frameToLend_29 : decode cX0_frameToLend 29 = .ok (.iload 4, 2) := by decide +kernel
theorem dX0_frameToLend_31 : decode cX0_frameToLend 31 = .ok (.iaload, 1) := by decide +kernel
theorem dX0_frameToLend_32 : decode cX0_frameToLend 32 = .ok (.iload_n 1, 1) := by decide +kernel
theorem dX0_frameToLend_33 : decode cX0_frameToLend 33 = .ok (.if_icmp .ne 37, 3) := by decide +kernel
theorem dX0_frameToLend_36 : decode cX0_frameToLend 36 = .ok (.aload_n 0, 1) := by decide +kernel
theorem dX0_frameToLend_37 : decode cX0_frameToLend 37 = .ok (.getfield 28, 3) := by decide +kernel
theorem dX0_frameToLend_40 : decode cX0_frameToLend 40 = .ok (.iload 4, 2) := by decide +kernel
theorem dX0_frameToLend_42 : decode cX0_frameToLend 42 = .ok (.iaload, 1) := by decide +kernel
theorem dX0_frameToLend_43 : decode cX0_frameToLend 43 = .ok (.iconst (-1), 1) := by decide +kernel
theorem dX0_frameToLend_44 : decode cX0_frameToLend 44 = .ok (.if_icmp .ne 6, 3) := by decide +kernel
theorem dX0_frameToLend_47 : decode cX0_frameToLend 47 = .ok (.iload 4, 2) := by decide +kernel
theorem dX0_frameToLend_49 : decode cX0_frameToLend 49 = .ok (.ireturn, 1) := by decide +kernel
theorem dX0_frameToLend_50 : decode cX0_frameToLend 50 = .ok (.aload_n 0, 1) := by decide +kernel
theorem dX0_frameToLend_51 : decode cX0_frameToLend 51 = .ok (.iload 4, 2) := by decide +kernel
theorem dX0_frameToLend_53 : decode cX0_frameToLend 53 = .ok (.invokevirtual 156, 3) := by decide +kernel
theorem dX0_frameToLend_56 : decode cX0_frameToLend 56 = .ok (.iload_n 3, 1) := by decide +kernel
theorem dX0_frameToLend_57 : decode cX0_frameToLend 57 = .ok (.if_icmp .le 13, 3) := by decide +kernel
theorem dX0_frameToLend_60 : decode cX0_frameToLend 60 = .ok (.iload 4, 2) := by decide +kernel
theorem dX0_frameToLend_62 : decode cX0_frameToLend 62 = .ok (.istore_n 2, 1) := by decide +kernel
theorem dX0_frameToLend_63 : decode cX0_frameToLend 63 = .ok (.aload_n 0, 1) := by decide +kernel
theorem dX0_frameToLend_64 : decode cX0_frameToLend 64 = .ok (.iload 4, 2) := by decide +kernel
theorem dX0_frameToLend_66 : decode cX0_frameToLend 66 = .ok (.invokevirtual 156, 3) := by decide +kernel
theorem dX0_frameToLend_69 : decode cX0_frameToLend 69 = .ok (.istore_n 3, 1) := by decide +kernel
theorem dX0_frameToLend_70 : decode cX0_frameToLend 70 = .ok (.iinc 4 1, 3) := by decide +kernel
theorem dX0_frameToLend_73 : decode cX0_frameToLend 73 = .ok (.goto (-66), 3) := by decide +kernel
theorem dX0_frameToLend_76 : decode cX0_frameToLend 76 = .ok (.iload_n 2, 1) := by decide +kernel
theorem dX0_frameToLend_77 : decode cX0_frameToLend 77 = .ok (.ireturn, 1) := by decide +kernel
theorem dX0_countBorrowed_0 : decode cX0_countBorrowed 0 = .ok (.iconst 0, 1) := by decide +kernel
theorem dX0_countBorrowed_1 : decode cX0_countBorrowed 1 = .ok (.istore_n 2, 1) := by decide +kernel
theorem dX0_countBorrowed_2 : decode cX0_countBorrowed 2 = .ok (.iconst 0, 1) := by decide +kernel
theorem dX0_countBorrowed_3 : decode cX0_countBorrowed 3 = .ok (.istore_n 3, 1) := by decide +kernel
theorem dX0_countBorrowed_4 : decode cX0_countBorrowed 4 = .ok (.iload_n 3, 1) := by decide +kernel
theorem dX0_countBorrowed_5 : decode cX0_countBorrowed 5 = .ok (.bipush 12, 2) := by decide +kernel
theorem dX0_countBorrowed_7 : decode cX0_countBorrowed 7 = .ok (.if_icmp .ge 32, 3) := by decide +kernel
theorem dX0_countBorrowed_10 : decode cX0_countBorrowed 10 = .ok (.aload_n 0, 1) := by decide +kernel
theorem dX0_countBorrowed_11 : decode cX0_countBorrowed 11 = .ok (.getfield 25, 3) := by decide +kernel
theorem dX0_countBorrowed_14 : decode cX0_countBorrowed 14 = .ok (.iload_n 3, 1) := by decide +kernel
theorem dX0_countBorrowed_15 : decode cX0_countBorrowed 15 = .ok (.iaload, 1) := by decide +kernel
theorem dX0_countBorrowed_16 : decode cX0_countBorrowed 16 = .ok (.iload_n 1, 1) := by decide +kernel
theorem dX0_countBorrowed_17 : decode cX0_countBorrowed 17 = .ok (.if_icmp .ne 16, 3) := by decide +kernel
theorem dX0_countBorrowed_20 : decode cX0_countBorrowed 20 = .ok (.aload_n 0, 1) := by decide +kernel
theorem dX0_countBorrowed_21 : decode cX0_countBorrowed 21 = .ok (.getfield 22, 3) := by decide +kernel
theorem dX0_countBorrowed_24 : decode cX0_countBorrowed 24 = .ok (.iload_n 3, 1) := by decide +kernel
theorem dX0_countBorrowed_25 : decode cX0_countBorrowed 25 = .ok (.iaload, 1) := by decide +kernel
theorem dX0_countBorrowed_26 : decode cX0_countBorrowed 26 = .ok (.iload_n 1, 1) := by decide +kernel
theorem dX0_countBorrowed_27 : decode cX0_countBorrowed 27 = .ok (.if_icmp .eq 6, 3) := by decide +kernel
theorem dX0_countBorrowed_30 : decode cX0_countBorrowed 30 = .ok (.iinc 2 1, 3) := by decide +kernel
theorem dX0_countBorrowed_33 : decode cX0_countBorrowed 33 = .ok (.iinc 3 1, 3) := by decide +kernel
theorem dX0_countBorrowed_36 : decode cX0_countBorrowed 36 = .ok (.goto (-32), 3) := by decide +kernel
theorem dX0_countBorrowed_39 : decode cX0_countBorrowed 39 = .ok (.iload_n 2, 1) := by decide +kernel
theorem dX0_countBorrowed_40 : decode cX0_countBorrowed 40 = .ok (.ireturn, 1) := by decide +kernel
set_option maxRecDepth 20000 in
theorem ggX0_endLoan_X0_isFrame : GoodIn wsX0_endLoan wsX0_isFrame := goodIn_r _ [8] (by decide +kernel) (by decide +kernel)
set_option maxRecDepth 20000 in
theorem gX0_endLoan_X0_isFrame : GoodIn wsX0_endLoan (va_wsS RX0 102 yX0_isFrame wsX0_isFrame) := goodIn_app (goodIn_of _ (by decide +kernel)) ggX0_endLoan_X0_isFrame
set_option maxRecDepth 20000 in
theorem ggX0_endLoan_X0_dropPage : GoodIn wsX0_endLoan wsX0_dropPage := goodIn_r _ [12, 13, 14, 15, 16, 17, 18, 19, 20, 21, 22, 23, 24, 25, 26, 27, 28, 29, 30, 31, 32, 33, 34] (by decide +kernel) (by decide +kernel)
set_option maxRecDepth 20000 in
theorem gX0_endLoan_X0_dropPage : GoodIn wsX0_endLoan (wsV RX0 115 RX0 yX0_dropPage wsX0_dropPage) := goodIn_app (goodIn_of _ (by decide +kernel)) ggX0_endLoan_X0_dropPage
theorem dX0_endLoan_0 : decode cX0_endLoan 0 = .ok (.aload_n 0, 1) := by decide +kernel
theorem dX0_endLoan_1 : decode cX0_endLoan 1 = .ok (.getfield 47, 3) := by decide +kernel
theorem dX0_endLoan_4 : decode cX0_endLoan 4 = .ok (.iload_n 1, 1) := by decide +kernel
theorem dX0_endLoan_5 : decode cX0_endLoan 5 = .ok (.iconst 0, 1) := by decide +kernel
theorem dX0_endLoan_6 : decode cX0_endLoan 6 = .ok (.bastore, 1) := by decide +kernel
theorem dX0_endLoan_7 : decode cX0_endLoan 7 = .ok (.aload_n 0, 1) := by decide +kernel
theorem dX0_endLoan_8 : decode cX0_endLoan 8 = .ok (.getfield 38, 3) := by decide +kernel
theorem dX0_endLoan_11 : decode cX0_endLoan 11 = .ok (.iload_n 1, 1) := by decide +kernel
theorem dX0_endLoan_12 : decode cX0_endLoan 12 = .ok (.iaload, 1) := by decide +kernel
theorem dX0_endLoan_13 : decode cX0_endLoan 13 = .ok (.istore_n 2, 1) := by decide +kernel
theorem dX0_endLoan_14 : decode cX0_endLoan 14 = .ok (.iload_n 2, 1) := by decide +kernel
theorem dX0_endLoan_15 : decode cX0_endLoan 15 = .ok (.invokestatic 102, 3) := by decide +kernel
theorem dX0_endLoan_18 : decode cX0_endLoan 18 = .ok (.ifCond .eq 20, 3) := by decide +kernel
theorem dX0_endLoan_21 : decode cX0_endLoan 21 = .ok (.aload_n 0, 1) := by decide +kernel
theorem dX0_endLoan_22 : decode cX0_endLoan 22 = .ok (.iload_n 2, 1) := by decide +kernel
theorem dX0_endLoan_23 : decode cX0_endLoan 23 = .ok (.invokevirtual 115, 3) := by decide +kernel
theorem dX0_endLoan_26 : decode cX0_endLoan 26 = .ok (.aload_n 0, 1) := by decide +kernel
theorem dX0_endLoan_27 : decode cX0_endLoan 27 = .ok (.getfield 25, 3) := by decide +kernel
theorem dX0_endLoan_30 : decode cX0_endLoan 30 = .ok (.iload_n 2, 1) := by decide +kernel
theorem dX0_endLoan_31 : decode cX0_endLoan 31 = .ok (.aload_n 0, 1) := by decide +kernel
theorem dX0_endLoan_32 : decode cX0_endLoan 32 = .ok (.getfield 22, 3) := by decide +kernel
theorem dX0_endLoan_35 : decode cX0_endLoan 35 = .ok (.iload_n 2, 1) := by decide +kernel
theorem dX0_endLoan_36 : decode cX0_endLoan 36 = .ok (.iaload, 1) := by decide +kernel
theorem dX0_endLoan_37 : decode cX0_endLoan 37 = .ok (.iastore, 1) := by decide +kernel
theorem dX0_endLoan_38 : decode cX0_endLoan 38 = .ok (.return_, 1) := by decide +kernel
set_option maxRecDepth 20000 in
theorem ggX0_passTick_X0_payWages : GoodIn wsX0_passTick wsX0_payWages := goodIn_r _ [6, 7, 8, 9, 82, 83, 84, 85, 86, 87, 88, 89, 90, 91, 92, 93, 94, 95, 96, 97, 98, 99, 100] (by decide +kernel) (by decide +kernel)
set_option maxRecDepth 20000 in
theorem gX0_passTick_X0_payWages : GoodIn wsX0_passTick (wsV RX0 184 RX0 yX0_payWages wsX0_payWages) := goodIn_app (goodIn_of _ (by decide +kernel)) ggX0_passTick_X0_payWages
set_option maxRecDepth 20000 in
theorem ggX0_passTick_X0_chargeLoans : GoodIn wsX0_passTick wsX0_chargeLoans := goodIn_r _ [13, 14, 15, 16, 17, 18, 5, 19, 20, 21, 8, 22, 23, 24, 25, 26, 27, 28, 29, 30, 31, 7, 32, 33, 34, 35, 36, 37, 38, 39, 40, 41, 42, 43, 44, 45, 46, 47, 48, 49, 50, 51, 82, 83, 84, 85, 86, 87, 88, 89, 90, 91, 92, 93, 94, 95, 96, 97, 98, 99, 100] (by decide +kernel) (by decide +kernel)
set_option maxRecDepth 20000 in
theorem gX0_passTick_X0_chargeLoans : GoodIn wsX0_passTick (wsV RX0 187 RX0 yX0_chargeLoans wsX0_chargeLoans) := goodIn_app (goodIn_of _ (by decide +kernel)) ggX0_passTick_X0_chargeLoans
set_option maxRecDepth 20000 in
theorem ggX0_passTick_X0_giveAlms : GoodIn wsX0_passTick wsX0_giveAlms := goodIn_r _ [55, 7, 8, 56, 57, 58, 5, 59, 24, 25, 26, 82, 83, 84, 85, 86, 87, 88, 89, 90, 91, 92, 93, 94, 95, 96, 97, 98, 99, 100] (by decide +kernel) (by decide +kernel)
set_option maxRecDepth 20000 in
theorem gX0_passTick_X0_giveAlms : GoodIn wsX0_passTick (wsV RX0 190 RX0 yX0_giveAlms wsX0_giveAlms) := goodIn_app (goodIn_of _ (by decide +kernel)) ggX0_passTick_X0_giveAlms
set_option maxRecDepth 20000 in
theorem ggX0_passTick_X0_moveDisk : GoodIn wsX0_passTick wsX0_moveDisk := goodIn_r _ [63, 45, 64, 65, 66, 67, 5, 68, 69, 70, 71, 72, 32, 33, 34, 35, 36, 37, 38, 39, 40, 73, 74, 75, 76, 31, 77, 78, 79, 80, 81, 1, 7, 24, 25, 26, 82, 83, 84, 85, 86, 87, 88, 89, 90, 91, 92, 93, 94, 95, 96, 97, 98, 99, 100] (by decide +kernel) (by decide +kernel)
set_option maxRecDepth 20000 in
theorem gX0_passTick_X0_moveDisk : GoodIn wsX0_passTick (wsV RX0 193 RX0 yX0_moveDisk wsX0_moveDisk) := goodIn_app (goodIn_of _ (by decide +kernel)) ggX0_passTick_X0_moveDisk
theorem dX0_passTick_0 : decode cX0_passTick 0 = .ok (.aload_n 0, 1) := by decide +kernel
theorem dX0_passTick_1 : decode cX0_passTick 1 = .ok (.invokevirtual 184, 3) := by decide +kernel
theorem dX0_passTick_4 : decode cX0_passTick 4 = .ok (.aload_n 0, 1) := by decide +kernel
theorem dX0_passTick_5 : decode cX0_passTick 5 = .ok (.invokevirtual 187, 3) := by decide +kernel
theorem dX0_passTick_8 : decode cX0_passTick 8 = .ok (.aload_n 0, 1) := by decide +kernel
theorem dX0_passTick_9 : decode cX0_passTick 9 = .ok (.invokevirtual 190, 3) := by decide +kernel
theorem dX0_passTick_12 : decode cX0_passTick 12 = .ok (.aload_n 0, 1) := by decide +kernel
theorem dX0_passTick_13 : decode cX0_passTick 13 = .ok (.invokevirtual 193, 3) := by decide +kernel
theorem dX0_passTick_16 : decode cX0_passTick 16 = .ok (.aload_n 0, 1) := by decide +kernel
theorem dX0_passTick_17 : decode cX0_passTick 17 = .ok (.dup, 1) := by decide +kernel
theorem dX0_passTick_18 : decode cX0_passTick 18 = .ok (.getfield 60, 3) := by decide +kernel
theorem dX0_passTick_21 : decode cX0_passTick 21 = .ok (.iconst 1, 1) := by decide +kernel
theorem dX0_passTick_22 : decode cX0_passTick 22 = .ok (.iadd, 1) := by decide +kernel
theorem dX0_passTick_23 : decode cX0_passTick 23 = .ok (.putfield 60, 3) := by decide +kernel
theorem dX0_passTick_26 : decode cX0_passTick 26 = .ok (.return_, 1) := by decide +kernel
theorem dX0_payWages_0 : decode cX0_payWages 0 = .ok (.iconst 0, 1) := by decide +kernel
theorem dX0_payWages_1 : decode cX0_payWages 1 = .ok (.istore_n 1, 1) := by decide +kernel
theorem dX0_payWages_2 : decode cX0_payWages 2 = .ok (.iload_n 1, 1) := by decide +kernel
theorem dX0_payWages_3 : decode cX0_payWages 3 = .ok (.iconst 5, 1) := by decide +kernel
theorem dX0_payWages_4 : decode cX0_payWages 4 = .ok (.if_icmp .ge 34, 3) := by decide +kernel
theorem dX0_payWages_7 : decode cX0_payWages 7 = .ok (.aload_n 0, 1) := by decide +kernel
theorem dX0_payWages_8 : decode cX0_payWages 8 = .ok (.getfield 16, 3) := by decide +kernel
theorem dX0_payWages_11 : decode cX0_payWages 11 = .ok (.iload_n 1, 1) := by decide +kernel
theorem dX0_payWages_12 : decode cX0_payWages 12 = .ok (.iaload, 1) := by decide +kernel
theorem dX0_payWages_13 : decode cX0_payWages 13 = .ok (.iconst 2, 1) := by decide +kernel
theorem dX0_payWages_14 : decode cX0_payWages 14 = .ok (.if_icmp .eq 18, 3) := by decide +kernel
theorem dX0_payWages_17 : decode cX0_payWages 17 = .ok (.aload_n 0, 1) := by decide +kernel
theorem dX0_payWages_18 : decode cX0_payWages 18 = .ok (.getfield 13, 3) := by decide +kernel
theorem dX0_payWages_21 : decode cX0_payWages 21 = .ok (.iload_n 1, 1) := by decide +kernel
theorem dX0_payWages_22 : decode cX0_payWages 22 = .ok (.dup2, 1) := by decide +kernel
theorem dX0_payWages_23 : decode cX0_payWages 23 = .ok (.iaload, 1) := by decide +kernel
theorem dX0_payWages_24 : decode cX0_payWages 24 = .ok (.aload_n 0, 1) := by decide +kernel
theorem dX0_payWages_25 : decode cX0_payWages 25 = .ok (.getfield 9, 3) := by decide +kernel
theorem dX0_payWages_28 : decode cX0_payWages 28 = .ok (.iload_n 1, 1) := by decide +kernel
theorem dX0_payWages_29 : decode cX0_payWages 29 = .ok (.iaload, 1) := by decide +kernel
theorem dX0_payWages_30 : decode cX0_payWages 30 = .ok (.iadd, 1) := by decide +kernel
theorem dX0_payWages_31 : decode cX0_payWages 31 = .ok (.iastore, 1) := by decide +kernel
theorem dX0_payWages_32 : decode cX0_payWages 32 = .ok (.iinc 1 1, 3) := by decide +kernel
theorem dX0_payWages_35 : decode cX0_payWages 35 = .ok (.goto (-33), 3) := by decide +kernel
theorem dX0_payWages_38 : decode cX0_payWages 38 = .ok (.return_, 1) := by decide +kernel
set_option maxRecDepth 20000 in
theorem ggX0_chargeLoans_X0_charge : GoodIn wsX0_chargeLoans wsX0_charge := goodIn_r _ [7, 8, 9, 10, 11, 12, 13, 14, 6, 15, 16, 17, 18, 19, 20, 1, 2, 21, 22, 23, 24, 25, 26, 27, 28, 29, 30, 31, 32, 33, 34, 35, 36, 37, 38, 39, 40, 41, 42, 43, 44, 45, 46, 47, 48, 49, 50, 51, 52, 53, 54, 55, 56, 57, 58, 59, 60] (by decide +kernel) (by decide +kernel)
set_option maxRecDepth 20000 in
theorem gX0_chargeLoans_X0_charge : GoodIn wsX0_chargeLoans (wsV RX0 196 RX0 yX0_charge wsX0_charge) := goodIn_app (goodIn_of _ (by decide +kernel)) ggX0_chargeLoans_X0_charge
theorem dX0_chargeLoans_0 : decode cX0_chargeLoans 0 = .ok (.iconst 0, 1) := by decide +kernel
theorem dX0_chargeLoans_1 : decode cX0_chargeLoans 1 = .ok (.istore_n 1, 1) := by decide +kernel
theorem dX0_chargeLoans_2 : decode cX0_chargeLoans 2 = .ok (.iload_n 1, 1) := by decide +kernel
theorem dX0_chargeLoans_3 : decode cX0_chargeLoans 3 = .ok (.bipush 60, 2) := by decide +kernel
theorem dX0_chargeLoans_5 : decode cX0_chargeLoans 5 = .ok (.if_icmp .ge 31, 3) := by decide +kernel
theorem dX0_chargeLoans_8 : decode cX0_chargeLoans 8 = .ok (.iload_n 1, 1) := by decide +kernel
theorem dX0_chargeLoans_9 : decode cX0_chargeLoans 9 = .ok (.aload_n 0, 1) := by decide +kernel
theorem dX0_chargeLoans_10 : decode cX0_chargeLoans 10 = .ok (.getfield 53, 3) := by decide +kernel
theorem dX0_chargeLoans_13 : decode cX0_chargeLoans 13 = .ok (.if_icmp .ge 23, 3) := by decide +kernel
theorem dX0_chargeLoans_16 : decode cX0_chargeLoans 16 = .ok (.aload_n 0, 1) := by decide +kernel
theorem dX0_chargeLoans_17 : decode cX0_chargeLoans 17 = .ok (.getfield 47, 3) := by decide +kernel
theorem dX0_chargeLoans_20 : decode cX0_chargeLoans 20 = .ok (.iload_n 1, 1) := by decide +kernel
theorem dX0_chargeLoans_21 : decode cX0_chargeLoans 21 = .ok (.baload, 1) := by decide +kernel
theorem dX0_chargeLoans_22 : decode cX0_chargeLoans 22 = .ok (.ifCond .eq 8, 3) := by decide +kernel
theorem dX0_chargeLoans_25 : decode cX0_chargeLoans 25 = .ok (.aload_n 0, 1) := by decide +kernel
theorem dX0_chargeLoans_26 : decode cX0_chargeLoans 26 = .ok (.iload_n 1, 1) := by decide +kernel
theorem dX0_chargeLoans_27 : decode cX0_chargeLoans 27 = .ok (.invokevirtual 196, 3) := by decide +kernel
theorem dX0_chargeLoans_30 : decode cX0_chargeLoans 30 = .ok (.iinc 1 1, 3) := by decide +kernel
theorem dX0_chargeLoans_33 : decode cX0_chargeLoans 33 = .ok (.goto (-31), 3) := by decide +kernel
theorem dX0_chargeLoans_36 : decode cX0_chargeLoans 36 = .ok (.return_, 1) := by decide +kernel
set_option maxRecDepth 20000 in
theorem ggX0_charge_X0_isProcess : GoodIn wsX0_charge wsX0_isProcess := goodIn_r _ [9] (by decide +kernel) (by decide +kernel)
set_option maxRecDepth 20000 in
theorem gX0_charge_X0_isProcess : GoodIn wsX0_charge (va_wsS RX0 75 yX0_isProcess wsX0_isProcess) := goodIn_app (goodIn_of _ (by decide +kernel)) ggX0_charge_X0_isProcess
set_option maxRecDepth 20000 in
theorem ggX0_charge_X0_putToSleep : GoodIn wsX0_charge wsX0_putToSleep := goodIn_r _ [13, 14, 15, 16, 1, 17, 18, 19, 20, 8, 21, 22, 23, 24, 25, 26, 27, 28, 29, 30, 31, 32, 33, 34, 35, 36, 37, 38, 39, 40, 41, 42, 43, 44, 45, 46, 47, 48, 49, 50, 51, 52, 53, 54, 55, 56] (by decide +kernel) (by decide +kernel)
set_option maxRecDepth 20000 in
theorem gX0_charge_X0_putToSleep : GoodIn wsX0_charge (wsV RX0 199 RX0 yX0_putToSleep wsX0_putToSleep) := goodIn_app (goodIn_of _ (by decide +kernel)) ggX0_charge_X0_putToSleep
theorem dX0_charge_0 : decode cX0_charge 0 = .ok (.aload_n 0, 1) := by decide +kernel
theorem dX0_charge_1 : decode cX0_charge 1 = .ok (.getfield 44, 3) := by decide +kernel
theorem dX0_charge_4 : decode cX0_charge 4 = .ok (.iload_n 1, 1) := by decide +kernel
theorem dX0_charge_5 : decode cX0_charge 5 = .ok (.iaload, 1) := by decide +kernel
theorem dX0_charge_6 : decode cX0_charge 6 = .ok (.istore_n 2, 1) := by decide +kernel
theorem dX0_charge_7 : decode cX0_charge 7 = .ok (.aload_n 0, 1) := by decide +kernel
theorem dX0_charge_8 : decode cX0_charge 8 = .ok (.getfield 41, 3) := by decide +kernel
theorem dX0_charge_11 : decode cX0_charge 11 = .ok (.iload_n 1, 1) := by decide +kernel
theorem dX0_charge_12 : decode cX0_charge 12 = .ok (.iaload, 1) := by decide +kernel
theorem dX0_charge_13 : decode cX0_charge 13 = .ok (.istore_n 3, 1) := by decide +kernel
theorem dX0_charge_14 : decode cX0_charge 14 = .ok (.iload_n 2, 1) := by decide +kernel
theorem dX0_charge_15 : decode cX0_charge 15 = .ok (.invokestatic 75, 3) := by decide +kernel
theorem dX0_charge_18 : decode cX0_charge 18 = .ok (.ifCond .eq 10, 3) := by decide +kernel
theorem dX0_charge_21 : decode cX0_charge 21 = .ok (.iload_n 3, 1) := by decide +kernel
theorem dX0_charge_22 : decode cX0_charge 22 = .ok (.invokestatic 75, 3) := by decide +kernel
theorem dX0_charge_25 : decode cX0_charge 25 = .ok (.ifCond .ne 4, 3) := by decide +kernel
theorem dX0_charge_28 : decode cX0_charge 28 = .ok (.return_, 1) := by decide +kernel
theorem dX0_charge_29 : decode cX0_charge 29 = .ok (.aload_n 0, 1) := by decide +kernel
theorem dX0_charge_30 : decode cX0_charge 30 = .ok (.getfield 13, 3) := by decide +kernel
theorem dX0_charge_33 : decode cX0_charge 33 = .ok (.iload_n 2, 1) := by decide +kernel
theorem dX0_charge_34 : decode cX0_charge 34 = .ok (.iaload, 1) := by decide +kernel
theorem dX0_charge_35 : decode cX0_charge 35 = .ok (.aload_n 0, 1) := by decide +kernel
theorem dX0_charge_36 : decode cX0_charge 36 = .ok (.getfield 57, 3) := by decide +kernel
theorem dX0_charge_39 : decode cX0_charge 39 = .ok (.if_icmp .ge 9, 3) := by decide +kernel
theorem dX0_charge_42 : decode cX0_charge 42 = .ok (.aload_n 0, 1) := by decide +kernel
theorem dX0_charge_43 : decode cX0_charge 43 = .ok (.iload_n 2, 1) := by decide +kernel
theorem dX0_charge_44 : decode cX0_charge 44 = .ok (.invokevirtual 199, 3) := by decide +kernel
theorem dX0_charge_47 : decode cX0_charge 47 = .ok (.return_, 1) := by decide +kernel
theorem dX0_charge_48 : decode cX0_charge 48 = .ok (.aload_n 0, 1) := by decide +kernel
theorem dX0_charge_49 : decode cX0_charge 49 = .ok (.getfield 13, 3) := by decide +kernel
theorem dX0_charge_52 : decode cX0_charge 52 = .ok (.iload_n 2, 1) := by decide +kernel
theorem dX0_charge_53 : decode cX0_charge 53 = .ok (.dup2, 1) := by decide +kernel
theorem dX0_charge_54 : decode cX0_charge 54 = .ok (.iaload, 1) := by decide +kernel
theorem dX0_charge_55 : decode cX0_charge 55 = .ok (.aload_n 0, 1) := by decide +kernel
theorem dX0_charge_56 : decode cX0_charge 56 = .ok (.getfield 57, 3) := by decide +kernel
theorem dX0_charge_59 : decode cX0_charge 59 = .ok (.isub, 1) := by decide +kernel
theorem dX0_charge_60 : decode cX0_charge 60 = .ok (.iastore, 1) := by decide +kernel
theorem dX0_charge_61 : decode cX0_charge 61 = .ok (.aload_n 0, 1) := by decide +kernel
theorem dX0_charge_62 : decode cX0_charge 62 = .ok (.getfield 13, 3) := by decide +kernel
theorem dX0_charge_65 : decode cX0_charge 65 = .ok (.iload_n 3, 1) := by decide +kernel
theorem dX0_charge_66 : decode cX0_charge 66 = .ok (.dup2, 1) := by decide +kernel
theorem dX0_charge_67 : decode cX0_charge 67 = .ok (.iaload, 1) := by decide +kernel
theorem dX0_charge_68 : decode cX0_charge 68 = .ok (.aload_n 0, 1) := by decide +kernel
theorem dX0_charge_69 : decode cX0_charge 69 = .ok (.getfield 57, 3) := by decide +kernel
theorem dX0_charge_72 : decode cX0_charge 72 = .ok (.iadd, 1) := by decide +kernel
theorem dX0_charge_73 : decode cX0_charge 73 = .ok (.iastore, 1) := by decide +kernel
theorem dX0_charge_74 : decode cX0_charge 74 = .ok (.aload_n 0, 1) := by decide +kernel
theorem dX0_charge_75 : decode cX0_charge 75 = .ok (.getfield 50, 3) := by decide +kernel
theorem dX0_charge_78 : decode cX0_charge 78 = .ok (.iload_n 1, 1) := by decide +kernel
theorem dX0_charge_79 : decode cX0_charge 79 = .ok (.dup2, 1) := by decide +kernel
theorem dX0_charge_80 : decode cX0_charge 80 = .ok (.iaload, 1) := by decide +kernel
theorem dX0_charge_81 : decode cX0_charge 81 = .ok (.aload_n 0, 1) := by decide +kernel
theorem dX0_charge_82 : decode cX0_charge 82 = .ok (.getfield 57, 3) := by decide +kernel
theorem dX0_charge_85 : decode cX0_charge 85 = .ok (.iadd, 1) := by decide +kernel
theorem dX0_charge_86 : decode cX0_charge 86 = .ok (.iastore, 1) := by decide +kernel
theorem dX0_charge_87 : decode cX0_charge 87 = .ok (.return_, 1) := by decide +kernel
set_option maxRecDepth 20000 in
theorem ggX0_putToSleep_X0_isComing : GoodIn wsX0_putToSleep wsX0_isComing := goodIn_r _ [10, 11, 12, 13, 14, 9, 15, 27, 28, 29, 30, 31, 32, 33, 34, 35, 36, 37, 38, 39, 40, 41, 42, 43, 44, 45] (by decide +kernel) (by decide +kernel)
set_option maxRecDepth 20000 in
theorem gX0_putToSleep_X0_isComing : GoodIn wsX0_putToSleep (wsV RX0 140 RX0 yX0_isComing wsX0_isComing) := goodIn_app (goodIn_of _ (by decide +kernel)) ggX0_putToSleep_X0_isComing
set_option maxRecDepth 20000 in
theorem ggX0_putToSleep_X0_dropPage : GoodIn wsX0_putToSleep wsX0_dropPage := goodIn_r _ [19, 11, 12, 20, 27, 28, 29, 30, 31, 32, 33, 34, 35, 36, 37, 38, 39, 40, 41, 42, 43, 44, 45] (by decide +kernel) (by decide +kernel)
set_option maxRecDepth 20000 in
theorem gX0_putToSleep_X0_dropPage : GoodIn wsX0_putToSleep (wsV RX0 115 RX0 yX0_dropPage wsX0_dropPage) := goodIn_app (goodIn_of _ (by decide +kernel)) ggX0_putToSleep_X0_dropPage
set_option maxRecDepth 20000 in
theorem ggX0_putToSleep_X0_endLoan : GoodIn wsX0_putToSleep wsX0_endLoan := goodIn_r _ [24, 3, 25, 1, 26, 13, 14, 9, 15, 16, 17, 18, 19, 11, 12, 20, 27, 28, 29, 30, 31, 32, 33, 34, 35, 36, 37, 38, 39, 40, 41, 42, 43, 44, 45] (by decide +kernel) (by decide +kernel)
set_option maxRecDepth 20000 in
theorem gX0_putToSleep_X0_endLoan : GoodIn wsX0_putToSleep (wsV RX0 145 RX0 yX0_endLoan wsX0_endLoan) := goodIn_app (goodIn_of _ (by decide +kernel)) ggX0_putToSleep_X0_endLoan
theorem dX0_putToSleep_0 : decode cX0_putToSleep 0 = .ok (.iconst 0, 1) := by decide +kernel
theorem dX0_putToSleep_1 : decode cX0_putToSleep 1 = .ok (.istore_n 2, 1) := by decide +kernel
theorem dX0_putToSleep_2 : decode cX0_putToSleep 2 = .ok (.iload_n 2, 1) := by decide +kernel
theorem dX0_putToSleep_3 : decode cX0_putToSleep 3 = .ok (.bipush 12, 2) := by decide +kernel
theorem dX0_putToSleep_5 : decode cX0_putToSleep 5 = .ok (.if_icmp .ge 32, 3) := by decide +kernel
theorem dX0_putToSleep_8 : decode cX0_putToSleep 8 = .ok (.aload_n 0, 1) := by decide +kernel
theorem dX0_putToSleep_9 : decode cX0_putToSleep 9 = .ok (.getfield 25, 3) := by decide +kernel
theorem dX0_putToSleep_12 : decode cX0_putToSleep 12 = .ok (.iload_n 2, 1) := by decide +kernel
theorem dX0_putToSleep_13 : decode cX0_putToSleep 13 = .ok (.iaload, 1) := by decide +kernel
theorem dX0_putToSleep_14 : decode cX0_putToSleep 14 = .ok (.iload_n 1, 1) := by decide +kernel
theorem dX0_putToSleep_15 : decode cX0_putToSleep 15 = .ok (.if_icmp .ne 16, 3) := by decide +kernel
theorem dX0_putToSleep_18 : decode cX0_putToSleep 18 = .ok (.aload_n 0, 1) := by decide +kernel
theorem dX0_putToSleep_19 : decode cX0_putToSleep 19 = .ok (.iload_n 2, 1) := by decide +kernel
theorem dX0_putToSleep_20 : decode cX0_putToSleep 20 = .ok (.invokevirtual 140, 3) := by decide +kernel
theorem dX0_putToSleep_23 : decode cX0_putToSleep 23 = .ok (.ifCond .eq 8, 3) := by decide +kernel
theorem dX0_putToSleep_26 : decode cX0_putToSleep 26 = .ok (.aload_n 0, 1) := by decide +kernel
theorem dX0_putToSleep_27 : decode cX0_putToSleep 27 = .ok (.iload_n 2, 1) := by decide +kernel
theorem dX0_putToSleep_28 : decode cX0_putToSleep 28 = .ok (.invokevirtual 115, 3) := by decide +kernel
theorem dX0_putToSleep_31 : decode cX0_putToSleep 31 = .ok (.iinc 2 1, 3) := by decide +kernel
theorem dX0_putToSleep_34 : decode cX0_putToSleep 34 = .ok (.goto (-32), 3) := by decide +kernel
theorem dX0_putToSleep_37 : decode cX0_putToSleep 37 = .ok (.iconst 0, 1) := by decide +kernel
theorem dX0_putToSleep_38 : decode cX0_putToSleep 38 = .ok (.istore_n 2, 1) := by decide +kernel
theorem dX0_putToSleep_39 : decode cX0_putToSleep 39 = .ok (.iload_n 2, 1) := by decide +kernel
theorem dX0_putToSleep_40 : decode cX0_putToSleep 40 = .ok (.bipush 60, 2) := by decide +kernel
theorem dX0_putToSleep_42 : decode cX0_putToSleep 42 = .ok (.if_icmp .ge 41, 3) := by decide +kernel
theorem dX0_putToSleep_45 : decode cX0_putToSleep 45 = .ok (.iload_n 2, 1) := by decide +kernel
theorem dX0_putToSleep_46 : decode cX0_putToSleep 46 = .ok (.aload_n 0, 1) := by decide +kernel
theorem dX0_putToSleep_47 : decode cX0_putToSleep 47 = .ok (.getfield 53, 3) := by decide +kernel
theorem dX0_putToSleep_50 : decode cX0_putToSleep 50 = .ok (.if_icmp .ge 33, 3) := by decide +kernel
theorem dX0_putToSleep_53 : decode cX0_putToSleep 53 = .ok (.aload_n 0, 1) := by decide +kernel
theorem dX0_putToSleep_54 : decode cX0_putToSleep 54 = .ok (.getfield 47, 3) := by decide +kernel
theorem dX0_putToSleep_57 : decode cX0_putToSleep 57 = .ok (.iload_n 2, 1) := by decide +kernel
theorem dX0_putToSleep_58 : decode cX0_putToSleep 58 = .ok (.baload, 1) := by decide +kernel
theorem dX0_putToSleep_59 : decode cX0_putToSleep 59 = .ok (.ifCond .eq 18, 3) := by decide +kernel
theorem dX0_putToSleep_62 : decode cX0_putToSleep 62 = .ok (.aload_n 0, 1) := by decide +kernel
theorem dX0_putToSleep_63 : decode cX0_putToSleep 63 = .ok (.getfield 44, 3) := by decide +kernel
theorem dX0_putToSleep_66 : decode cX0_putToSleep 66 = .ok (.iload_n 2, 1) := by decide +kernel
theorem dX0_putToSleep_67 : decode cX0_putToSleep 67 = .ok (.iaload, 1) := by decide +kernel
theorem dX0_putToSleep_68 : decode cX0_putToSleep 68 = .ok (.iload_n 1, 1) := by decide +kernel
theorem dX0_putToSleep_69 : decode cX0_putToSleep 69 = .ok (.if_icmp .ne 8, 3) := by decide +kernel
theorem dX0_putToSleep_72 : decode cX0_putToSleep 72 = .ok (.aload_n 0, 1) := by decide +kernel
theorem dX0_putToSleep_73 : decode cX0_putToSleep 73 = .ok (.iload_n 2, 1) := by decide +kernel
theorem dX0_putToSleep_74 : decode cX0_putToSleep 74 = .ok (.invokevirtual 145, 3) := by decide +kernel
theorem dX0_putToSleep_77 : decode cX0_putToSleep 77 = .ok (.iinc 2 1, 3) := by decide +kernel
theorem dX0_putToSleep_80 : decode cX0_putToSleep 80 = .ok (.goto (-41), 3) := by decide +kernel
theorem dX0_putToSleep_83 : decode cX0_putToSleep 83 = .ok (.aload_n 0, 1) := by decide +kernel
theorem dX0_putToSleep_84 : decode cX0_putToSleep 84 = .ok (.getfield 16, 3) := by decide +kernel
theorem dX0_putToSleep_87 : decode cX0_putToSleep 87 = .ok (.iload_n 1, 1) := by decide +kernel
theorem dX0_putToSleep_88 : decode cX0_putToSleep 88 = .ok (.iconst 2, 1) := by decide +kernel
theorem dX0_putToSleep_89 : decode cX0_putToSleep 89 = .ok (.iastore, 1) := by decide +kernel
theorem dX0_putToSleep_90 : decode cX0_putToSleep 90 = .ok (.return_, 1) := by decide +kernel
set_option maxRecDepth 20000 in
theorem ggX0_giveAlms_X0_richestGiver : GoodIn wsX0_giveAlms wsX0_richestGiver := goodIn_r _ [7, 1, 2, 11, 12, 13, 14, 15, 16, 17, 18, 19, 20, 21, 22, 23, 24, 25, 26, 27, 28, 29] (by decide +kernel) (by decide +kernel)
set_option maxRecDepth 20000 in
theorem gX0_giveAlms_X0_richestGiver : GoodIn wsX0_giveAlms (wsV RX0 202 RX0 yX0_richestGiver wsX0_richestGiver) := goodIn_app (goodIn_of _ (by decide +kernel)) ggX0_giveAlms_X0_richestGiver
set_option maxRecDepth 20000 in
theorem ggX0_giveAlms_X0_isProcess : GoodIn wsX0_giveAlms wsX0_isProcess := goodIn_r _ [10] (by decide +kernel) (by decide +kernel)
set_option maxRecDepth 20000 in
theorem gX0_giveAlms_X0_isProcess : GoodIn wsX0_giveAlms (va_wsS RX0 75 yX0_isProcess wsX0_isProcess) := goodIn_app (goodIn_of _ (by decide +kernel)) ggX0_giveAlms_X0_isProcess
theorem dX0_giveAlms_0 : decode cX0_giveAlms 0 = .ok (.iconst 0, 1) := by decide +kernel
theorem dX0_giveAlms_1 : decode cX0_giveAlms 1 = .ok (.istore_n 1, 1) := by decide +kernel
theorem dX0_giveAlms_2 : decode cX0_giveAlms 2 = .ok (.iload_n 1, 1) := by decide +kernel
theorem dX0_giveAlms_3 : decode cX0_giveAlms 3 = .ok (.iconst 5, 1) := by decide +kernel
theorem dX0_giveAlms_4 : decode cX0_giveAlms 4 = .ok (.if_icmp .ge 68, 3) := by decide +kernel
theorem dX0_giveAlms_7 : decode cX0_giveAlms 7 = .ok (.aload_n 0, 1) := by decide +kernel
theorem dX0_giveAlms_8 : decode cX0_giveAlms 8 = .ok (.getfield 16, 3) := by decide +kernel
theorem dX0_giveAlms_11 : decode cX0_giveAlms 11 = .ok (.iload_n 1, 1) := by decide +kernel
theorem dX0_giveAlms_12 : decode cX0_giveAlms 12 = .ok (.iaload, 1) := by decide +kernel
theorem dX0_giveAlms_13 : decode cX0_giveAlms 13 = .ok (.iconst 2, 1) := by decide +kernel
theorem dX0_giveAlms_14 : decode cX0_giveAlms 14 = .ok (.if_icmp .ne 52, 3) := by decide +kernel
theorem dX0_giveAlms_17 : decode cX0_giveAlms 17 = .ok (.aload_n 0, 1) := by decide +kernel
theorem dX0_giveAlms_18 : decode cX0_giveAlms 18 = .ok (.invokevirtual 202, 3) := by decide +kernel
theorem dX0_giveAlms_21 : decode cX0_giveAlms 21 = .ok (.istore_n 2, 1) := by decide +kernel
theorem dX0_giveAlms_22 : decode cX0_giveAlms 22 = .ok (.iload_n 2, 1) := by decide +kernel
theorem dX0_giveAlms_23 : decode cX0_giveAlms 23 = .ok (.invokestatic 75, 3) := by decide +kernel
theorem dX0_giveAlms_26 : decode cX0_giveAlms 26 = .ok (.ifCond .eq 23, 3) := by decide +kernel
theorem dX0_giveAlms_29 : decode cX0_giveAlms 29 = .ok (.aload_n 0, 1) := by decide +kernel
theorem dX0_giveAlms_30 : decode cX0_giveAlms 30 = .ok (.getfield 13, 3) := by decide +kernel
theorem dX0_giveAlms_33 : decode cX0_giveAlms 33 = .ok (.iload_n 2, 1) := by decide +kernel
theorem dX0_giveAlms_34 : decode cX0_giveAlms 34 = .ok (.dup2, 1) := by decide +kernel
theorem dX0_giveAlms_35 : decode cX0_giveAlms 35 = .ok (.iaload, 1) := by decide +kernel
theorem dX0_giveAlms_36 : decode cX0_giveAlms 36 = .ok (.iconst 1, 1) := by decide +kernel
theorem dX0_giveAlms_37 : decode cX0_giveAlms 37 = .ok (.isub, 1) := by decide +kernel
theorem dX0_giveAlms_38 : decode cX0_giveAlms 38 = .ok (.iastore, 1) := by decide +kernel
theorem dX0_giveAlms_39 : decode cX0_giveAlms 39 = .ok (.aload_n 0, 1) := by decide +kernel
theorem dX0_giveAlms_40 : decode cX0_giveAlms 40 = .ok (.getfield 13, 3) := by decide +kernel
theorem dX0_giveAlms_43 : decode cX0_giveAlms 43 = .ok (.iload_n 1, 1) := by decide +kernel
theorem dX0_giveAlms_44 : decode cX0_giveAlms 44 = .ok (.dup2, 1) := by decide +kernel
theorem dX0_giveAlms_45 : decode cX0_giveAlms 45 = .ok (.iaload, 1) := by decide +kernel
theorem dX0_giveAlms_46 : decode cX0_giveAlms 46 = .ok (.iconst 1, 1) := by decide +kernel
theorem dX0_giveAlms_47 : decode cX0_giveAlms 47 = .ok (.iadd, 1) := by decide +kernel
theorem dX0_giveAlms_48 : decode cX0_giveAlms 48 = .ok (.iastore, 1) := by decide +kernel
theorem dX0_giveAlms_49 : decode cX0_giveAlms 49 = .ok (.aload_n 0, 1) := by decide +kernel
theorem dX0_giveAlms_50 : decode cX0_giveAlms 50 = .ok (.getfield 13, 3) := by decide +kernel
theorem dX0_giveAlms_53 : decode cX0_giveAlms 53 = .ok (.iload_n 1, 1) := by decide +kernel
theorem dX0_giveAlms_54 : decode cX0_giveAlms 54 = .ok (.iaload, 1) := by decide +kernel
theorem dX0_giveAlms_55 : decode cX0_giveAlms 55 = .ok (.iconst 5, 1) := by decide +kernel
theorem dX0_giveAlms_56 : decode cX0_giveAlms 56 = .ok (.if_icmp .lt 10, 3) := by decide +kernel
theorem dX0_giveAlms_59 : decode cX0_giveAlms 59 = .ok (.aload_n 0, 1) := by decide +kernel
theorem dX0_giveAlms_60 : decode cX0_giveAlms 60 = .ok (.getfield 16, 3) := by decide +kernel
theorem dX0_giveAlms_63 : decode cX0_giveAlms 63 = .ok (.iload_n 1, 1) := by decide +kernel
theorem dX0_giveAlms_64 : decode cX0_giveAlms 64 = .ok (.iconst 0, 1) := by decide +kernel
theorem dX0_giveAlms_65 : decode cX0_giveAlms 65 = .ok (.iastore, 1) := by decide +kernel
theorem dX0_giveAlms_66 : decode cX0_giveAlms 66 = .ok (.iinc 1 1, 3) := by decide +kernel
theorem dX0_giveAlms_69 : decode cX0_giveAlms 69 = .ok (.goto (-67), 3) := by decide +kernel
theorem dX0_giveAlms_72 : decode cX0_giveAlms 72 = .ok (.return_, 1) := by decide +kernel
theorem dX0_richestGiver_0 : decode cX0_richestGiver 0 = .ok (.iconst (-1), 1) := by decide +kernel
theorem dX0_richestGiver_1 : decode cX0_richestGiver 1 = .ok (.istore_n 1, 1) := by decide +kernel
theorem dX0_richestGiver_2 : decode cX0_richestGiver 2 = .ok (.bipush 19, 2) := by decide +kernel
theorem dX0_richestGiver_4 : decode cX0_richestGiver 4 = .ok (.istore_n 2, 1) := by decide +kernel
theorem dX0_richestGiver_5 : decode cX0_richestGiver 5 = .ok (.iconst 0, 1) := by decide +kernel
theorem dX0_richestGiver_6 : decode cX0_richestGiver 6 = .ok (.istore_n 3, 1) := by decide +kernel
theorem dX0_richestGiver_7 : decode cX0_richestGiver 7 = .ok (.iload_n 3, 1) := by decide +kernel
theorem dX0_richestGiver_8 : decode cX0_richestGiver 8 = .ok (.iconst 5, 1) := by decide +kernel
theorem dX0_richestGiver_9 : decode cX0_richestGiver 9 = .ok (.if_icmp .ge 38, 3) := by decide +kernel
theorem dX0_richestGiver_12 : decode cX0_richestGiver 12 = .ok (.aload_n 0, 1) := by decide +kernel
theorem dX0_richestGiver_13 : decode cX0_richestGiver 13 = .ok (.getfield 16, 3) := by decide +kernel
theorem dX0_richestGiver_16 : decode cX0_richestGiver 16 = .ok (.iload_n 3, 1) := by decide +kernel
theorem dX0_richestGiver_17 : decode cX0_richestGiver 17 = .ok (.iaload, 1) := by decide +kernel
theorem dX0_richestGiver_18 : decode cX0_richestGiver 18 = .ok (.iconst 2, 1) := by decide +kernel
theorem dX0_richestGiver_19 : decode cX0_richestGiver 19 = .ok (.if_icmp .eq 22, 3) := by decide +kernel
theorem dX0_richestGiver_22 : decode cX0_richestGiver 22 = .ok (.aload_n 0, 1) := by decide +kernel
theorem dX0_richestGiver_23 : decode cX0_richestGiver 23 = .ok (.getfield 13, 3) := by decide +kernel
theorem dX0_richestGiver_26 : decode cX0_richestGiver 26 = .ok (.iload_n 3, 1) := by decide +kernel
theorem dX0_richestGiver_27 : decode cX0_richestGiver 27 = .ok (.iaload, 1) := by decide +kernel
theorem dX0_richestGiver_28 : decode cX0_richestGiver 28 = .ok (.iload_n 2, 1) := by decide +kernel
theorem dX0_richestGiver_29 : decode cX0_richestGiver 29 = .ok (.if_icmp .le 12, 3) := by decide +kernel
theorem dX0_richestGiver_32 : decode cX0_richestGiver 32 = .ok (.iload_n 3, 1) := by decide +kernel
theorem dX0_richestGiver_33 : decode cX0_richestGiver 33 = .ok (.istore_n 1, 1) := by decide +kernel
theorem dX0_richestGiver_34 : decode cX0_richestGiver 34 = .ok (.aload_n 0, 1) := by decide +kernel
theorem dX0_richestGiver_35 : decode cX0_richestGiver 35 = .ok (.getfield 13, 3) := by decide +kernel
theorem dX0_richestGiver_38 : decode cX0_richestGiver 38 = .ok (.iload_n 3, 1) := by decide +kernel
theorem dX0_richestGiver_39 : decode cX0_richestGiver 39 = .ok (.iaload, 1) := by decide +kernel
theorem dX0_richestGiver_40 : decode cX0_richestGiver 40 = .ok (.istore_n 2, 1) := by decide +kernel
theorem dX0_richestGiver_41 : decode cX0_richestGiver 41 = .ok (.iinc 3 1, 3) := by decide +kernel
theorem dX0_richestGiver_44 : decode cX0_richestGiver 44 = .ok (.goto (-37), 3) := by decide +kernel
theorem dX0_richestGiver_47 : decode cX0_richestGiver 47 = .ok (.iload_n 1, 1) := by decide +kernel
theorem dX0_richestGiver_48 : decode cX0_richestGiver 48 = .ok (.ireturn, 1) := by decide +kernel
theorem dX0_trackOf_0 : decode cX0_trackOf 0 = .ok (.bipush 8, 2) := by decide +kernel
theorem dX0_trackOf_2 : decode cX0_trackOf 2 = .ok (.aload_n 0, 1) := by decide +kernel
theorem dX0_trackOf_3 : decode cX0_trackOf 3 = .ok (.getfield 25, 3) := by decide +kernel
theorem dX0_trackOf_6 : decode cX0_trackOf 6 = .ok (.iload_n 1, 1) := by decide +kernel
theorem dX0_trackOf_7 : decode cX0_trackOf 7 = .ok (.iaload, 1) := by decide +kernel
theorem dX0_trackOf_8 : decode cX0_trackOf 8 = .ok (.imul, 1) := by decide +kernel
theorem dX0_trackOf_9 : decode cX0_trackOf 9 = .ok (.aload_n 0, 1) := by decide +kernel
theorem dX0_trackOf_10 : decode cX0_trackOf 10 = .ok (.getfield 28, 3) := by decide +kernel
theorem dX0_trackOf_13 : decode cX0_trackOf 13 = .ok (.iload_n 1, 1) := by decide +kernel
theorem dX0_trackOf_14 : decode cX0_trackOf 14 = .ok (.iaload, 1) := by decide +kernel
theorem dX0_trackOf_15 : decode cX0_trackOf 15 = .ok (.iadd, 1) := by decide +kernel
theorem dX0_trackOf_16 : decode cX0_trackOf 16 = .ok (.ireturn, 1) := by decide +kernel
set_option maxRecDepth 20000 in
theorem ggX0_isRequested_X0_isComing : GoodIn wsX0_isRequested wsX0_isComing := goodIn_r _ [5, 6, 7, 8, 9, 4, 10, 16, 17, 18, 19, 20, 21, 22, 23, 24, 25, 26, 27, 28, 29, 30, 31, 32, 33, 34] (by decide +kernel) (by decide +kernel)
set_option maxRecDepth 20000 in
theorem gX0_isRequested_X0_isComing : GoodIn wsX0_isRequested (wsV RX0 140 RX0 yX0_isComing wsX0_isComing) := goodIn_app (goodIn_of _ (by decide +kernel)) ggX0_isRequested_X0_isComing
set_option maxRecDepth 20000 in
theorem ggX0_isRequested_X0_trackOf : GoodIn wsX0_isRequested wsX0_trackOf := goodIn_r _ [14, 15, 6, 16, 17, 18, 19, 20, 21, 22, 23, 24, 25, 26, 27, 28, 29, 30, 31, 32, 33, 34] (by decide +kernel) (by decide +kernel)
set_option maxRecDepth 20000 in
theorem gX0_isRequested_X0_trackOf : GoodIn wsX0_isRequested (wsV RX0 206 RX0 yX0_trackOf wsX0_trackOf) := goodIn_app (goodIn_of _ (by decide +kernel)) ggX0_isRequested_X0_trackOf
theorem dX0_isRequested_0 : decode cX0_isRequested 0 = .ok (.iconst 0, 1) := by decide +kernel
theorem dX0_isRequested_1 : decode cX0_isRequested 1 = .ok (.istore_n 2, 1) := by decide +kernel
theorem dX0_isRequested_2 : decode cX0_isRequested 2 = .ok (.iload_n 2, 1) := by decide +kernel
theorem dX0_isRequested_3 : decode cX0_isRequested 3 = .ok (.bipush 12, 2) := by decide +kernel
theorem dX0_isRequested_5 : decode cX0_isRequested 5 = .ok (.if_icmp .ge 28, 3) := by decide +kernel
theorem dX0_isRequested_8 : decode cX0_isRequested 8 = .ok (.aload_n 0, 1) := by decide +kernel
theorem dX0_isRequested_9 : decode cX0_isRequested 9 = .ok (.iload_n 2, 1) := by decide +kernel
theorem dX0_isRequested_10 : decode cX0_isRequested 10 = .ok (.invokevirtual 140, 3) := by decide +kernel
theorem dX0_isRequested_13 : decode cX0_isRequested 13 = .ok (.ifCond .eq 14, 3) := by decide +kernel
theorem dX0_isRequested_16 : decode cX0_isRequested 16 = .ok (.aload_n 0, 1) := by decide +kernel
theorem dX0_isRequested_17 : decode cX0_isRequested 17 = .ok (.iload_n 2, 1) := by decide +kernel
theorem dX0_isRequested_18 : decode cX0_isRequested 18 = .ok (.invokevirtual 206, 3) := by decide +kernel
theorem dX0_isRequested_21 : decode cX0_isRequested 21 = .ok (.iload_n 1, 1) := by decide +kernel
theorem dX0_isRequested_22 : decode cX0_isRequested 22 = .ok (.if_icmp .ne 5, 3) := by decide +kernel
theorem dX0_isRequested_25 : decode cX0_isRequested 25 = .ok (.iconst 1, 1) := by decide +kernel
theorem dX0_isRequested_26 : decode cX0_isRequested 26 = .ok (.ireturn, 1) := by decide +kernel
theorem dX0_isRequested_27 : decode cX0_isRequested 27 = .ok (.iinc 2 1, 3) := by decide +kernel
theorem dX0_isRequested_30 : decode cX0_isRequested 30 = .ok (.goto (-28), 3) := by decide +kernel
theorem dX0_isRequested_33 : decode cX0_isRequested 33 = .ok (.iconst 0, 1) := by decide +kernel
theorem dX0_isRequested_34 : decode cX0_isRequested 34 = .ok (.ireturn, 1) := by decide +kernel
set_option maxRecDepth 20000 in
theorem ggX0_moveDisk_X0_nearestRequest : GoodIn wsX0_moveDisk wsX0_nearestRequest := goodIn_r _ [7, 2, 8, 9, 10, 11, 12, 13, 14, 6, 15, 16, 17, 18, 19, 20, 21, 22, 23, 24, 25, 36, 37, 38, 39, 40, 41, 42, 43, 44, 45, 46, 47, 48, 49, 50, 51, 52, 53, 54] (by decide +kernel) (by decide +kernel)
set_option maxRecDepth 20000 in
theorem gX0_moveDisk_X0_nearestRequest : GoodIn wsX0_moveDisk (wsV RX0 209 RX0 yX0_nearestRequest wsX0_nearestRequest) := goodIn_app (goodIn_of _ (by decide +kernel)) ggX0_moveDisk_X0_nearestRequest
set_option maxRecDepth 20000 in
theorem ggX0_moveDisk_X0_isFrame : GoodIn wsX0_moveDisk wsX0_isFrame := goodIn_r _ [20] (by decide +kernel) (by decide +kernel)
set_option maxRecDepth 20000 in
theorem gX0_moveDisk_X0_isFrame : GoodIn wsX0_moveDisk (va_wsS RX0 102 yX0_isFrame wsX0_isFrame) := goodIn_app (goodIn_of _ (by decide +kernel)) ggX0_moveDisk_X0_isFrame
set_option maxRecDepth 20000 in
theorem ggX0_moveDisk_X0_trackOf : GoodIn wsX0_moveDisk wsX0_trackOf := goodIn_r _ [24, 25, 16, 36, 37, 38, 39, 40, 41, 42, 43, 44, 45, 46, 47, 48, 49, 50, 51, 52, 53, 54] (by decide +kernel) (by decide +kernel)
set_option maxRecDepth 20000 in
theorem gX0_moveDisk_X0_trackOf : GoodIn wsX0_moveDisk (wsV RX0 206 RX0 yX0_trackOf wsX0_trackOf) := goodIn_app (goodIn_of _ (by decide +kernel)) ggX0_moveDisk_X0_trackOf
set_option maxRecDepth 20000 in
theorem ggX0_moveDisk_X0_finishRequest : GoodIn wsX0_moveDisk wsX0_finishRequest := goodIn_r _ [29, 1, 17, 30, 31, 25, 32, 33, 34, 6, 35, 36, 37, 38, 39, 40, 41, 42, 43, 44, 45, 46, 47, 48, 49, 50, 51, 52, 53, 54] (by decide +kernel) (by decide +kernel)
set_option maxRecDepth 20000 in
theorem gX0_moveDisk_X0_finishRequest : GoodIn wsX0_moveDisk (wsV RX0 212 RX0 yX0_finishRequest wsX0_finishRequest) := goodIn_app (goodIn_of _ (by decide +kernel)) ggX0_moveDisk_X0_finishRequest
theorem dX0_moveDisk_0 : decode cX0_moveDisk 0 = .ok (.aload_n 0, 1) := by decide +kernel
theorem dX0_moveDisk_1 : decode cX0_moveDisk 1 = .ok (.getfield 66, 3) := by decide +kernel
theorem dX0_moveDisk_4 : decode cX0_moveDisk 4 = .ok (.iconst (-1), 1) := by decide +kernel
theorem dX0_moveDisk_5 : decode cX0_moveDisk 5 = .ok (.if_icmp .ne 11, 3) := by decide +kernel
theorem dX0_moveDisk_8 : decode cX0_moveDisk 8 = .ok (.aload_n 0, 1) := by decide +kernel
theorem dX0_moveDisk_9 : decode cX0_moveDisk 9 = .ok (.aload_n 0, 1) := by decide +kernel
theorem dX0_moveDisk_10 : decode cX0_moveDisk 10 = .ok (.invokevirtual 209, 3) := by decide +kernel
theorem dX0_moveDisk_13 : decode cX0_moveDisk 13 = .ok (.putfield 66, 3) := by decide +kernel
theorem dX0_moveDisk_16 : decode cX0_moveDisk 16 = .ok (.aload_n 0, 1) := by decide +kernel
theorem dX0_moveDisk_17 : decode cX0_moveDisk 17 = .ok (.getfield 66, 3) := by decide +kernel
theorem dX0_moveDisk_20 : decode cX0_moveDisk 20 = .ok (.invokestatic 102, 3) := by decide +kernel
theorem dX0_moveDisk_23 : decode cX0_moveDisk 23 = .ok (.ifCond .ne 4, 3) := by decide +kernel
theorem dX0_moveDisk_26 : decode cX0_moveDisk 26 = .ok (.return_, 1) := by decide +kernel
theorem dX0_moveDisk_27 : decode cX0_moveDisk 27 = .ok (.aload_n 0, 1) := by decide +kernel
theorem dX0_moveDisk_28 : decode cX0_moveDisk 28 = .ok (.aload_n 0, 1) := by decide +kernel
theorem dX0_moveDisk_29 : decode cX0_moveDisk 29 = .ok (.getfield 66, 3) := by decide +kernel
theorem dX0_moveDisk_32 : decode cX0_moveDisk 32 = .ok (.invokevirtual 206, 3) := by decide +kernel
theorem dX0_moveDisk_35 : decode cX0_moveDisk 35 = .ok (.istore_n 1, 1) := by decide +kernel
theorem dX0_moveDisk_36 : decode cX0_moveDisk 36 = .ok (.aload_n 0, 1) := by decide +kernel
theorem dX0_moveDisk_37 : decode cX0_moveDisk 37 = .ok (.getfield 63, 3) := by decide +kernel
theorem dX0_moveDisk_40 : decode cX0_moveDisk 40 = .ok (.iload_n 1, 1) := by decide +kernel
theorem dX0_moveDisk_41 : decode cX0_moveDisk 41 = .ok (.if_icmp .ge 16, 3) := by decide +kernel
theorem dX0_moveDisk_44 : decode cX0_moveDisk 44 = .ok (.aload_n 0, 1) := by decide +kernel
theorem dX0_moveDisk_45 : decode cX0_moveDisk 45 = .ok (.dup, 1) := by decide +kernel
theorem dX0_moveDisk_46 : decode cX0_moveDisk 46 = .ok (.getfield 63, 3) := by decide +kernel
theorem dX0_moveDisk_49 : decode cX0_moveDisk 49 = .ok (.iconst 1, 1) := by decide +kernel
theorem dX0_moveDisk_50 : decode cX0_moveDisk 50 = .ok (.iadd, 1) := by decide +kernel
theorem dX0_moveDisk_51 : decode cX0_moveDisk 51 = .ok (.putfield 63, 3) := by decide +kernel
theorem dX0_moveDisk_54 : decode cX0_moveDisk 54 = .ok (.goto 21, 3) := by decide +kernel
theorem dX0_moveDisk_57 : decode cX0_moveDisk 57 = .ok (.aload_n 0, 1) := by decide +kernel
theorem dX0_moveDisk_58 : decode cX0_moveDisk 58 = .ok (.getfield 63, 3) := by decide +kernel
theorem dX0_moveDisk_61 : decode cX0_moveDisk 61 = .ok (.iload_n 1, 1) := by decide +kernel
theorem dX0_moveDisk_62 : decode cX0_moveDisk 62 = .ok (.if_icmp .le 13, 3) := by decide +kernel
theorem dX0_moveDisk_65 : decode cX0_moveDisk 65 = .ok (.aload_n 0, 1) := by decide +kernel
theorem dX0_moveDisk_66 : decode cX0_moveDisk 66 = .ok (.dup, 1) := by decide +kernel
theorem dX0_moveDisk_67 : decode cX0_moveDisk 67 = .ok (.getfield 63, 3) := by decide +kernel
theorem dX0_moveDisk_70 : decode cX0_moveDisk 70 = .ok (.iconst 1, 1) := by decide +kernel
theorem dX0_moveDisk_71 : decode cX0_moveDisk 71 = .ok (.isub, 1) := by decide +kernel
theorem dX0_moveDisk_72 : decode cX0_moveDisk 72 = .ok (.putfield 63, 3) := by decide +kernel
theorem dX0_moveDisk_75 : decode cX0_moveDisk 75 = .ok (.aload_n 0, 1) := by decide +kernel
theorem dX0_moveDisk_76 : decode cX0_moveDisk 76 = .ok (.getfield 63, 3) := by decide +kernel
theorem dX0_moveDisk_79 : decode cX0_moveDisk 79 = .ok (.iload_n 1, 1) := by decide +kernel
theorem dX0_moveDisk_80 : decode cX0_moveDisk 80 = .ok (.if_icmp .ne 11, 3) := by decide +kernel
theorem dX0_moveDisk_83 : decode cX0_moveDisk 83 = .ok (.aload_n 0, 1) := by decide +kernel
theorem dX0_moveDisk_84 : decode cX0_moveDisk 84 = .ok (.aload_n 0, 1) := by decide +kernel
theorem dX0_moveDisk_85 : decode cX0_moveDisk 85 = .ok (.getfield 66, 3) := by decide +kernel
theorem dX0_moveDisk_88 : decode cX0_moveDisk 88 = .ok (.invokevirtual 212, 3) := by decide +kernel
theorem dX0_moveDisk_91 : decode cX0_moveDisk 91 = .ok (.return_, 1) := by decide +kernel
set_option maxRecDepth 20000 in
theorem ggX0_nearestRequest_X0_isComing : GoodIn wsX0_nearestRequest wsX0_isComing := goodIn_r _ [10, 11, 12, 13, 14, 9, 15, 21, 22, 23, 24, 25, 26, 27, 28, 29, 30, 31, 32, 33, 34, 35, 36, 37, 38, 39] (by decide +kernel) (by decide +kernel)
set_option maxRecDepth 20000 in
theorem gX0_nearestRequest_X0_isComing : GoodIn wsX0_nearestRequest (wsV RX0 140 RX0 yX0_isComing wsX0_isComing) := goodIn_app (goodIn_of _ (by decide +kernel)) ggX0_nearestRequest_X0_isComing
set_option maxRecDepth 20000 in
theorem ggX0_nearestRequest_X0_trackOf : GoodIn wsX0_nearestRequest wsX0_trackOf := goodIn_r _ [19, 20, 11, 21, 22, 23, 24, 25, 26, 27, 28, 29, 30, 31, 32, 33, 34, 35, 36, 37, 38, 39] (by decide +kernel) (by decide +kernel)
set_option maxRecDepth 20000 in
theorem gX0_nearestRequest_X0_trackOf : GoodIn wsX0_nearestRequest (wsV RX0 206 RX0 yX0_trackOf wsX0_trackOf) := goodIn_app (goodIn_of _ (by decide +kernel)) ggX0_nearestRequest_X0_trackOf
theorem dX0_nearestRequest_0 : decode cX0_nearestRequest 0 = .ok (.iconst (-1), 1) := by decide +kernel
theorem dX0_nearestRequest_1 : decode cX0_nearestRequest 1 = .ok (.istore_n 1, 1) := by decide +kernel
theorem dX0_nearestRequest_2 : decode cX0_nearestRequest 2 = .ok (.iconst (-1), 1) := by decide +kernel
theorem dX0_nearestRequest_3 : decode cX0_nearestRequest 3 = .ok (.istore_n 2, 1) := by decide +kernel
theorem dX0_nearestRequest_4 : decode cX0_nearestRequest 4 = .ok (.bipush 40, 2) := by decide +kernel
theorem dX0_nearestRequest_6 : decode cX0_nearestRequest 6 = .ok (.istore_n 3, 1) := by decide +kernel
theorem dX0_nearestRequest_7 : decode cX0_nearestRequest 7 = .ok (.iconst 0, 1) := by decide +kernel
theorem dX0_nearestRequest_8 : decode cX0_nearestRequest 8 = .ok (.istore 4, 2) := by decide +kernel
theorem dX0_nearestRequest_10 : decode cX0_nearestRequest 10 = .ok (.iload 4, 2) := by decide +kernel
theorem dX0_nearestRequest_12 : decode cX0_nearestRequest 12 = .ok (.bipush 12, 2) := by decide +kernel
theorem dX0_nearestRequest_14 : decode cX0_nearestRequest 14 = .ok (.if_icmp .ge 65, 3) := by decide +kernel
theorem dX0_nearestRequest_17 : decode cX0_nearestRequest 17 = .ok (.aload_n 0, 1) := by decide +kernel
theorem dX0_nearestRequest_18 : decode cX0_nearestRequest 18 = .ok (.iload 4, 2) := by decide +kernel
theorem dX0_nearestRequest_20 : decode cX0_nearestRequest 20 = .ok (.invokevirtual 140, 3) := by decide +kernel
theorem dX0_nearestRequest_23 : decode cX0_nearestRequest 23 = .ok (.ifCond .eq 50, 3) := by decide +kernel
theorem dX0_nearestRequest_26 : decode cX0_nearestRequest 26 = .ok (.aload_n 0, 1) := by decide +kernel
theorem dX0_nearestRequest_27 : decode cX0_nearestRequest 27 = .ok (.iload 4, 2) := by decide +kernel
theorem dX0_nearestRequest_29 : decode cX0_nearestRequest 29 = .ok (.invokevirtual 206, 3) := by decide +kernel
theorem dX0_nearestRequest_32 : decode cX0_nearestRequest 32 = .ok (.istore 5, 2) := by decide +kernel
theorem dX0_nearestRequest_34 : decode cX0_nearestRequest 34 = .ok (.iload 5, 2) := by decide +kernel
theorem dX0_nearestRequest_36 : decode cX0_nearestRequest 36 = .ok (.aload_n 0, 1) := by decide +kernel
theorem dX0_nearestRequest_37 : decode cX0_nearestRequest 37 = .ok (.getfield 63, 3) := by decide +kernel
theorem dX0_nearestRequest_40 : decode cX0_nearestRequest 40 = .ok (.isub, 1) := by decide +kernel
theorem dX0_nearestRequest_41 : decode cX0_nearestRequest 41 = .ok (.invokestatic 215, 3) := by decide +kernel
theorem dX0_nearestRequest_44 : decode cX0_nearestRequest 44 = .ok (.istore 6, 2) := by decide +kernel
theorem dX0_nearestRequest_46 : decode cX0_nearestRequest 46 = .ok (.iload 6, 2) := by decide +kernel
theorem dX0_nearestRequest_48 : decode cX0_nearestRequest 48 = .ok (.iload_n 3, 1) := by decide +kernel
theorem dX0_nearestRequest_49 : decode cX0_nearestRequest 49 = .ok (.if_icmp .lt 15, 3) := by decide +kernel
theorem dX0_nearestRequest_52 : decode cX0_nearestRequest 52 = .ok (.iload 6, 2) := by decide +kernel
theorem dX0_nearestRequest_54 : decode cX0_nearestRequest 54 = .ok (.iload_n 3, 1) := by decide +kernel
theorem dX0_nearestRequest_55 : decode cX0_nearestRequest 55 = .ok (.if_icmp .ne 18, 3) := by decide +kernel
theorem dX0_nearestRequest_58 : decode cX0_nearestRequest 58 = .ok (.iload 5, 2) := by decide +kernel
theorem dX0_nearestRequest_60 : decode cX0_nearestRequest 60 = .ok (.iload_n 2, 1) := by decide +kernel
theorem dX0_nearestRequest_61 : decode cX0_nearestRequest 61 = .ok (.if_icmp .ge 12, 3) := by decide +kernel
theorem dX0_nearestRequest_64 : decode cX0_nearestRequest 64 = .ok (.iload 4, 2) := by decide +kernel
theorem dX0_nearestRequest_66 : decode cX0_nearestRequest 66 = .ok (.istore_n 1, 1) := by decide +kernel
theorem dX0_nearestRequest_67 : decode cX0_nearestRequest 67 = .ok (.iload 5, 2) := by decide +kernel
theorem dX0_nearestRequest_69 : decode cX0_nearestRequest 69 = .ok (.istore_n 2, 1) := by decide +kernel
theorem dX0_nearestRequest_70 : decode cX0_nearestRequest 70 = .ok (.iload 6, 2) := by decide +kernel
theorem dX0_nearestRequest_72 : decode cX0_nearestRequest 72 = .ok (.istore_n 3, 1) := by decide +kernel
theorem dX0_nearestRequest_73 : decode cX0_nearestRequest 73 = .ok (.iinc 4 1, 3) := by decide +kernel
theorem dX0_nearestRequest_76 : decode cX0_nearestRequest 76 = .ok (.goto (-66), 3) := by decide +kernel
theorem dX0_nearestRequest_79 : decode cX0_nearestRequest 79 = .ok (.iload_n 1, 1) := by decide +kernel
theorem dX0_nearestRequest_80 : decode cX0_nearestRequest 80 = .ok (.ireturn, 1) := by decide +kernel
set_option maxRecDepth 20000 in
theorem ggX0_finishRequest_X0_isProcess : GoodIn wsX0_finishRequest wsX0_isProcess := goodIn_r _ [10] (by decide +kernel) (by decide +kernel)
set_option maxRecDepth 20000 in
theorem gX0_finishRequest_X0_isProcess : GoodIn wsX0_finishRequest (va_wsS RX0 75 yX0_isProcess wsX0_isProcess) := goodIn_app (goodIn_of _ (by decide +kernel)) ggX0_finishRequest_X0_isProcess
theorem dX0_finishRequest_0 : decode cX0_finishRequest 0 = .ok (.aload_n 0, 1) := by decide +kernel
theorem dX0_finishRequest_1 : decode cX0_finishRequest 1 = .ok (.iconst (-1), 1) := by decide +kernel
theorem dX0_finishRequest_2 : decode cX0_finishRequest 2 = .ok (.putfield 66, 3) := by decide +kernel
theorem dX0_finishRequest_5 : decode cX0_finishRequest 5 = .ok (.aload_n 0, 1) := by decide +kernel
theorem dX0_finishRequest_6 : decode cX0_finishRequest 6 = .ok (.getfield 31, 3) := by decide +kernel
theorem dX0_finishRequest_9 : decode cX0_finishRequest 9 = .ok (.iload_n 1, 1) := by decide +kernel
theorem dX0_finishRequest_10 : decode cX0_finishRequest 10 = .ok (.iconst 1, 1) := by decide +kernel
theorem dX0_finishRequest_11 : decode cX0_finishRequest 11 = .ok (.bastore, 1) := by decide +kernel
theorem dX0_finishRequest_12 : decode cX0_finishRequest 12 = .ok (.aload_n 0, 1) := by decide +kernel
theorem dX0_finishRequest_13 : decode cX0_finishRequest 13 = .ok (.getfield 35, 3) := by decide +kernel
theorem dX0_finishRequest_16 : decode cX0_finishRequest 16 = .ok (.iload_n 1, 1) := by decide +kernel
theorem dX0_finishRequest_17 : decode cX0_finishRequest 17 = .ok (.aload_n 0, 1) := by decide +kernel
theorem dX0_finishRequest_18 : decode cX0_finishRequest 18 = .ok (.getfield 60, 3) := by decide +kernel
theorem dX0_finishRequest_21 : decode cX0_finishRequest 21 = .ok (.iastore, 1) := by decide +kernel
theorem dX0_finishRequest_22 : decode cX0_finishRequest 22 = .ok (.aload_n 0, 1) := by decide +kernel
theorem dX0_finishRequest_23 : decode cX0_finishRequest 23 = .ok (.getfield 25, 3) := by decide +kernel
theorem dX0_finishRequest_26 : decode cX0_finishRequest 26 = .ok (.iload_n 1, 1) := by decide +kernel
theorem dX0_finishRequest_27 : decode cX0_finishRequest 27 = .ok (.iaload, 1) := by decide +kernel
theorem dX0_finishRequest_28 : decode cX0_finishRequest 28 = .ok (.istore_n 2, 1) := by decide +kernel
theorem dX0_finishRequest_29 : decode cX0_finishRequest 29 = .ok (.iload_n 2, 1) := by decide +kernel
theorem dX0_finishRequest_30 : decode cX0_finishRequest 30 = .ok (.invokestatic 75, 3) := by decide +kernel
theorem dX0_finishRequest_33 : decode cX0_finishRequest 33 = .ok (.ifCond .eq 10, 3) := by decide +kernel
theorem dX0_finishRequest_36 : decode cX0_finishRequest 36 = .ok (.aload_n 0, 1) := by decide +kernel
theorem dX0_finishRequest_37 : decode cX0_finishRequest 37 = .ok (.getfield 16, 3) := by decide +kernel
theorem dX0_finishRequest_40 : decode cX0_finishRequest 40 = .ok (.iload_n 2, 1) := by decide +kernel
theorem dX0_finishRequest_41 : decode cX0_finishRequest 41 = .ok (.iconst 0, 1) := by decide +kernel
theorem dX0_finishRequest_42 : decode cX0_finishRequest 42 = .ok (.iastore, 1) := by decide +kernel
theorem dX0_finishRequest_43 : decode cX0_finishRequest 43 = .ok (.return_, 1) := by decide +kernel
theorem dJ9_abs_0f7a4_0 : decode cJ9_abs_0f7a4 0 = .ok (.iload_n 0, 1) := by decide +kernel
theorem dJ9_abs_0f7a4_1 : decode cJ9_abs_0f7a4 1 = .ok (.ifCond .ge 8, 3) := by decide +kernel
theorem dJ9_abs_0f7a4_4 : decode cJ9_abs_0f7a4 4 = .ok (.iload_n 0, 1) := by decide +kernel
theorem dJ9_abs_0f7a4_5 : decode cJ9_abs_0f7a4 5 = .ok (.ineg, 1) := by decide +kernel
theorem dJ9_abs_0f7a4_6 : decode cJ9_abs_0f7a4 6 = .ok (.goto 4, 3) := by decide +kernel
theorem dJ9_abs_0f7a4_9 : decode cJ9_abs_0f7a4 9 = .ok (.iload_n 0, 1) := by decide +kernel
theorem dJ9_abs_0f7a4_10 : decode cJ9_abs_0f7a4 10 = .ok (.ireturn, 1) := by decide +kernel
theorem dJ7_fill_53178_0 : decode cJ7_fill_53178 0 = .ok (.iconst 0, 1) := by decide +kernel
theorem dJ7_fill_53178_1 : decode cJ7_fill_53178 1 = .ok (.istore_n 2, 1) := by decide +kernel
theorem dJ7_fill_53178_2 : decode cJ7_fill_53178 2 = .ok (.aload_n 0, 1) := by decide +kernel
theorem dJ7_fill_53178_3 : decode cJ7_fill_53178 3 = .ok (.arraylength, 1) := by decide +kernel
theorem dJ7_fill_53178_4 : decode cJ7_fill_53178 4 = .ok (.istore_n 3, 1) := by decide +kernel
theorem dJ7_fill_53178_5 : decode cJ7_fill_53178 5 = .ok (.iload_n 2, 1) := by decide +kernel
theorem dJ7_fill_53178_6 : decode cJ7_fill_53178 6 = .ok (.iload_n 3, 1) := by decide +kernel
theorem dJ7_fill_53178_7 : decode cJ7_fill_53178 7 = .ok (.if_icmp .ge 13, 3) := by decide +kernel
theorem dJ7_fill_53178_10 : decode cJ7_fill_53178 10 = .ok (.aload_n 0, 1) := by decide +kernel
theorem dJ7_fill_53178_11 : decode cJ7_fill_53178 11 = .ok (.iload_n 2, 1) := by decide +kernel
theorem dJ7_fill_53178_12 : decode cJ7_fill_53178 12 = .ok (.iload_n 1, 1) := by decide +kernel
theorem dJ7_fill_53178_13 : decode cJ7_fill_53178 13 = .ok (.iastore, 1) := by decide +kernel
theorem dJ7_fill_53178_14 : decode cJ7_fill_53178 14 = .ok (.iinc 2 1, 3) := by decide +kernel
theorem dJ7_fill_53178_17 : decode cJ7_fill_53178 17 = .ok (.goto (-12), 3) := by decide +kernel
theorem dJ7_fill_53178_20 : decode cJ7_fill_53178 20 = .ok (.return_, 1) := by decide +kernel

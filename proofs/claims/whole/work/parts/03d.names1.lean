theorem dX1_init_0 : decode cX1_init 0 = .ok (.aload_n 0, 1) := by decide +kernel
theorem dX1_init_1 : decode cX1_init 1 = .ok (.invokespecial 1, 3) := by decide +kernel
theorem dX1_init_4 : decode cX1_init 4 = .ok (.aload_n 0, 1) := by decide +kernel
theorem dX1_init_5 : decode cX1_init 5 = .ok (.iconst 1, 1) := by decide +kernel
theorem dX1_init_6 : decode cX1_init 6 = .ok (.putfield 7, 3) := by decide +kernel
theorem dX1_init_9 : decode cX1_init 9 = .ok (.aload_n 0, 1) := by decide +kernel
theorem dX1_init_10 : decode cX1_init 10 = .ok (.bipush 12, 2) := by decide +kernel
theorem dX1_init_12 : decode cX1_init 12 = .ok (.newarray .int, 2) := by decide +kernel
theorem dX1_init_14 : decode cX1_init 14 = .ok (.putfield 13, 3) := by decide +kernel
theorem dX1_init_17 : decode cX1_init 17 = .ok (.aload_n 0, 1) := by decide +kernel
theorem dX1_init_18 : decode cX1_init 18 = .ok (.bipush 12, 2) := by decide +kernel
theorem dX1_init_20 : decode cX1_init 20 = .ok (.newarray .int, 2) := by decide +kernel
theorem dX1_init_22 : decode cX1_init 22 = .ok (.putfield 17, 3) := by decide +kernel
theorem dX1_init_25 : decode cX1_init 25 = .ok (.aload_n 0, 1) := by decide +kernel
theorem dX1_init_26 : decode cX1_init 26 = .ok (.bipush 12, 2) := by decide +kernel
theorem dX1_init_28 : decode cX1_init 28 = .ok (.newarray .boolean, 2) := by decide +kernel
theorem dX1_init_30 : decode cX1_init 30 = .ok (.putfield 20, 3) := by decide +kernel
theorem dX1_init_33 : decode cX1_init 33 = .ok (.aload_n 0, 1) := by decide +kernel
theorem dX1_init_34 : decode cX1_init 34 = .ok (.bipush 12, 2) := by decide +kernel
theorem dX1_init_36 : decode cX1_init 36 = .ok (.newarray .int, 2) := by decide +kernel
theorem dX1_init_38 : decode cX1_init 38 = .ok (.putfield 24, 3) := by decide +kernel
theorem dX1_init_41 : decode cX1_init 41 = .ok (.aload_n 0, 1) := by decide +kernel
theorem dX1_init_42 : decode cX1_init 42 = .ok (.bipush 12, 2) := by decide +kernel
theorem dX1_init_44 : decode cX1_init 44 = .ok (.newarray .int, 2) := by decide +kernel
theorem dX1_init_46 : decode cX1_init 46 = .ok (.putfield 27, 3) := by decide +kernel
theorem dX1_init_49 : decode cX1_init 49 = .ok (.aload_n 0, 1) := by decide +kernel
theorem dX1_init_50 : decode cX1_init 50 = .ok (.iconst 5, 1) := by decide +kernel
theorem dX1_init_51 : decode cX1_init 51 = .ok (.newarray .int, 2) := by decide +kernel
theorem dX1_init_53 : decode cX1_init 53 = .ok (.putfield 30, 3) := by decide +kernel
theorem dX1_init_56 : decode cX1_init 56 = .ok (.aload_n 0, 1) := by decide +kernel
theorem dX1_init_57 : decode cX1_init 57 = .ok (.iconst 5, 1) := by decide +kernel
theorem dX1_init_58 : decode cX1_init 58 = .ok (.newarray .int, 2) := by decide +kernel
theorem dX1_init_60 : decode cX1_init 60 = .ok (.putfield 33, 3) := by decide +kernel
theorem dX1_init_63 : decode cX1_init 63 = .ok (.aload_n 0, 1) := by decide +kernel
theorem dX1_init_64 : decode cX1_init 64 = .ok (.iconst 5, 1) := by decide +kernel
theorem dX1_init_65 : decode cX1_init 65 = .ok (.newarray .int, 2) := by decide +kernel
theorem dX1_init_67 : decode cX1_init 67 = .ok (.putfield 36, 3) := by decide +kernel
theorem dX1_init_70 : decode cX1_init 70 = .ok (.aload_n 0, 1) := by decide +kernel
theorem dX1_init_71 : decode cX1_init 71 = .ok (.iconst 5, 1) := by decide +kernel
theorem dX1_init_72 : decode cX1_init 72 = .ok (.newarray .int, 2) := by decide +kernel
theorem dX1_init_74 : decode cX1_init 74 = .ok (.putfield 39, 3) := by decide +kernel
theorem dX1_init_77 : decode cX1_init 77 = .ok (.aload_n 0, 1) := by decide +kernel
theorem dX1_init_78 : decode cX1_init 78 = .ok (.bipush 60, 2) := by decide +kernel
theorem dX1_init_80 : decode cX1_init 80 = .ok (.newarray .int, 2) := by decide +kernel
theorem dX1_init_82 : decode cX1_init 82 = .ok (.putfield 42, 3) := by decide +kernel
theorem dX1_init_85 : decode cX1_init 85 = .ok (.aload_n 0, 1) := by decide +kernel
theorem dX1_init_86 : decode cX1_init 86 = .ok (.bipush 60, 2) := by decide +kernel
theorem dX1_init_88 : decode cX1_init 88 = .ok (.newarray .int, 2) := by decide +kernel
theorem dX1_init_90 : decode cX1_init 90 = .ok (.putfield 45, 3) := by decide +kernel
theorem dX1_init_93 : decode cX1_init 93 = .ok (.aload_n 0, 1) := by decide +kernel
theorem dX1_init_94 : decode cX1_init 94 = .ok (.bipush 60, 2) := by decide +kernel
theorem dX1_init_96 : decode cX1_init 96 = .ok (.newarray .int, 2) := by decide +kernel
theorem dX1_init_98 : decode cX1_init 98 = .ok (.putfield 48, 3) := by decide +kernel
theorem dX1_init_101 : decode cX1_init 101 = .ok (.aload_n 0, 1) := by decide +kernel
theorem dX1_init_102 : decode cX1_init 102 = .ok (.bipush 60, 2) := by decide +kernel
theorem dX1_init_104 : decode cX1_init 104 = .ok (.newarray .int, 2) := by decide +kernel
theorem dX1_init_106 : decode cX1_init 106 = .ok (.putfield 51, 3) := by decide +kernel
theorem dX1_init_109 : decode cX1_init 109 = .ok (.aload_n 0, 1) := by decide +kernel
theorem dX1_init_110 : decode cX1_init 110 = .ok (.iconst (-1), 1) := by decide +kernel
theorem dX1_init_111 : decode cX1_init 111 = .ok (.putfield 54, 3) := by decide +kernel
theorem dX1_init_114 : decode cX1_init 114 = .ok (.iconst 0, 1) := by decide +kernel
theorem dX1_init_115 : decode cX1_init 115 = .ok (.istore_n 1, 1) := by decide +kernel
theorem dX1_init_116 : decode cX1_init 116 = .ok (.iload_n 1, 1) := by decide +kernel
theorem dX1_init_117 : decode cX1_init 117 = .ok (.bipush 12, 2) := by decide +kernel
theorem dX1_init_119 : decode cX1_init 119 = .ok (.if_icmp .ge 30, 3) := by decide +kernel
theorem dX1_init_122 : decode cX1_init 122 = .ok (.aload_n 0, 1) := by decide +kernel
theorem dX1_init_123 : decode cX1_init 123 = .ok (.getfield 13, 3) := by decide +kernel
theorem dX1_init_126 : decode cX1_init 126 = .ok (.iload_n 1, 1) := by decide +kernel
theorem dX1_init_127 : decode cX1_init 127 = .ok (.iconst (-1), 1) := by decide +kernel
theorem dX1_init_128 : decode cX1_init 128 = .ok (.iastore, 1) := by decide +kernel
theorem dX1_init_129 : decode cX1_init 129 = .ok (.aload_n 0, 1) := by decide +kernel
theorem dX1_init_130 : decode cX1_init 130 = .ok (.getfield 17, 3) := by decide +kernel
theorem dX1_init_133 : decode cX1_init 133 = .ok (.iload_n 1, 1) := by decide +kernel
theorem dX1_init_134 : decode cX1_init 134 = .ok (.iconst (-1), 1) := by decide +kernel
theorem dX1_init_135 : decode cX1_init 135 = .ok (.iastore, 1) := by decide +kernel
theorem dX1_init_136 : decode cX1_init 136 = .ok (.aload_n 0, 1) := by decide +kernel
theorem dX1_init_137 : decode cX1_init 137 = .ok (.getfield 27, 3) := by decide +kernel
theorem dX1_init_140 : decode cX1_init 140 = .ok (.iload_n 1, 1) := by decide +kernel
theorem dX1_init_141 : decode cX1_init 141 = .ok (.iconst (-1), 1) := by decide +kernel
theorem dX1_init_142 : decode cX1_init 142 = .ok (.iastore, 1) := by decide +kernel
theorem dX1_init_143 : decode cX1_init 143 = .ok (.iinc 1 1, 3) := by decide +kernel
theorem dX1_init_146 : decode cX1_init 146 = .ok (.goto (-30), 3) := by decide +kernel
theorem dX1_init_149 : decode cX1_init 149 = .ok (.iconst 0, 1) := by decide +kernel
theorem dX1_init_150 : decode cX1_init 150 = .ok (.istore_n 1, 1) := by decide +kernel
theorem dX1_init_151 : decode cX1_init 151 = .ok (.iload_n 1, 1) := by decide +kernel
theorem dX1_init_152 : decode cX1_init 152 = .ok (.iconst 5, 1) := by decide +kernel
theorem dX1_init_153 : decode cX1_init 153 = .ok (.if_icmp .ge 17, 3) := by decide +kernel
theorem dX1_init_156 : decode cX1_init 156 = .ok (.aload_n 0, 1) := by decide +kernel
theorem dX1_init_157 : decode cX1_init 157 = .ok (.getfield 33, 3) := by decide +kernel
theorem dX1_init_160 : decode cX1_init 160 = .ok (.iload_n 1, 1) := by decide +kernel
theorem dX1_init_161 : decode cX1_init 161 = .ok (.bipush 20, 2) := by decide +kernel
theorem dX1_init_163 : decode cX1_init 163 = .ok (.iastore, 1) := by decide +kernel
theorem dX1_init_164 : decode cX1_init 164 = .ok (.iinc 1 1, 3) := by decide +kernel
theorem dX1_init_167 : decode cX1_init 167 = .ok (.goto (-16), 3) := by decide +kernel
theorem dX1_init_170 : decode cX1_init 170 = .ok (.return_, 1) := by decide +kernel
theorem dX1_thrown_0 : decode cX1_thrown 0 = .ok (.aload_n 0, 1) := by decide +kernel
theorem dX1_thrown_1 : decode cX1_thrown 1 = .ok (.getfield 57, 3) := by decide +kernel
theorem dX1_thrown_4 : decode cX1_thrown 4 = .ok (.ireturn, 1) := by decide +kernel
theorem dX1_goes_0 : decode cX1_goes 0 = .ok (.aload_n 0, 1) := by decide +kernel
theorem dX1_goes_1 : decode cX1_goes 1 = .ok (.iload_n 1, 1) := by decide +kernel
theorem dX1_goes_2 : decode cX1_goes 2 = .ok (.putfield 57, 3) := by decide +kernel
theorem dX1_goes_5 : decode cX1_goes 5 = .ok (.iload_n 1, 1) := by decide +kernel
theorem dX1_goes_6 : decode cX1_goes 6 = .ok (.ifCond .ne 7, 3) := by decide +kernel
theorem dX1_goes_9 : decode cX1_goes 9 = .ok (.iconst 1, 1) := by decide +kernel
theorem dX1_goes_10 : decode cX1_goes 10 = .ok (.goto 4, 3) := by decide +kernel
theorem dX1_goes_13 : decode cX1_goes 13 = .ok (.iconst 0, 1) := by decide +kernel
theorem dX1_goes_14 : decode cX1_goes 14 = .ok (.ireturn, 1) := by decide +kernel
theorem dX1_isIn_0 : decode cX1_isIn 0 = .ok (.iload_n 0, 1) := by decide +kernel
theorem dX1_isIn_1 : decode cX1_isIn 1 = .ok (.iload_n 1, 1) := by decide +kernel
theorem dX1_isIn_2 : decode cX1_isIn 2 = .ok (.if_icmp .lt 12, 3) := by decide +kernel
theorem dX1_isIn_5 : decode cX1_isIn 5 = .ok (.iload_n 0, 1) := by decide +kernel
theorem dX1_isIn_6 : decode cX1_isIn 6 = .ok (.iload_n 2, 1) := by decide +kernel
theorem dX1_isIn_7 : decode cX1_isIn 7 = .ok (.if_icmp .gt 7, 3) := by decide +kernel
theorem dX1_isIn_10 : decode cX1_isIn 10 = .ok (.iconst 1, 1) := by decide +kernel
theorem dX1_isIn_11 : decode cX1_isIn 11 = .ok (.goto 4, 3) := by decide +kernel
theorem dX1_isIn_14 : decode cX1_isIn 14 = .ok (.iconst 0, 1) := by decide +kernel
theorem dX1_isIn_15 : decode cX1_isIn 15 = .ok (.ireturn, 1) := by decide +kernel
set_option maxRecDepth 20000 in
theorem ggX1_isProcess_X1_isIn : GoodIn wsX1_isProcess wsX1_isIn := goodIn_r _ [4] (by decide +kernel) (by decide +kernel)
set_option maxRecDepth 20000 in
theorem gX1_isProcess_X1_isIn : GoodIn wsX1_isProcess (va_wsS RX1 60 yX1_isIn wsX1_isIn) := goodIn_app (goodIn_of _ (by decide +kernel)) ggX1_isProcess_X1_isIn
theorem dX1_isProcess_0 : decode cX1_isProcess 0 = .ok (.iload_n 0, 1) := by decide +kernel
theorem dX1_isProcess_1 : decode cX1_isProcess 1 = .ok (.iconst 0, 1) := by decide +kernel
theorem dX1_isProcess_2 : decode cX1_isProcess 2 = .ok (.iconst 4, 1) := by decide +kernel
theorem dX1_isProcess_3 : decode cX1_isProcess 3 = .ok (.invokestatic 60, 3) := by decide +kernel
theorem dX1_isProcess_6 : decode cX1_isProcess 6 = .ok (.ireturn, 1) := by decide +kernel
set_option maxRecDepth 20000 in
theorem ggX1_isFrame_X1_isIn : GoodIn wsX1_isFrame wsX1_isIn := goodIn_r _ [4] (by decide +kernel) (by decide +kernel)
set_option maxRecDepth 20000 in
theorem gX1_isFrame_X1_isIn : GoodIn wsX1_isFrame (va_wsS RX1 60 yX1_isIn wsX1_isIn) := goodIn_app (goodIn_of _ (by decide +kernel)) ggX1_isFrame_X1_isIn
theorem dX1_isFrame_0 : decode cX1_isFrame 0 = .ok (.iload_n 0, 1) := by decide +kernel
theorem dX1_isFrame_1 : decode cX1_isFrame 1 = .ok (.iconst 0, 1) := by decide +kernel
theorem dX1_isFrame_2 : decode cX1_isFrame 2 = .ok (.bipush 11, 2) := by decide +kernel
theorem dX1_isFrame_4 : decode cX1_isFrame 4 = .ok (.invokestatic 60, 3) := by decide +kernel
theorem dX1_isFrame_7 : decode cX1_isFrame 7 = .ok (.ireturn, 1) := by decide +kernel
set_option maxRecDepth 20000 in
theorem ggX1_isLoan_X1_isIn : GoodIn wsX1_isLoan wsX1_isIn := goodIn_r _ [5] (by decide +kernel) (by decide +kernel)
set_option maxRecDepth 20000 in
theorem gX1_isLoan_X1_isIn : GoodIn wsX1_isLoan (va_wsS RX1 60 yX1_isIn wsX1_isIn) := goodIn_app (goodIn_of _ (by decide +kernel)) ggX1_isLoan_X1_isIn
theorem dX1_isLoan_0 : decode cX1_isLoan 0 = .ok (.iload_n 1, 1) := by decide +kernel
theorem dX1_isLoan_1 : decode cX1_isLoan 1 = .ok (.iconst 0, 1) := by decide +kernel
theorem dX1_isLoan_2 : decode cX1_isLoan 2 = .ok (.aload_n 0, 1) := by decide +kernel
theorem dX1_isLoan_3 : decode cX1_isLoan 3 = .ok (.getfield 64, 3) := by decide +kernel
theorem dX1_isLoan_6 : decode cX1_isLoan 6 = .ok (.iconst 1, 1) := by decide +kernel
theorem dX1_isLoan_7 : decode cX1_isLoan 7 = .ok (.isub, 1) := by decide +kernel
theorem dX1_isLoan_8 : decode cX1_isLoan 8 = .ok (.invokestatic 60, 3) := by decide +kernel
theorem dX1_isLoan_11 : decode cX1_isLoan 11 = .ok (.ireturn, 1) := by decide +kernel
theorem dX1_holderOf_0 : decode cX1_holderOf 0 = .ok (.aload_n 0, 1) := by decide +kernel
theorem dX1_holderOf_1 : decode cX1_holderOf 1 = .ok (.getfield 27, 3) := by decide +kernel
theorem dX1_holderOf_4 : decode cX1_holderOf 4 = .ok (.iload_n 1, 1) := by decide +kernel
theorem dX1_holderOf_5 : decode cX1_holderOf 5 = .ok (.iaload, 1) := by decide +kernel
theorem dX1_holderOf_6 : decode cX1_holderOf 6 = .ok (.iconst (-1), 1) := by decide +kernel
theorem dX1_holderOf_7 : decode cX1_holderOf 7 = .ok (.if_icmp .ne 12, 3) := by decide +kernel
theorem dX1_holderOf_10 : decode cX1_holderOf 10 = .ok (.aload_n 0, 1) := by decide +kernel
theorem dX1_holderOf_11 : decode cX1_holderOf 11 = .ok (.getfield 13, 3) := by decide +kernel
theorem dX1_holderOf_14 : decode cX1_holderOf 14 = .ok (.iload_n 1, 1) := by decide +kernel
theorem dX1_holderOf_15 : decode cX1_holderOf 15 = .ok (.iaload, 1) := by decide +kernel
theorem dX1_holderOf_16 : decode cX1_holderOf 16 = .ok (.goto 14, 3) := by decide +kernel
theorem dX1_holderOf_19 : decode cX1_holderOf 19 = .ok (.aload_n 0, 1) := by decide +kernel
theorem dX1_holderOf_20 : decode cX1_holderOf 20 = .ok (.getfield 48, 3) := by decide +kernel
theorem dX1_holderOf_23 : decode cX1_holderOf 23 = .ok (.aload_n 0, 1) := by decide +kernel
theorem dX1_holderOf_24 : decode cX1_holderOf 24 = .ok (.getfield 27, 3) := by decide +kernel
theorem dX1_holderOf_27 : decode cX1_holderOf 27 = .ok (.iload_n 1, 1) := by decide +kernel
theorem dX1_holderOf_28 : decode cX1_holderOf 28 = .ok (.iaload, 1) := by decide +kernel
theorem dX1_holderOf_29 : decode cX1_holderOf 29 = .ok (.iaload, 1) := by decide +kernel
theorem dX1_holderOf_30 : decode cX1_holderOf 30 = .ok (.ireturn, 1) := by decide +kernel
theorem dX1_isEmpty_0 : decode cX1_isEmpty 0 = .ok (.aload_n 0, 1) := by decide +kernel
theorem dX1_isEmpty_1 : decode cX1_isEmpty 1 = .ok (.getfield 17, 3) := by decide +kernel
theorem dX1_isEmpty_4 : decode cX1_isEmpty 4 = .ok (.iload_n 1, 1) := by decide +kernel
theorem dX1_isEmpty_5 : decode cX1_isEmpty 5 = .ok (.iaload, 1) := by decide +kernel
theorem dX1_isEmpty_6 : decode cX1_isEmpty 6 = .ok (.iconst (-1), 1) := by decide +kernel
theorem dX1_isEmpty_7 : decode cX1_isEmpty 7 = .ok (.if_icmp .ne 7, 3) := by decide +kernel
theorem dX1_isEmpty_10 : decode cX1_isEmpty 10 = .ok (.iconst 1, 1) := by decide +kernel
theorem dX1_isEmpty_11 : decode cX1_isEmpty 11 = .ok (.goto 4, 3) := by decide +kernel
theorem dX1_isEmpty_14 : decode cX1_isEmpty 14 = .ok (.iconst 0, 1) := by decide +kernel
theorem dX1_isEmpty_15 : decode cX1_isEmpty 15 = .ok (.ireturn, 1) := by decide +kernel
theorem dX1_isComing_0 : decode cX1_isComing 0 = .ok (.aload_n 0, 1) := by decide +kernel
theorem dX1_isComing_1 : decode cX1_isComing 1 = .ok (.getfield 17, 3) := by decide +kernel
theorem dX1_isComing_4 : decode cX1_isComing 4 = .ok (.iload_n 1, 1) := by decide +kernel
theorem dX1_isComing_5 : decode cX1_isComing 5 = .ok (.iaload, 1) := by decide +kernel
theorem dX1_isComing_6 : decode cX1_isComing 6 = .ok (.iconst (-1), 1) := by decide +kernel
theorem dX1_isComing_7 : decode cX1_isComing 7 = .ok (.if_icmp .eq 16, 3) := by decide +kernel
theorem dX1_isComing_10 : decode cX1_isComing 10 = .ok (.aload_n 0, 1) := by decide +kernel
theorem dX1_isComing_11 : decode cX1_isComing 11 = .ok (.getfield 20, 3) := by decide +kernel
theorem dX1_isComing_14 : decode cX1_isComing 14 = .ok (.iload_n 1, 1) := by decide +kernel
theorem dX1_isComing_15 : decode cX1_isComing 15 = .ok (.baload, 1) := by decide +kernel
theorem dX1_isComing_16 : decode cX1_isComing 16 = .ok (.ifCond .ne 7, 3) := by decide +kernel
theorem dX1_isComing_19 : decode cX1_isComing 19 = .ok (.iconst 1, 1) := by decide +kernel
theorem dX1_isComing_20 : decode cX1_isComing 20 = .ok (.goto 4, 3) := by decide +kernel
theorem dX1_isComing_23 : decode cX1_isComing 23 = .ok (.iconst 0, 1) := by decide +kernel
theorem dX1_isComing_24 : decode cX1_isComing 24 = .ok (.ireturn, 1) := by decide +kernel
theorem dX1_hasPage_0 : decode cX1_hasPage 0 = .ok (.aload_n 0, 1) := by decide +kernel
theorem dX1_hasPage_1 : decode cX1_hasPage 1 = .ok (.getfield 17, 3) := by decide +kernel
theorem dX1_hasPage_4 : decode cX1_hasPage 4 = .ok (.iload_n 1, 1) := by decide +kernel
theorem dX1_hasPage_5 : decode cX1_hasPage 5 = .ok (.iaload, 1) := by decide +kernel
theorem dX1_hasPage_6 : decode cX1_hasPage 6 = .ok (.iconst (-1), 1) := by decide +kernel
theorem dX1_hasPage_7 : decode cX1_hasPage 7 = .ok (.if_icmp .eq 16, 3) := by decide +kernel
theorem dX1_hasPage_10 : decode cX1_hasPage 10 = .ok (.aload_n 0, 1) := by decide +kernel
theorem dX1_hasPage_11 : decode cX1_hasPage 11 = .ok (.getfield 20, 3) := by decide +kernel
theorem dX1_hasPage_14 : decode cX1_hasPage 14 = .ok (.iload_n 1, 1) := by decide +kernel
theorem dX1_hasPage_15 : decode cX1_hasPage 15 = .ok (.baload, 1) := by decide +kernel
theorem dX1_hasPage_16 : decode cX1_hasPage 16 = .ok (.ifCond .eq 7, 3) := by decide +kernel
theorem dX1_hasPage_19 : decode cX1_hasPage 19 = .ok (.iconst 1, 1) := by decide +kernel
theorem dX1_hasPage_20 : decode cX1_hasPage 20 = .ok (.goto 4, 3) := by decide +kernel
theorem dX1_hasPage_23 : decode cX1_hasPage 23 = .ok (.iconst 0, 1) := by decide +kernel
theorem dX1_hasPage_24 : decode cX1_hasPage 24 = .ok (.ireturn, 1) := by decide +kernel
set_option maxRecDepth 20000 in
theorem ggX1_ageOf_X1_hasPage : GoodIn wsX1_ageOf wsX1_hasPage := goodIn_r _ [7, 8, 9, 10, 11, 12, 13, 14, 15, 16, 17, 18, 19, 20, 21, 22, 23, 24, 25, 26, 27, 28] (by decide +kernel) (by decide +kernel)
set_option maxRecDepth 20000 in
theorem gX1_ageOf_X1_hasPage : GoodIn wsX1_ageOf (wsV RX1 67 RX1 yX1_hasPage wsX1_hasPage) := goodIn_app (goodIn_of _ (by decide +kernel)) ggX1_ageOf_X1_hasPage
theorem dX1_ageOf_0 : decode cX1_ageOf 0 = .ok (.aload_n 0, 1) := by decide +kernel
theorem dX1_ageOf_1 : decode cX1_ageOf 1 = .ok (.iload_n 1, 1) := by decide +kernel
theorem dX1_ageOf_2 : decode cX1_ageOf 2 = .ok (.invokevirtual 67, 3) := by decide +kernel
theorem dX1_ageOf_5 : decode cX1_ageOf 5 = .ok (.ifCond .eq 17, 3) := by decide +kernel
theorem dX1_ageOf_8 : decode cX1_ageOf 8 = .ok (.aload_n 0, 1) := by decide +kernel
theorem dX1_ageOf_9 : decode cX1_ageOf 9 = .ok (.getfield 71, 3) := by decide +kernel
theorem dX1_ageOf_12 : decode cX1_ageOf 12 = .ok (.aload_n 0, 1) := by decide +kernel
theorem dX1_ageOf_13 : decode cX1_ageOf 13 = .ok (.getfield 24, 3) := by decide +kernel
theorem dX1_ageOf_16 : decode cX1_ageOf 16 = .ok (.iload_n 1, 1) := by decide +kernel
theorem dX1_ageOf_17 : decode cX1_ageOf 17 = .ok (.iaload, 1) := by decide +kernel
theorem dX1_ageOf_18 : decode cX1_ageOf 18 = .ok (.isub, 1) := by decide +kernel
theorem dX1_ageOf_19 : decode cX1_ageOf 19 = .ok (.goto 4, 3) := by decide +kernel
theorem dX1_ageOf_22 : decode cX1_ageOf 22 = .ok (.iconst (-1), 1) := by decide +kernel
theorem dX1_ageOf_23 : decode cX1_ageOf 23 = .ok (.ireturn, 1) := by decide +kernel
theorem dX1_doesLast_0 : decode cX1_doesLast 0 = .ok (.aload_n 0, 1) := by decide +kernel
theorem dX1_doesLast_1 : decode cX1_doesLast 1 = .ok (.getfield 27, 3) := by decide +kernel
theorem dX1_doesLast_4 : decode cX1_doesLast 4 = .ok (.aload_n 0, 1) := by decide +kernel
theorem dX1_doesLast_5 : decode cX1_doesLast 5 = .ok (.getfield 42, 3) := by decide +kernel
theorem dX1_doesLast_8 : decode cX1_doesLast 8 = .ok (.iload_n 1, 1) := by decide +kernel
theorem dX1_doesLast_9 : decode cX1_doesLast 9 = .ok (.iaload, 1) := by decide +kernel
theorem dX1_doesLast_10 : decode cX1_doesLast 10 = .ok (.iaload, 1) := by decide +kernel
theorem dX1_doesLast_11 : decode cX1_doesLast 11 = .ok (.iload_n 1, 1) := by decide +kernel
theorem dX1_doesLast_12 : decode cX1_doesLast 12 = .ok (.if_icmp .ne 7, 3) := by decide +kernel
theorem dX1_doesLast_15 : decode cX1_doesLast 15 = .ok (.iconst 1, 1) := by decide +kernel
theorem dX1_doesLast_16 : decode cX1_doesLast 16 = .ok (.goto 4, 3) := by decide +kernel
theorem dX1_doesLast_19 : decode cX1_doesLast 19 = .ok (.iconst 0, 1) := by decide +kernel
theorem dX1_doesLast_20 : decode cX1_doesLast 20 = .ok (.ireturn, 1) := by decide +kernel
set_option maxRecDepth 20000 in
theorem ggX1_setWage_X1_isProcess : GoodIn wsX1_setWage wsX1_isProcess := goodIn_r _ [5, 6, 7, 4, 8] (by decide +kernel) (by decide +kernel)
set_option maxRecDepth 20000 in
theorem gX1_setWage_X1_isProcess : GoodIn wsX1_setWage (va_wsS RX1 74 yX1_isProcess wsX1_isProcess) := goodIn_app (goodIn_of _ (by decide +kernel)) ggX1_setWage_X1_isProcess
set_option maxRecDepth 20000 in
theorem ggX1_setWage_X1_isIn : GoodIn wsX1_setWage wsX1_isIn := goodIn_r _ [8] (by decide +kernel) (by decide +kernel)
set_option maxRecDepth 20000 in
theorem gX1_setWage_X1_isIn : GoodIn wsX1_setWage (va_wsS RX1 60 yX1_isIn wsX1_isIn) := goodIn_app (goodIn_of _ (by decide +kernel)) ggX1_setWage_X1_isIn
set_option maxRecDepth 20000 in
theorem ggX1_setWage_X1_goes : GoodIn wsX1_setWage wsX1_goes := goodIn_r _ [12, 13, 14, 15, 16, 17, 18, 19, 20, 21, 22, 23, 24, 25, 26, 27, 28, 29, 30, 31, 32] (by decide +kernel) (by decide +kernel)
set_option maxRecDepth 20000 in
theorem gX1_setWage_X1_goes : GoodIn wsX1_setWage (wsV RX1 77 RX1 yX1_goes wsX1_goes) := goodIn_app (goodIn_of _ (by decide +kernel)) ggX1_setWage_X1_goes
theorem dX1_setWage_0 : decode cX1_setWage 0 = .ok (.aload_n 0, 1) := by decide +kernel
theorem dX1_setWage_1 : decode cX1_setWage 1 = .ok (.iload_n 1, 1) := by decide +kernel
theorem dX1_setWage_2 : decode cX1_setWage 2 = .ok (.invokestatic 74, 3) := by decide +kernel
theorem dX1_setWage_5 : decode cX1_setWage 5 = .ok (.ifCond .ne 7, 3) := by decide +kernel
theorem dX1_setWage_8 : decode cX1_setWage 8 = .ok (.iconst 1, 1) := by decide +kernel
theorem dX1_setWage_9 : decode cX1_setWage 9 = .ok (.goto 18, 3) := by decide +kernel
theorem dX1_setWage_12 : decode cX1_setWage 12 = .ok (.iload_n 2, 1) := by decide +kernel
theorem dX1_setWage_13 : decode cX1_setWage 13 = .ok (.iconst 0, 1) := by decide +kernel
theorem dX1_setWage_14 : decode cX1_setWage 14 = .ok (.bipush 9, 2) := by decide +kernel
theorem dX1_setWage_16 : decode cX1_setWage 16 = .ok (.invokestatic 60, 3) := by decide +kernel
theorem dX1_setWage_19 : decode cX1_setWage 19 = .ok (.ifCond .eq 7, 3) := by decide +kernel
theorem dX1_setWage_22 : decode cX1_setWage 22 = .ok (.iconst 0, 1) := by decide +kernel
theorem dX1_setWage_23 : decode cX1_setWage 23 = .ok (.goto 4, 3) := by decide +kernel
theorem dX1_setWage_26 : decode cX1_setWage 26 = .ok (.iconst 2, 1) := by decide +kernel
theorem dX1_setWage_27 : decode cX1_setWage 27 = .ok (.invokevirtual 77, 3) := by decide +kernel
theorem dX1_setWage_30 : decode cX1_setWage 30 = .ok (.ifCond .ne 5, 3) := by decide +kernel
theorem dX1_setWage_33 : decode cX1_setWage 33 = .ok (.iconst 0, 1) := by decide +kernel
theorem dX1_setWage_34 : decode cX1_setWage 34 = .ok (.ireturn, 1) := by decide +kernel
theorem dX1_setWage_35 : decode cX1_setWage 35 = .ok (.aload_n 0, 1) := by decide +kernel
theorem dX1_setWage_36 : decode cX1_setWage 36 = .ok (.getfield 30, 3) := by decide +kernel
theorem dX1_setWage_39 : decode cX1_setWage 39 = .ok (.iload_n 1, 1) := by decide +kernel
theorem dX1_setWage_40 : decode cX1_setWage 40 = .ok (.iaload, 1) := by decide +kernel
theorem dX1_setWage_41 : decode cX1_setWage 41 = .ok (.istore_n 3, 1) := by decide +kernel
theorem dX1_setWage_42 : decode cX1_setWage 42 = .ok (.aload_n 0, 1) := by decide +kernel
theorem dX1_setWage_43 : decode cX1_setWage 43 = .ok (.getfield 30, 3) := by decide +kernel
theorem dX1_setWage_46 : decode cX1_setWage 46 = .ok (.iload_n 1, 1) := by decide +kernel
theorem dX1_setWage_47 : decode cX1_setWage 47 = .ok (.iload_n 2, 1) := by decide +kernel
theorem dX1_setWage_48 : decode cX1_setWage 48 = .ok (.iastore, 1) := by decide +kernel
theorem dX1_setWage_49 : decode cX1_setWage 49 = .ok (.iload_n 3, 1) := by decide +kernel
theorem dX1_setWage_50 : decode cX1_setWage 50 = .ok (.ireturn, 1) := by decide +kernel
set_option maxRecDepth 20000 in
theorem ggX1_setRate_X1_isIn : GoodIn wsX1_setRate wsX1_isIn := goodIn_r _ [5] (by decide +kernel) (by decide +kernel)
set_option maxRecDepth 20000 in
theorem gX1_setRate_X1_isIn : GoodIn wsX1_setRate (va_wsS RX1 60 yX1_isIn wsX1_isIn) := goodIn_app (goodIn_of _ (by decide +kernel)) ggX1_setRate_X1_isIn
set_option maxRecDepth 20000 in
theorem ggX1_setRate_X1_goes : GoodIn wsX1_setRate wsX1_goes := goodIn_r _ [9, 10, 11, 12, 13, 14, 15, 16, 17, 18, 19, 20, 21, 22, 23, 24, 25, 26, 27, 28, 29] (by decide +kernel) (by decide +kernel)
set_option maxRecDepth 20000 in
theorem gX1_setRate_X1_goes : GoodIn wsX1_setRate (wsV RX1 77 RX1 yX1_goes wsX1_goes) := goodIn_app (goodIn_of _ (by decide +kernel)) ggX1_setRate_X1_goes
theorem dX1_setRate_0 : decode cX1_setRate 0 = .ok (.aload_n 0, 1) := by decide +kernel
theorem dX1_setRate_1 : decode cX1_setRate 1 = .ok (.iload_n 1, 1) := by decide +kernel
theorem dX1_setRate_2 : decode cX1_setRate 2 = .ok (.iconst 0, 1) := by decide +kernel
theorem dX1_setRate_3 : decode cX1_setRate 3 = .ok (.bipush 9, 2) := by decide +kernel
theorem dX1_setRate_5 : decode cX1_setRate 5 = .ok (.invokestatic 60, 3) := by decide +kernel
theorem dX1_setRate_8 : decode cX1_setRate 8 = .ok (.ifCond .eq 7, 3) := by decide +kernel
theorem dX1_setRate_11 : decode cX1_setRate 11 = .ok (.iconst 0, 1) := by decide +kernel
theorem dX1_setRate_12 : decode cX1_setRate 12 = .ok (.goto 4, 3) := by decide +kernel
theorem dX1_setRate_15 : decode cX1_setRate 15 = .ok (.iconst 1, 1) := by decide +kernel
theorem dX1_setRate_16 : decode cX1_setRate 16 = .ok (.invokevirtual 77, 3) := by decide +kernel
theorem dX1_setRate_19 : decode cX1_setRate 19 = .ok (.ifCond .ne 5, 3) := by decide +kernel
theorem dX1_setRate_22 : decode cX1_setRate 22 = .ok (.iconst 0, 1) := by decide +kernel
theorem dX1_setRate_23 : decode cX1_setRate 23 = .ok (.ireturn, 1) := by decide +kernel
theorem dX1_setRate_24 : decode cX1_setRate 24 = .ok (.aload_n 0, 1) := by decide +kernel
theorem dX1_setRate_25 : decode cX1_setRate 25 = .ok (.getfield 7, 3) := by decide +kernel
theorem dX1_setRate_28 : decode cX1_setRate 28 = .ok (.istore_n 2, 1) := by decide +kernel
theorem dX1_setRate_29 : decode cX1_setRate 29 = .ok (.aload_n 0, 1) := by decide +kernel
theorem dX1_setRate_30 : decode cX1_setRate 30 = .ok (.iload_n 1, 1) := by decide +kernel
theorem dX1_setRate_31 : decode cX1_setRate 31 = .ok (.putfield 7, 3) := by decide +kernel
theorem dX1_setRate_34 : decode cX1_setRate 34 = .ok (.iload_n 2, 1) := by decide +kernel
theorem dX1_setRate_35 : decode cX1_setRate 35 = .ok (.ireturn, 1) := by decide +kernel
theorem dX1_lowestFree_0 : decode cX1_lowestFree 0 = .ok (.iconst (-1), 1) := by decide +kernel
theorem dX1_lowestFree_1 : decode cX1_lowestFree 1 = .ok (.istore_n 1, 1) := by decide +kernel
theorem dX1_lowestFree_2 : decode cX1_lowestFree 2 = .ok (.bipush 11, 2) := by decide +kernel
theorem dX1_lowestFree_4 : decode cX1_lowestFree 4 = .ok (.istore_n 2, 1) := by decide +kernel
theorem dX1_lowestFree_5 : decode cX1_lowestFree 5 = .ok (.iload_n 2, 1) := by decide +kernel
theorem dX1_lowestFree_6 : decode cX1_lowestFree 6 = .ok (.ifCond .lt 25, 3) := by decide +kernel
theorem dX1_lowestFree_9 : decode cX1_lowestFree 9 = .ok (.aload_n 0, 1) := by decide +kernel
theorem dX1_lowestFree_10 : decode cX1_lowestFree 10 = .ok (.getfield 13, 3) := by decide +kernel
theorem dX1_lowestFree_13 : decode cX1_lowestFree 13 = .ok (.iload_n 2, 1) := by decide +kernel
theorem dX1_lowestFree_14 : decode cX1_lowestFree 14 = .ok (.iaload, 1) := by decide +kernel
theorem dX1_lowestFree_15 : decode cX1_lowestFree 15 = .ok (.iconst (-1), 1) := by decide +kernel
theorem dX1_lowestFree_16 : decode cX1_lowestFree 16 = .ok (.if_icmp .ne 7, 3) := by decide +kernel
theorem dX1_lowestFree_19 : decode cX1_lowestFree 19 = .ok (.iload_n 2, 1) := by decide +kernel
theorem dX1_lowestFree_20 : decode cX1_lowestFree 20 = .ok (.goto 4, 3) := by decide +kernel
theorem dX1_lowestFree_23 : decode cX1_lowestFree 23 = .ok (.iload_n 1, 1) := by decide +kernel
theorem dX1_lowestFree_24 : decode cX1_lowestFree 24 = .ok (.istore_n 1, 1) := by decide +kernel
theorem dX1_lowestFree_25 : decode cX1_lowestFree 25 = .ok (.iinc 2 (-1), 3) := by decide +kernel
theorem dX1_lowestFree_28 : decode cX1_lowestFree 28 = .ok (.goto (-23), 3) := by decide +kernel
theorem dX1_lowestFree_31 : decode cX1_lowestFree 31 = .ok (.iload_n 1, 1) := by decide +kernel
theorem dX1_lowestFree_32 : decode cX1_lowestFree 32 = .ok (.ireturn, 1) := by decide +kernel
set_option maxRecDepth 20000 in
theorem ggX1_buy_X1_lowestFree : GoodIn wsX1_buy wsX1_lowestFree := goodIn_r _ [8, 3, 20, 21, 22, 23, 24, 25, 26, 27, 28, 29, 30, 31, 32, 33, 34, 35, 36, 37, 38] (by decide +kernel) (by decide +kernel)
set_option maxRecDepth 20000 in
theorem gX1_buy_X1_lowestFree : GoodIn wsX1_buy (wsV RX1 80 RX1 yX1_lowestFree wsX1_lowestFree) := goodIn_app (goodIn_of _ (by decide +kernel)) ggX1_buy_X1_lowestFree
set_option maxRecDepth 20000 in
theorem ggX1_buy_X1_isProcess : GoodIn wsX1_buy wsX1_isProcess := goodIn_r _ [11, 12, 13, 7, 14] (by decide +kernel) (by decide +kernel)
set_option maxRecDepth 20000 in
theorem gX1_buy_X1_isProcess : GoodIn wsX1_buy (va_wsS RX1 74 yX1_isProcess wsX1_isProcess) := goodIn_app (goodIn_of _ (by decide +kernel)) ggX1_buy_X1_isProcess
set_option maxRecDepth 20000 in
theorem ggX1_buy_X1_goes : GoodIn wsX1_buy wsX1_goes := goodIn_r _ [18, 19, 20, 21, 22, 23, 24, 25, 26, 27, 28, 29, 30, 31, 32, 33, 34, 35, 36, 37, 38] (by decide +kernel) (by decide +kernel)
set_option maxRecDepth 20000 in
theorem gX1_buy_X1_goes : GoodIn wsX1_buy (wsV RX1 77 RX1 yX1_goes wsX1_goes) := goodIn_app (goodIn_of _ (by decide +kernel)) ggX1_buy_X1_goes
theorem dX1_buy_0 : decode cX1_buy 0 = .ok (.aload_n 0, 1) := by decide +kernel
theorem dX1_buy_1 : decode cX1_buy 1 = .ok (.invokevirtual 80, 3) := by decide +kernel
theorem dX1_buy_4 : decode cX1_buy 4 = .ok (.istore_n 2, 1) := by decide +kernel
theorem dX1_buy_5 : decode cX1_buy 5 = .ok (.aload_n 0, 1) := by decide +kernel
theorem dX1_buy_6 : decode cX1_buy 6 = .ok (.iload_n 1, 1) := by decide +kernel
theorem dX1_buy_7 : decode cX1_buy 7 = .ok (.invokestatic 74, 3) := by decide +kernel
theorem dX1_buy_10 : decode cX1_buy 10 = .ok (.ifCond .eq 7, 3) := by decide +kernel
theorem dX1_buy_13 : decode cX1_buy 13 = .ok (.iconst 0, 1) := by decide +kernel
theorem dX1_buy_14 : decode cX1_buy 14 = .ok (.goto 4, 3) := by decide +kernel
theorem dX1_buy_17 : decode cX1_buy 17 = .ok (.iconst 1, 1) := by decide +kernel
theorem dX1_buy_18 : decode cX1_buy 18 = .ok (.invokevirtual 77, 3) := by decide +kernel
theorem dX1_buy_21 : decode cX1_buy 21 = .ok (.ifCond .eq 41, 3) := by decide +kernel
theorem dX1_buy_24 : decode cX1_buy 24 = .ok (.aload_n 0, 1) := by decide +kernel
theorem dX1_buy_25 : decode cX1_buy 25 = .ok (.aload_n 0, 1) := by decide +kernel
theorem dX1_buy_26 : decode cX1_buy 26 = .ok (.getfield 36, 3) := by decide +kernel
theorem dX1_buy_29 : decode cX1_buy 29 = .ok (.iload_n 1, 1) := by decide +kernel
theorem dX1_buy_30 : decode cX1_buy 30 = .ok (.iaload, 1) := by decide +kernel
theorem dX1_buy_31 : decode cX1_buy 31 = .ok (.iconst 2, 1) := by decide +kernel
theorem dX1_buy_32 : decode cX1_buy 32 = .ok (.if_icmp .eq 19, 3) := by decide +kernel
theorem dX1_buy_35 : decode cX1_buy 35 = .ok (.iload_n 2, 1) := by decide +kernel
theorem dX1_buy_36 : decode cX1_buy 36 = .ok (.iconst (-1), 1) := by decide +kernel
theorem dX1_buy_37 : decode cX1_buy 37 = .ok (.if_icmp .eq 14, 3) := by decide +kernel
theorem dX1_buy_40 : decode cX1_buy 40 = .ok (.aload_n 0, 1) := by decide +kernel
theorem dX1_buy_41 : decode cX1_buy 41 = .ok (.getfield 33, 3) := by decide +kernel
theorem dX1_buy_44 : decode cX1_buy 44 = .ok (.iload_n 1, 1) := by decide +kernel
theorem dX1_buy_45 : decode cX1_buy 45 = .ok (.iaload, 1) := by decide +kernel
theorem dX1_buy_46 : decode cX1_buy 46 = .ok (.bipush 8, 2) := by decide +kernel
theorem dX1_buy_48 : decode cX1_buy 48 = .ok (.if_icmp .ge 7, 3) := by decide +kernel
theorem dX1_buy_51 : decode cX1_buy 51 = .ok (.iconst 2, 1) := by decide +kernel
theorem dX1_buy_52 : decode cX1_buy 52 = .ok (.goto 4, 3) := by decide +kernel
theorem dX1_buy_55 : decode cX1_buy 55 = .ok (.iconst 0, 1) := by decide +kernel
theorem dX1_buy_56 : decode cX1_buy 56 = .ok (.invokevirtual 77, 3) := by decide +kernel
theorem dX1_buy_59 : decode cX1_buy 59 = .ok (.ifCond .ne 5, 3) := by decide +kernel
theorem dX1_buy_62 : decode cX1_buy 62 = .ok (.iconst 0, 1) := by decide +kernel
theorem dX1_buy_63 : decode cX1_buy 63 = .ok (.ireturn, 1) := by decide +kernel
theorem dX1_buy_64 : decode cX1_buy 64 = .ok (.aload_n 0, 1) := by decide +kernel
theorem dX1_buy_65 : decode cX1_buy 65 = .ok (.getfield 33, 3) := by decide +kernel
theorem dX1_buy_68 : decode cX1_buy 68 = .ok (.iload_n 1, 1) := by decide +kernel
theorem dX1_buy_69 : decode cX1_buy 69 = .ok (.dup2, 1) := by decide +kernel
theorem dX1_buy_70 : decode cX1_buy 70 = .ok (.iaload, 1) := by decide +kernel
theorem dX1_buy_71 : decode cX1_buy 71 = .ok (.bipush 8, 2) := by decide +kernel
theorem dX1_buy_73 : decode cX1_buy 73 = .ok (.isub, 1) := by decide +kernel
theorem dX1_buy_74 : decode cX1_buy 74 = .ok (.iastore, 1) := by decide +kernel
theorem dX1_buy_75 : decode cX1_buy 75 = .ok (.aload_n 0, 1) := by decide +kernel
theorem dX1_buy_76 : decode cX1_buy 76 = .ok (.getfield 13, 3) := by decide +kernel
theorem dX1_buy_79 : decode cX1_buy 79 = .ok (.iload_n 2, 1) := by decide +kernel
theorem dX1_buy_80 : decode cX1_buy 80 = .ok (.iload_n 1, 1) := by decide +kernel
theorem dX1_buy_81 : decode cX1_buy 81 = .ok (.iastore, 1) := by decide +kernel
theorem dX1_buy_82 : decode cX1_buy 82 = .ok (.iload_n 2, 1) := by decide +kernel
theorem dX1_buy_83 : decode cX1_buy 83 = .ok (.ireturn, 1) := by decide +kernel
set_option maxRecDepth 20000 in
theorem ggX1_sell_X1_isFrame : GoodIn wsX1_sell wsX1_isFrame := goodIn_r _ [8, 9, 10, 7, 11] (by decide +kernel) (by decide +kernel)
set_option maxRecDepth 20000 in
theorem gX1_sell_X1_isFrame : GoodIn wsX1_sell (va_wsS RX1 84 yX1_isFrame wsX1_isFrame) := goodIn_app (goodIn_of _ (by decide +kernel)) ggX1_sell_X1_isFrame
set_option maxRecDepth 20000 in
theorem ggX1_sell_X1_goes : GoodIn wsX1_sell wsX1_goes := goodIn_r _ [15, 16, 22, 23, 24, 25, 26, 27, 28, 29, 30, 31, 32, 33, 34, 35, 36, 37, 38, 39, 40] (by decide +kernel) (by decide +kernel)
set_option maxRecDepth 20000 in
theorem gX1_sell_X1_goes : GoodIn wsX1_sell (wsV RX1 77 RX1 yX1_goes wsX1_goes) := goodIn_app (goodIn_of _ (by decide +kernel)) ggX1_sell_X1_goes
set_option maxRecDepth 20000 in
theorem ggX1_sell_X1_isEmpty : GoodIn wsX1_sell wsX1_isEmpty := goodIn_r _ [20, 21, 22, 23, 24, 25, 26, 27, 28, 29, 30, 31, 32, 33, 34, 35, 36, 37, 38, 39, 40] (by decide +kernel) (by decide +kernel)
set_option maxRecDepth 20000 in
theorem gX1_sell_X1_isEmpty : GoodIn wsX1_sell (wsV RX1 87 RX1 yX1_isEmpty wsX1_isEmpty) := goodIn_app (goodIn_of _ (by decide +kernel)) ggX1_sell_X1_isEmpty
theorem dX1_sell_0 : decode cX1_sell 0 = .ok (.aload_n 0, 1) := by decide +kernel
theorem dX1_sell_1 : decode cX1_sell 1 = .ok (.iload_n 1, 1) := by decide +kernel
theorem dX1_sell_2 : decode cX1_sell 2 = .ok (.invokestatic 84, 3) := by decide +kernel
theorem dX1_sell_5 : decode cX1_sell 5 = .ok (.ifCond .eq 7, 3) := by decide +kernel
theorem dX1_sell_8 : decode cX1_sell 8 = .ok (.iconst 0, 1) := by decide +kernel
theorem dX1_sell_9 : decode cX1_sell 9 = .ok (.goto 4, 3) := by decide +kernel
theorem dX1_sell_12 : decode cX1_sell 12 = .ok (.iconst 1, 1) := by decide +kernel
theorem dX1_sell_13 : decode cX1_sell 13 = .ok (.invokevirtual 77, 3) := by decide +kernel
theorem dX1_sell_16 : decode cX1_sell 16 = .ok (.ifCond .ne 5, 3) := by decide +kernel
theorem dX1_sell_19 : decode cX1_sell 19 = .ok (.iconst 0, 1) := by decide +kernel
theorem dX1_sell_20 : decode cX1_sell 20 = .ok (.ireturn, 1) := by decide +kernel
theorem dX1_sell_21 : decode cX1_sell 21 = .ok (.aload_n 0, 1) := by decide +kernel
theorem dX1_sell_22 : decode cX1_sell 22 = .ok (.getfield 13, 3) := by decide +kernel
theorem dX1_sell_25 : decode cX1_sell 25 = .ok (.iload_n 1, 1) := by decide +kernel
theorem dX1_sell_26 : decode cX1_sell 26 = .ok (.iaload, 1) := by decide +kernel
theorem dX1_sell_27 : decode cX1_sell 27 = .ok (.istore_n 2, 1) := by decide +kernel
theorem dX1_sell_28 : decode cX1_sell 28 = .ok (.aload_n 0, 1) := by decide +kernel
theorem dX1_sell_29 : decode cX1_sell 29 = .ok (.iload_n 2, 1) := by decide +kernel
theorem dX1_sell_30 : decode cX1_sell 30 = .ok (.iconst (-1), 1) := by decide +kernel
theorem dX1_sell_31 : decode cX1_sell 31 = .ok (.if_icmp .eq 31, 3) := by decide +kernel
theorem dX1_sell_34 : decode cX1_sell 34 = .ok (.aload_n 0, 1) := by decide +kernel
theorem dX1_sell_35 : decode cX1_sell 35 = .ok (.getfield 27, 3) := by decide +kernel
theorem dX1_sell_38 : decode cX1_sell 38 = .ok (.iload_n 1, 1) := by decide +kernel
theorem dX1_sell_39 : decode cX1_sell 39 = .ok (.iaload, 1) := by decide +kernel
theorem dX1_sell_40 : decode cX1_sell 40 = .ok (.iconst (-1), 1) := by decide +kernel
theorem dX1_sell_41 : decode cX1_sell 41 = .ok (.if_icmp .ne 21, 3) := by decide +kernel
theorem dX1_sell_44 : decode cX1_sell 44 = .ok (.aload_n 0, 1) := by decide +kernel
theorem dX1_sell_45 : decode cX1_sell 45 = .ok (.iload_n 1, 1) := by decide +kernel
theorem dX1_sell_46 : decode cX1_sell 46 = .ok (.invokevirtual 87, 3) := by decide +kernel
theorem dX1_sell_49 : decode cX1_sell 49 = .ok (.ifCond .eq 13, 3) := by decide +kernel
theorem dX1_sell_52 : decode cX1_sell 52 = .ok (.aload_n 0, 1) := by decide +kernel
theorem dX1_sell_53 : decode cX1_sell 53 = .ok (.getfield 36, 3) := by decide +kernel
theorem dX1_sell_56 : decode cX1_sell 56 = .ok (.iload_n 2, 1) := by decide +kernel
theorem dX1_sell_57 : decode cX1_sell 57 = .ok (.iaload, 1) := by decide +kernel
theorem dX1_sell_58 : decode cX1_sell 58 = .ok (.iconst 2, 1) := by decide +kernel
theorem dX1_sell_59 : decode cX1_sell 59 = .ok (.if_icmp .ne 7, 3) := by decide +kernel
theorem dX1_sell_62 : decode cX1_sell 62 = .ok (.iconst 2, 1) := by decide +kernel
theorem dX1_sell_63 : decode cX1_sell 63 = .ok (.goto 4, 3) := by decide +kernel
theorem dX1_sell_66 : decode cX1_sell 66 = .ok (.iconst 0, 1) := by decide +kernel
theorem dX1_sell_67 : decode cX1_sell 67 = .ok (.invokevirtual 77, 3) := by decide +kernel
theorem dX1_sell_70 : decode cX1_sell 70 = .ok (.ifCond .ne 5, 3) := by decide +kernel
theorem dX1_sell_73 : decode cX1_sell 73 = .ok (.iconst 0, 1) := by decide +kernel
theorem dX1_sell_74 : decode cX1_sell 74 = .ok (.ireturn, 1) := by decide +kernel
theorem dX1_sell_75 : decode cX1_sell 75 = .ok (.aload_n 0, 1) := by decide +kernel
theorem dX1_sell_76 : decode cX1_sell 76 = .ok (.getfield 33, 3) := by decide +kernel
theorem dX1_sell_79 : decode cX1_sell 79 = .ok (.iload_n 2, 1) := by decide +kernel
theorem dX1_sell_80 : decode cX1_sell 80 = .ok (.dup2, 1) := by decide +kernel
theorem dX1_sell_81 : decode cX1_sell 81 = .ok (.iaload, 1) := by decide +kernel
theorem dX1_sell_82 : decode cX1_sell 82 = .ok (.iconst 4, 1) := by decide +kernel
theorem dX1_sell_83 : decode cX1_sell 83 = .ok (.iadd, 1) := by decide +kernel
theorem dX1_sell_84 : decode cX1_sell 84 = .ok (.iastore, 1) := by decide +kernel
theorem dX1_sell_85 : decode cX1_sell 85 = .ok (.aload_n 0, 1) := by decide +kernel
theorem dX1_sell_86 : decode cX1_sell 86 = .ok (.getfield 13, 3) := by decide +kernel
theorem dX1_sell_89 : decode cX1_sell 89 = .ok (.iload_n 1, 1) := by decide +kernel
theorem dX1_sell_90 : decode cX1_sell 90 = .ok (.iconst (-1), 1) := by decide +kernel
theorem dX1_sell_91 : decode cX1_sell 91 = .ok (.iastore, 1) := by decide +kernel
theorem dX1_sell_92 : decode cX1_sell 92 = .ok (.aload_n 0, 1) := by decide +kernel
theorem dX1_sell_93 : decode cX1_sell 93 = .ok (.getfield 33, 3) := by decide +kernel
theorem dX1_sell_96 : decode cX1_sell 96 = .ok (.iload_n 2, 1) := by decide +kernel
theorem dX1_sell_97 : decode cX1_sell 97 = .ok (.iaload, 1) := by decide +kernel
theorem dX1_sell_98 : decode cX1_sell 98 = .ok (.ireturn, 1) := by decide +kernel
set_option maxRecDepth 20000 in
theorem ggX1_drop_X1_isFrame : GoodIn wsX1_drop wsX1_isFrame := goodIn_r _ [5, 6, 7, 4, 8] (by decide +kernel) (by decide +kernel)
set_option maxRecDepth 20000 in
theorem gX1_drop_X1_isFrame : GoodIn wsX1_drop (va_wsS RX1 84 yX1_isFrame wsX1_isFrame) := goodIn_app (goodIn_of _ (by decide +kernel)) ggX1_drop_X1_isFrame
set_option maxRecDepth 20000 in
theorem ggX1_drop_X1_hasPage : GoodIn wsX1_drop wsX1_hasPage := goodIn_r _ [12, 1, 13, 19, 20, 21, 22, 23, 24, 25, 26, 27, 28, 29, 30, 31, 32, 33, 34, 35, 36, 37] (by decide +kernel) (by decide +kernel)
set_option maxRecDepth 20000 in
theorem gX1_drop_X1_hasPage : GoodIn wsX1_drop (wsV RX1 67 RX1 yX1_hasPage wsX1_hasPage) := goodIn_app (goodIn_of _ (by decide +kernel)) ggX1_drop_X1_hasPage
set_option maxRecDepth 20000 in
theorem ggX1_drop_X1_goes : GoodIn wsX1_drop wsX1_goes := goodIn_r _ [17, 18, 19, 20, 21, 22, 23, 24, 25, 26, 27, 28, 29, 30, 31, 32, 33, 34, 35, 36, 37] (by decide +kernel) (by decide +kernel)
set_option maxRecDepth 20000 in
theorem gX1_drop_X1_goes : GoodIn wsX1_drop (wsV RX1 77 RX1 yX1_goes wsX1_goes) := goodIn_app (goodIn_of _ (by decide +kernel)) ggX1_drop_X1_goes
theorem dX1_drop_0 : decode cX1_drop 0 = .ok (.aload_n 0, 1) := by decide +kernel
theorem dX1_drop_1 : decode cX1_drop 1 = .ok (.iload_n 1, 1) := by decide +kernel
theorem dX1_drop_2 : decode cX1_drop 2 = .ok (.invokestatic 84, 3) := by decide +kernel
theorem dX1_drop_5 : decode cX1_drop 5 = .ok (.ifCond .ne 7, 3) := by decide +kernel
theorem dX1_drop_8 : decode cX1_drop 8 = .ok (.iconst 1, 1) := by decide +kernel
theorem dX1_drop_9 : decode cX1_drop 9 = .ok (.goto 16, 3) := by decide +kernel
theorem dX1_drop_12 : decode cX1_drop 12 = .ok (.aload_n 0, 1) := by decide +kernel
theorem dX1_drop_13 : decode cX1_drop 13 = .ok (.iload_n 1, 1) := by decide +kernel
theorem dX1_drop_14 : decode cX1_drop 14 = .ok (.invokevirtual 67, 3) := by decide +kernel
theorem dX1_drop_17 : decode cX1_drop 17 = .ok (.ifCond .eq 7, 3) := by decide +kernel
theorem dX1_drop_20 : decode cX1_drop 20 = .ok (.iconst 0, 1) := by decide +kernel
theorem dX1_drop_21 : decode cX1_drop 21 = .ok (.goto 4, 3) := by decide +kernel
theorem dX1_drop_24 : decode cX1_drop 24 = .ok (.iconst 2, 1) := by decide +kernel
theorem dX1_drop_25 : decode cX1_drop 25 = .ok (.invokevirtual 77, 3) := by decide +kernel
theorem dX1_drop_28 : decode cX1_drop 28 = .ok (.ifCond .ne 5, 3) := by decide +kernel
theorem dX1_drop_31 : decode cX1_drop 31 = .ok (.iconst 0, 1) := by decide +kernel
theorem dX1_drop_32 : decode cX1_drop 32 = .ok (.ireturn, 1) := by decide +kernel
theorem dX1_drop_33 : decode cX1_drop 33 = .ok (.aload_n 0, 1) := by decide +kernel
theorem dX1_drop_34 : decode cX1_drop 34 = .ok (.getfield 17, 3) := by decide +kernel
theorem dX1_drop_37 : decode cX1_drop 37 = .ok (.iload_n 1, 1) := by decide +kernel
theorem dX1_drop_38 : decode cX1_drop 38 = .ok (.iaload, 1) := by decide +kernel
theorem dX1_drop_39 : decode cX1_drop 39 = .ok (.istore_n 2, 1) := by decide +kernel
theorem dX1_drop_40 : decode cX1_drop 40 = .ok (.aload_n 0, 1) := by decide +kernel
theorem dX1_drop_41 : decode cX1_drop 41 = .ok (.getfield 17, 3) := by decide +kernel
theorem dX1_drop_44 : decode cX1_drop 44 = .ok (.iload_n 1, 1) := by decide +kernel
theorem dX1_drop_45 : decode cX1_drop 45 = .ok (.iconst (-1), 1) := by decide +kernel
theorem dX1_drop_46 : decode cX1_drop 46 = .ok (.iastore, 1) := by decide +kernel
theorem dX1_drop_47 : decode cX1_drop 47 = .ok (.iload_n 2, 1) := by decide +kernel
theorem dX1_drop_48 : decode cX1_drop 48 = .ok (.ireturn, 1) := by decide +kernel
set_option maxRecDepth 20000 in
theorem ggX1_frameWith_X1_holderOf : GoodIn wsX1_frameWith wsX1_holderOf := goodIn_r _ [6, 7, 8, 9, 10, 11, 12, 13, 14, 15, 16, 17, 18, 19, 20, 21, 22, 23, 24, 25, 26, 27, 28] (by decide +kernel) (by decide +kernel)
set_option maxRecDepth 20000 in
theorem gX1_frameWith_X1_holderOf : GoodIn wsX1_frameWith (wsV RX1 90 RX1 yX1_holderOf wsX1_holderOf) := goodIn_app (goodIn_of _ (by decide +kernel)) ggX1_frameWith_X1_holderOf
theorem dX1_frameWith_0 : decode cX1_frameWith 0 = .ok (.iconst (-1), 1) := by decide +kernel
theorem dX1_frameWith_1 : decode cX1_frameWith 1 = .ok (.istore_n 3, 1) := by decide +kernel
theorem dX1_frameWith_2 : decode cX1_frameWith 2 = .ok (.iconst 0, 1) := by decide +kernel
theorem dX1_frameWith_3 : decode cX1_frameWith 3 = .ok (.istore 4, 2) := by decide +kernel
theorem dX1_frameWith_5 : decode cX1_frameWith 5 = .ok (.iload 4, 2) := by decide +kernel
theorem dX1_frameWith_7 : decode cX1_frameWith 7 = .ok (.bipush 12, 2) := by decide +kernel
theorem dX1_frameWith_9 : decode cX1_frameWith 9 = .ok (.if_icmp .ge 37, 3) := by decide +kernel
theorem dX1_frameWith_12 : decode cX1_frameWith 12 = .ok (.aload_n 0, 1) := by decide +kernel
theorem dX1_frameWith_13 : decode cX1_frameWith 13 = .ok (.getfield 17, 3) := by decide +kernel
theorem dX1_frameWith_16 : decode cX1_frameWith 16 = .ok (.iload 4, 2) := by decide +kernel
theorem dX1_frameWith_18 : decode cX1_frameWith 18 = .ok (.iaload, 1) := by decide +kernel
theorem dX1_frameWith_19 : decode cX1_frameWith 19 = .ok (.iload_n 2, 1) := by decide +kernel
theorem dX1_frameWith_20 : decode cX1_frameWith 20 = .ok (.if_icmp .ne 18, 3) := by decide +kernel
theorem dX1_frameWith_23 : decode cX1_frameWith 23 = .ok (.aload_n 0, 1) := by decide +kernel
theorem dX1_frameWith_24 : decode cX1_frameWith 24 = .ok (.iload 4, 2) := by decide +kernel
theorem dX1_frameWith_26 : decode cX1_frameWith 26 = .ok (.invokevirtual 90, 3) := by decide +kernel
theorem dX1_frameWith_29 : decode cX1_frameWith 29 = .ok (.iload_n 1, 1) := by decide +kernel
theorem dX1_frameWith_30 : decode cX1_frameWith 30 = .ok (.if_icmp .ne 8, 3) := by decide +kernel
theorem dX1_frameWith_33 : decode cX1_frameWith 33 = .ok (.iload 4, 2) := by decide +kernel
theorem dX1_frameWith_35 : decode cX1_frameWith 35 = .ok (.goto 4, 3) := by decide +kernel
theorem dX1_frameWith_38 : decode cX1_frameWith 38 = .ok (.iload_n 3, 1) := by decide +kernel
theorem dX1_frameWith_39 : decode cX1_frameWith 39 = .ok (.istore_n 3, 1) := by decide +kernel
theorem dX1_frameWith_40 : decode cX1_frameWith 40 = .ok (.iinc 4 1, 3) := by decide +kernel
theorem dX1_frameWith_43 : decode cX1_frameWith 43 = .ok (.goto (-38), 3) := by decide +kernel
theorem dX1_frameWith_46 : decode cX1_frameWith 46 = .ok (.iload_n 3, 1) := by decide +kernel
theorem dX1_frameWith_47 : decode cX1_frameWith 47 = .ok (.ireturn, 1) := by decide +kernel
set_option maxRecDepth 20000 in
theorem ggX1_emptyOf_X1_holderOf : GoodIn wsX1_emptyOf wsX1_holderOf := goodIn_r _ [5, 6, 7, 8, 14, 15, 16, 17, 18, 19, 20, 21, 22, 23, 24, 25, 26, 27, 28, 29, 30, 31, 32] (by decide +kernel) (by decide +kernel)
set_option maxRecDepth 20000 in
theorem gX1_emptyOf_X1_holderOf : GoodIn wsX1_emptyOf (wsV RX1 90 RX1 yX1_holderOf wsX1_holderOf) := goodIn_app (goodIn_of _ (by decide +kernel)) ggX1_emptyOf_X1_holderOf
set_option maxRecDepth 20000 in
theorem ggX1_emptyOf_X1_isEmpty : GoodIn wsX1_emptyOf wsX1_isEmpty := goodIn_r _ [12, 13, 14, 15, 16, 17, 18, 19, 20, 21, 22, 23, 24, 25, 26, 27, 28, 29, 30, 31, 32] (by decide +kernel) (by decide +kernel)
set_option maxRecDepth 20000 in
theorem gX1_emptyOf_X1_isEmpty : GoodIn wsX1_emptyOf (wsV RX1 87 RX1 yX1_isEmpty wsX1_isEmpty) := goodIn_app (goodIn_of _ (by decide +kernel)) ggX1_emptyOf_X1_isEmpty
theorem dX1_emptyOf_0 : decode cX1_emptyOf 0 = .ok (.iconst (-1), 1) := by decide +kernel
theorem dX1_emptyOf_1 : decode cX1_emptyOf 1 = .ok (.istore_n 2, 1) := by decide +kernel
theorem dX1_emptyOf_2 : decode cX1_emptyOf 2 = .ok (.bipush 11, 2) := by decide +kernel
theorem dX1_emptyOf_4 : decode cX1_emptyOf 4 = .ok (.istore_n 3, 1) := by decide +kernel
theorem dX1_emptyOf_5 : decode cX1_emptyOf 5 = .ok (.iload_n 3, 1) := by decide +kernel
theorem dX1_emptyOf_6 : decode cX1_emptyOf 6 = .ok (.ifCond .lt 32, 3) := by decide +kernel
theorem dX1_emptyOf_9 : decode cX1_emptyOf 9 = .ok (.aload_n 0, 1) := by decide +kernel
theorem dX1_emptyOf_10 : decode cX1_emptyOf 10 = .ok (.iload_n 3, 1) := by decide +kernel
theorem dX1_emptyOf_11 : decode cX1_emptyOf 11 = .ok (.invokevirtual 90, 3) := by decide +kernel
theorem dX1_emptyOf_14 : decode cX1_emptyOf 14 = .ok (.iload_n 1, 1) := by decide +kernel
theorem dX1_emptyOf_15 : decode cX1_emptyOf 15 = .ok (.if_icmp .ne 15, 3) := by decide +kernel
theorem dX1_emptyOf_18 : decode cX1_emptyOf 18 = .ok (.aload_n 0, 1) := by decide +kernel
theorem dX1_emptyOf_19 : decode cX1_emptyOf 19 = .ok (.iload_n 3, 1) := by decide +kernel
theorem dX1_emptyOf_20 : decode cX1_emptyOf 20 = .ok (.invokevirtual 87, 3) := by decide +kernel
theorem dX1_emptyOf_23 : decode cX1_emptyOf 23 = .ok (.ifCond .eq 7, 3) := by decide +kernel
theorem dX1_emptyOf_26 : decode cX1_emptyOf 26 = .ok (.iload_n 3, 1) := by decide +kernel
theorem dX1_emptyOf_27 : decode cX1_emptyOf 27 = .ok (.goto 4, 3) := by decide +kernel
theorem dX1_emptyOf_30 : decode cX1_emptyOf 30 = .ok (.iload_n 2, 1) := by decide +kernel
theorem dX1_emptyOf_31 : decode cX1_emptyOf 31 = .ok (.istore_n 2, 1) := by decide +kernel
theorem dX1_emptyOf_32 : decode cX1_emptyOf 32 = .ok (.iinc 3 (-1), 3) := by decide +kernel
theorem dX1_emptyOf_35 : decode cX1_emptyOf 35 = .ok (.goto (-30), 3) := by decide +kernel
theorem dX1_emptyOf_38 : decode cX1_emptyOf 38 = .ok (.iload_n 2, 1) := by decide +kernel
theorem dX1_emptyOf_39 : decode cX1_emptyOf 39 = .ok (.ireturn, 1) := by decide +kernel
set_option maxRecDepth 20000 in
theorem ggX1_calledIn_X1_doesLast : GoodIn wsX1_calledIn wsX1_doesLast := goodIn_r _ [8, 9, 3, 16, 17, 18, 19, 20, 21, 22, 23, 24, 25, 26, 27, 28, 29, 30, 31, 32, 33, 34] (by decide +kernel) (by decide +kernel)
set_option maxRecDepth 20000 in
theorem gX1_calledIn_X1_doesLast : GoodIn wsX1_calledIn (wsV RX1 94 RX1 yX1_doesLast wsX1_doesLast) := goodIn_app (goodIn_of _ (by decide +kernel)) ggX1_calledIn_X1_doesLast
set_option maxRecDepth 20000 in
theorem ggX1_calledIn_X1_isComing : GoodIn wsX1_calledIn wsX1_isComing := goodIn_r _ [13, 14, 15, 16, 17, 18, 19, 20, 21, 22, 23, 24, 25, 26, 27, 28, 29, 30, 31, 32, 33, 34] (by decide +kernel) (by decide +kernel)
set_option maxRecDepth 20000 in
theorem gX1_calledIn_X1_isComing : GoodIn wsX1_calledIn (wsV RX1 97 RX1 yX1_isComing wsX1_isComing) := goodIn_app (goodIn_of _ (by decide +kernel)) ggX1_calledIn_X1_isComing
theorem dX1_calledIn_0 : decode cX1_calledIn 0 = .ok (.iconst (-1), 1) := by decide +kernel
theorem dX1_calledIn_1 : decode cX1_calledIn 1 = .ok (.istore_n 2, 1) := by decide +kernel
theorem dX1_calledIn_2 : decode cX1_calledIn 2 = .ok (.aload_n 0, 1) := by decide +kernel
theorem dX1_calledIn_3 : decode cX1_calledIn 3 = .ok (.getfield 64, 3) := by decide +kernel
theorem dX1_calledIn_6 : decode cX1_calledIn 6 = .ok (.iconst 1, 1) := by decide +kernel
theorem dX1_calledIn_7 : decode cX1_calledIn 7 = .ok (.isub, 1) := by decide +kernel
theorem dX1_calledIn_8 : decode cX1_calledIn 8 = .ok (.istore_n 3, 1) := by decide +kernel
theorem dX1_calledIn_9 : decode cX1_calledIn 9 = .ok (.iload_n 3, 1) := by decide +kernel
theorem dX1_calledIn_10 : decode cX1_calledIn 10 = .ok (.ifCond .lt 46, 3) := by decide +kernel
theorem dX1_calledIn_13 : decode cX1_calledIn 13 = .ok (.aload_n 0, 1) := by decide +kernel
theorem dX1_calledIn_14 : decode cX1_calledIn 14 = .ok (.getfield 45, 3) := by decide +kernel
theorem dX1_calledIn_17 : decode cX1_calledIn 17 = .ok (.iload_n 3, 1) := by decide +kernel
theorem dX1_calledIn_18 : decode cX1_calledIn 18 = .ok (.iaload, 1) := by decide +kernel
theorem dX1_calledIn_19 : decode cX1_calledIn 19 = .ok (.iload_n 1, 1) := by decide +kernel
theorem dX1_calledIn_20 : decode cX1_calledIn 20 = .ok (.if_icmp .ne 28, 3) := by decide +kernel
theorem dX1_calledIn_23 : decode cX1_calledIn 23 = .ok (.aload_n 0, 1) := by decide +kernel
theorem dX1_calledIn_24 : decode cX1_calledIn 24 = .ok (.iload_n 3, 1) := by decide +kernel
theorem dX1_calledIn_25 : decode cX1_calledIn 25 = .ok (.invokevirtual 94, 3) := by decide +kernel
theorem dX1_calledIn_28 : decode cX1_calledIn 28 = .ok (.ifCond .eq 20, 3) := by decide +kernel
theorem dX1_calledIn_31 : decode cX1_calledIn 31 = .ok (.aload_n 0, 1) := by decide +kernel
theorem dX1_calledIn_32 : decode cX1_calledIn 32 = .ok (.aload_n 0, 1) := by decide +kernel
theorem dX1_calledIn_33 : decode cX1_calledIn 33 = .ok (.getfield 42, 3) := by decide +kernel
theorem dX1_calledIn_36 : decode cX1_calledIn 36 = .ok (.iload_n 3, 1) := by decide +kernel
theorem dX1_calledIn_37 : decode cX1_calledIn 37 = .ok (.iaload, 1) := by decide +kernel
theorem dX1_calledIn_38 : decode cX1_calledIn 38 = .ok (.invokevirtual 97, 3) := by decide +kernel
theorem dX1_calledIn_41 : decode cX1_calledIn 41 = .ok (.ifCond .ne 7, 3) := by decide +kernel
theorem dX1_calledIn_44 : decode cX1_calledIn 44 = .ok (.iload_n 3, 1) := by decide +kernel
theorem dX1_calledIn_45 : decode cX1_calledIn 45 = .ok (.goto 4, 3) := by decide +kernel
theorem dX1_calledIn_48 : decode cX1_calledIn 48 = .ok (.iload_n 2, 1) := by decide +kernel
theorem dX1_calledIn_49 : decode cX1_calledIn 49 = .ok (.istore_n 2, 1) := by decide +kernel
theorem dX1_calledIn_50 : decode cX1_calledIn 50 = .ok (.iinc 3 (-1), 3) := by decide +kernel
theorem dX1_calledIn_53 : decode cX1_calledIn 53 = .ok (.goto (-44), 3) := by decide +kernel
theorem dX1_calledIn_56 : decode cX1_calledIn 56 = .ok (.iload_n 2, 1) := by decide +kernel
theorem dX1_calledIn_57 : decode cX1_calledIn 57 = .ok (.ireturn, 1) := by decide +kernel
theorem dX1_borrowedBy_0 : decode cX1_borrowedBy 0 = .ok (.iconst 0, 1) := by decide +kernel
theorem dX1_borrowedBy_1 : decode cX1_borrowedBy 1 = .ok (.istore_n 2, 1) := by decide +kernel
theorem dX1_borrowedBy_2 : decode cX1_borrowedBy 2 = .ok (.iconst 0, 1) := by decide +kernel
theorem dX1_borrowedBy_3 : decode cX1_borrowedBy 3 = .ok (.istore_n 3, 1) := by decide +kernel
theorem dX1_borrowedBy_4 : decode cX1_borrowedBy 4 = .ok (.iload_n 3, 1) := by decide +kernel
theorem dX1_borrowedBy_5 : decode cX1_borrowedBy 5 = .ok (.bipush 12, 2) := by decide +kernel
theorem dX1_borrowedBy_7 : decode cX1_borrowedBy 7 = .ok (.if_icmp .ge 42, 3) := by decide +kernel
theorem dX1_borrowedBy_10 : decode cX1_borrowedBy 10 = .ok (.iload_n 2, 1) := by decide +kernel
theorem dX1_borrowedBy_11 : decode cX1_borrowedBy 11 = .ok (.aload_n 0, 1) := by decide +kernel
theorem dX1_borrowedBy_12 : decode cX1_borrowedBy 12 = .ok (.getfield 27, 3) := by decide +kernel
theorem dX1_borrowedBy_15 : decode cX1_borrowedBy 15 = .ok (.iload_n 3, 1) := by decide +kernel
theorem dX1_borrowedBy_16 : decode cX1_borrowedBy 16 = .ok (.iaload, 1) := by decide +kernel
theorem dX1_borrowedBy_17 : decode cX1_borrowedBy 17 = .ok (.iconst (-1), 1) := by decide +kernel
theorem dX1_borrowedBy_18 : decode cX1_borrowedBy 18 = .ok (.if_icmp .eq 22, 3) := by decide +kernel
theorem dX1_borrowedBy_21 : decode cX1_borrowedBy 21 = .ok (.aload_n 0, 1) := by decide +kernel
theorem dX1_borrowedBy_22 : decode cX1_borrowedBy 22 = .ok (.getfield 48, 3) := by decide +kernel
theorem dX1_borrowedBy_25 : decode cX1_borrowedBy 25 = .ok (.aload_n 0, 1) := by decide +kernel
theorem dX1_borrowedBy_26 : decode cX1_borrowedBy 26 = .ok (.getfield 27, 3) := by decide +kernel
theorem dX1_borrowedBy_29 : decode cX1_borrowedBy 29 = .ok (.iload_n 3, 1) := by decide +kernel
theorem dX1_borrowedBy_30 : decode cX1_borrowedBy 30 = .ok (.iaload, 1) := by decide +kernel
theorem dX1_borrowedBy_31 : decode cX1_borrowedBy 31 = .ok (.iaload, 1) := by decide +kernel
theorem dX1_borrowedBy_32 : decode cX1_borrowedBy 32 = .ok (.iload_n 1, 1) := by decide +kernel
theorem dX1_borrowedBy_33 : decode cX1_borrowedBy 33 = .ok (.if_icmp .ne 7, 3) := by decide +kernel
theorem dX1_borrowedBy_36 : decode cX1_borrowedBy 36 = .ok (.iconst 1, 1) := by decide +kernel
theorem dX1_borrowedBy_37 : decode cX1_borrowedBy 37 = .ok (.goto 4, 3) := by decide +kernel
theorem dX1_borrowedBy_40 : decode cX1_borrowedBy 40 = .ok (.iconst 0, 1) := by decide +kernel
theorem dX1_borrowedBy_41 : decode cX1_borrowedBy 41 = .ok (.iadd, 1) := by decide +kernel
theorem dX1_borrowedBy_42 : decode cX1_borrowedBy 42 = .ok (.istore_n 2, 1) := by decide +kernel
theorem dX1_borrowedBy_43 : decode cX1_borrowedBy 43 = .ok (.iinc 3 1, 3) := by decide +kernel
theorem dX1_borrowedBy_46 : decode cX1_borrowedBy 46 = .ok (.goto (-42), 3) := by decide +kernel
theorem dX1_borrowedBy_49 : decode cX1_borrowedBy 49 = .ok (.iload_n 2, 1) := by decide +kernel
theorem dX1_borrowedBy_50 : decode cX1_borrowedBy 50 = .ok (.ireturn, 1) := by decide +kernel
set_option maxRecDepth 20000 in
theorem ggX1_canLend_X1_isEmpty : GoodIn wsX1_canLend wsX1_isEmpty := goodIn_r _ [7, 8, 20, 21, 22, 23, 24, 25, 26, 27, 28, 29, 30, 31, 32, 33, 34, 35, 36, 37, 38] (by decide +kernel) (by decide +kernel)
set_option maxRecDepth 20000 in
theorem gX1_canLend_X1_isEmpty : GoodIn wsX1_canLend (wsV RX1 87 RX1 yX1_isEmpty wsX1_isEmpty) := goodIn_app (goodIn_of _ (by decide +kernel)) ggX1_canLend_X1_isEmpty
set_option maxRecDepth 20000 in
theorem ggX1_canLend_X1_ageOf : GoodIn wsX1_canLend wsX1_ageOf := goodIn_r _ [12, 13, 14, 15, 16, 17, 6, 18, 8, 19, 20, 21, 22, 23, 24, 25, 26, 27, 28, 29, 30, 31, 32, 33, 34, 35, 36, 37, 38] (by decide +kernel) (by decide +kernel)
set_option maxRecDepth 20000 in
theorem gX1_canLend_X1_ageOf : GoodIn wsX1_canLend (wsV RX1 100 RX1 yX1_ageOf wsX1_ageOf) := goodIn_app (goodIn_of _ (by decide +kernel)) ggX1_canLend_X1_ageOf
theorem dX1_canLend_0 : decode cX1_canLend 0 = .ok (.aload_n 0, 1) := by decide +kernel
theorem dX1_canLend_1 : decode cX1_canLend 1 = .ok (.getfield 13, 3) := by decide +kernel
theorem dX1_canLend_4 : decode cX1_canLend 4 = .ok (.iload_n 1, 1) := by decide +kernel
theorem dX1_canLend_5 : decode cX1_canLend 5 = .ok (.iaload, 1) := by decide +kernel
theorem dX1_canLend_6 : decode cX1_canLend 6 = .ok (.iload_n 2, 1) := by decide +kernel
theorem dX1_canLend_7 : decode cX1_canLend 7 = .ok (.if_icmp .ne 17, 3) := by decide +kernel
theorem dX1_canLend_10 : decode cX1_canLend 10 = .ok (.aload_n 0, 1) := by decide +kernel
theorem dX1_canLend_11 : decode cX1_canLend 11 = .ok (.getfield 27, 3) := by decide +kernel
theorem dX1_canLend_14 : decode cX1_canLend 14 = .ok (.iload_n 1, 1) := by decide +kernel
theorem dX1_canLend_15 : decode cX1_canLend 15 = .ok (.iaload, 1) := by decide +kernel
theorem dX1_canLend_16 : decode cX1_canLend 16 = .ok (.iconst (-1), 1) := by decide +kernel
theorem dX1_canLend_17 : decode cX1_canLend 17 = .ok (.if_icmp .ne 7, 3) := by decide +kernel
theorem dX1_canLend_20 : decode cX1_canLend 20 = .ok (.iconst 1, 1) := by decide +kernel
theorem dX1_canLend_21 : decode cX1_canLend 21 = .ok (.goto 4, 3) := by decide +kernel
theorem dX1_canLend_24 : decode cX1_canLend 24 = .ok (.iconst 0, 1) := by decide +kernel
theorem dX1_canLend_25 : decode cX1_canLend 25 = .ok (.istore_n 3, 1) := by decide +kernel
theorem dX1_canLend_26 : decode cX1_canLend 26 = .ok (.iload_n 3, 1) := by decide +kernel
theorem dX1_canLend_27 : decode cX1_canLend 27 = .ok (.ifCond .eq 24, 3) := by decide +kernel
theorem dX1_canLend_30 : decode cX1_canLend 30 = .ok (.aload_n 0, 1) := by decide +kernel
theorem dX1_canLend_31 : decode cX1_canLend 31 = .ok (.iload_n 1, 1) := by decide +kernel
theorem dX1_canLend_32 : decode cX1_canLend 32 = .ok (.invokevirtual 87, 3) := by decide +kernel
theorem dX1_canLend_35 : decode cX1_canLend 35 = .ok (.ifCond .ne 12, 3) := by decide +kernel
theorem dX1_canLend_38 : decode cX1_canLend 38 = .ok (.aload_n 0, 1) := by decide +kernel
theorem dX1_canLend_39 : decode cX1_canLend 39 = .ok (.iload_n 1, 1) := by decide +kernel
theorem dX1_canLend_40 : decode cX1_canLend 40 = .ok (.invokevirtual 100, 3) := by decide +kernel
theorem dX1_canLend_43 : decode cX1_canLend 43 = .ok (.iconst 5, 1) := by decide +kernel
theorem dX1_canLend_44 : decode cX1_canLend 44 = .ok (.if_icmp .lt 7, 3) := by decide +kernel
theorem dX1_canLend_47 : decode cX1_canLend 47 = .ok (.iconst 1, 1) := by decide +kernel
theorem dX1_canLend_48 : decode cX1_canLend 48 = .ok (.goto 4, 3) := by decide +kernel
theorem dX1_canLend_51 : decode cX1_canLend 51 = .ok (.iconst 0, 1) := by decide +kernel
theorem dX1_canLend_52 : decode cX1_canLend 52 = .ok (.ireturn, 1) := by decide +kernel
set_option maxRecDepth 20000 in
theorem ggX1_isLender_X1_canLend : GoodIn wsX1_isLender wsX1_canLend := goodIn_r _ [5, 6, 7, 8, 9, 10, 4, 11, 12, 13, 14, 15, 16, 17, 18, 19, 20, 21, 22, 23, 24, 25, 26, 27, 28, 29, 30, 31, 32, 33, 34, 35, 36, 37, 38, 39, 40, 41, 42] (by decide +kernel) (by decide +kernel)
set_option maxRecDepth 20000 in
theorem gX1_isLender_X1_canLend : GoodIn wsX1_isLender (wsV RX1 103 RX1 yX1_canLend wsX1_canLend) := goodIn_app (goodIn_of _ (by decide +kernel)) ggX1_isLender_X1_canLend
theorem dX1_isLender_0 : decode cX1_isLender 0 = .ok (.iconst 0, 1) := by decide +kernel
theorem dX1_isLender_1 : decode cX1_isLender 1 = .ok (.istore_n 2, 1) := by decide +kernel
theorem dX1_isLender_2 : decode cX1_isLender 2 = .ok (.iconst 0, 1) := by decide +kernel
theorem dX1_isLender_3 : decode cX1_isLender 3 = .ok (.istore_n 3, 1) := by decide +kernel
theorem dX1_isLender_4 : decode cX1_isLender 4 = .ok (.iload_n 3, 1) := by decide +kernel
theorem dX1_isLender_5 : decode cX1_isLender 5 = .ok (.bipush 12, 2) := by decide +kernel
theorem dX1_isLender_7 : decode cX1_isLender 7 = .ok (.if_icmp .ge 28, 3) := by decide +kernel
theorem dX1_isLender_10 : decode cX1_isLender 10 = .ok (.iload_n 2, 1) := by decide +kernel
theorem dX1_isLender_11 : decode cX1_isLender 11 = .ok (.ifCond .ne 12, 3) := by decide +kernel
theorem dX1_isLender_14 : decode cX1_isLender 14 = .ok (.aload_n 0, 1) := by decide +kernel
theorem dX1_isLender_15 : decode cX1_isLender 15 = .ok (.iload_n 3, 1) := by decide +kernel
theorem dX1_isLender_16 : decode cX1_isLender 16 = .ok (.iload_n 1, 1) := by decide +kernel
theorem dX1_isLender_17 : decode cX1_isLender 17 = .ok (.invokevirtual 103, 3) := by decide +kernel
theorem dX1_isLender_20 : decode cX1_isLender 20 = .ok (.ifCond .eq 7, 3) := by decide +kernel
theorem dX1_isLender_23 : decode cX1_isLender 23 = .ok (.iconst 1, 1) := by decide +kernel
theorem dX1_isLender_24 : decode cX1_isLender 24 = .ok (.goto 4, 3) := by decide +kernel
theorem dX1_isLender_27 : decode cX1_isLender 27 = .ok (.iconst 0, 1) := by decide +kernel
theorem dX1_isLender_28 : decode cX1_isLender 28 = .ok (.istore_n 2, 1) := by decide +kernel
theorem dX1_isLender_29 : decode cX1_isLender 29 = .ok (.iinc 3 1, 3) := by decide +kernel
theorem dX1_isLender_32 : decode cX1_isLender 32 = .ok (.goto (-28), 3) := by decide +kernel
theorem dX1_isLender_35 : decode cX1_isLender 35 = .ok (.iload_n 2, 1) := by decide +kernel
theorem dX1_isLender_36 : decode cX1_isLender 36 = .ok (.ireturn, 1) := by decide +kernel
set_option maxRecDepth 20000 in
theorem ggX1_lenderFor_X1_isLender : GoodIn wsX1_lenderFor wsX1_isLender := goodIn_r _ [6, 7, 8, 9, 5, 10, 11, 12, 13, 14, 15, 16, 17, 18, 19, 20, 21, 22, 23, 24, 25, 26, 27, 28, 29, 30, 31, 32, 33, 34, 35, 36, 37, 38, 39, 40, 41, 42, 43, 44, 45, 46, 47] (by decide +kernel) (by decide +kernel)
set_option maxRecDepth 20000 in
theorem gX1_lenderFor_X1_isLender : GoodIn wsX1_lenderFor (wsV RX1 107 RX1 yX1_isLender wsX1_isLender) := goodIn_app (goodIn_of _ (by decide +kernel)) ggX1_lenderFor_X1_isLender
theorem dX1_lenderFor_0 : decode cX1_lenderFor 0 = .ok (.iconst (-1), 1) := by decide +kernel
theorem dX1_lenderFor_1 : decode cX1_lenderFor 1 = .ok (.istore_n 2, 1) := by decide +kernel
theorem dX1_lenderFor_2 : decode cX1_lenderFor 2 = .ok (.iconst 0, 1) := by decide +kernel
theorem dX1_lenderFor_3 : decode cX1_lenderFor 3 = .ok (.istore_n 3, 1) := by decide +kernel
theorem dX1_lenderFor_4 : decode cX1_lenderFor 4 = .ok (.iload_n 3, 1) := by decide +kernel
theorem dX1_lenderFor_5 : decode cX1_lenderFor 5 = .ok (.iconst 5, 1) := by decide +kernel
theorem dX1_lenderFor_6 : decode cX1_lenderFor 6 = .ok (.if_icmp .ge 60, 3) := by decide +kernel
theorem dX1_lenderFor_9 : decode cX1_lenderFor 9 = .ok (.iload_n 3, 1) := by decide +kernel
theorem dX1_lenderFor_10 : decode cX1_lenderFor 10 = .ok (.iload_n 1, 1) := by decide +kernel
theorem dX1_lenderFor_11 : decode cX1_lenderFor 11 = .ok (.if_icmp .eq 15, 3) := by decide +kernel
theorem dX1_lenderFor_14 : decode cX1_lenderFor 14 = .ok (.aload_n 0, 1) := by decide +kernel
theorem dX1_lenderFor_15 : decode cX1_lenderFor 15 = .ok (.iload_n 3, 1) := by decide +kernel
theorem dX1_lenderFor_16 : decode cX1_lenderFor 16 = .ok (.invokevirtual 107, 3) := by decide +kernel
theorem dX1_lenderFor_19 : decode cX1_lenderFor 19 = .ok (.ifCond .eq 7, 3) := by decide +kernel
theorem dX1_lenderFor_22 : decode cX1_lenderFor 22 = .ok (.iconst 1, 1) := by decide +kernel
theorem dX1_lenderFor_23 : decode cX1_lenderFor 23 = .ok (.goto 4, 3) := by decide +kernel
theorem dX1_lenderFor_26 : decode cX1_lenderFor 26 = .ok (.iconst 0, 1) := by decide +kernel
theorem dX1_lenderFor_27 : decode cX1_lenderFor 27 = .ok (.istore 4, 2) := by decide +kernel
theorem dX1_lenderFor_29 : decode cX1_lenderFor 29 = .ok (.iload 4, 2) := by decide +kernel
theorem dX1_lenderFor_31 : decode cX1_lenderFor 31 = .ok (.ifCond .eq 27, 3) := by decide +kernel
theorem dX1_lenderFor_34 : decode cX1_lenderFor 34 = .ok (.iload_n 2, 1) := by decide +kernel
theorem dX1_lenderFor_35 : decode cX1_lenderFor 35 = .ok (.iconst (-1), 1) := by decide +kernel
theorem dX1_lenderFor_36 : decode cX1_lenderFor 36 = .ok (.if_icmp .eq 18, 3) := by decide +kernel
theorem dX1_lenderFor_39 : decode cX1_lenderFor 39 = .ok (.aload_n 0, 1) := by decide +kernel
theorem dX1_lenderFor_40 : decode cX1_lenderFor 40 = .ok (.getfield 33, 3) := by decide +kernel
theorem dX1_lenderFor_43 : decode cX1_lenderFor 43 = .ok (.iload_n 3, 1) := by decide +kernel
theorem dX1_lenderFor_44 : decode cX1_lenderFor 44 = .ok (.iaload, 1) := by decide +kernel
theorem dX1_lenderFor_45 : decode cX1_lenderFor 45 = .ok (.aload_n 0, 1) := by decide +kernel
theorem dX1_lenderFor_46 : decode cX1_lenderFor 46 = .ok (.getfield 33, 3) := by decide +kernel
theorem dX1_lenderFor_49 : decode cX1_lenderFor 49 = .ok (.iload_n 2, 1) := by decide +kernel
theorem dX1_lenderFor_50 : decode cX1_lenderFor 50 = .ok (.iaload, 1) := by decide +kernel
theorem dX1_lenderFor_51 : decode cX1_lenderFor 51 = .ok (.if_icmp .le 7, 3) := by decide +kernel
theorem dX1_lenderFor_54 : decode cX1_lenderFor 54 = .ok (.iload_n 3, 1) := by decide +kernel
theorem dX1_lenderFor_55 : decode cX1_lenderFor 55 = .ok (.goto 4, 3) := by decide +kernel
theorem dX1_lenderFor_58 : decode cX1_lenderFor 58 = .ok (.iload_n 2, 1) := by decide +kernel
theorem dX1_lenderFor_59 : decode cX1_lenderFor 59 = .ok (.istore_n 2, 1) := by decide +kernel
theorem dX1_lenderFor_60 : decode cX1_lenderFor 60 = .ok (.iinc 3 1, 3) := by decide +kernel
theorem dX1_lenderFor_63 : decode cX1_lenderFor 63 = .ok (.goto (-59), 3) := by decide +kernel
theorem dX1_lenderFor_66 : decode cX1_lenderFor 66 = .ok (.iload_n 2, 1) := by decide +kernel
theorem dX1_lenderFor_67 : decode cX1_lenderFor 67 = .ok (.ireturn, 1) := by decide +kernel
set_option maxRecDepth 20000 in
theorem ggX1_worth_X1_isEmpty : GoodIn wsX1_worth wsX1_isEmpty := goodIn_r _ [6, 7, 19, 20, 21, 22, 23, 24, 25, 26, 27, 28, 29, 30, 31, 32, 33, 34, 35, 36, 37] (by decide +kernel) (by decide +kernel)
set_option maxRecDepth 20000 in
theorem gX1_worth_X1_isEmpty : GoodIn wsX1_worth (wsV RX1 87 RX1 yX1_isEmpty wsX1_isEmpty) := goodIn_app (goodIn_of _ (by decide +kernel)) ggX1_worth_X1_isEmpty
set_option maxRecDepth 20000 in
theorem ggX1_worth_X1_ageOf : GoodIn wsX1_worth wsX1_ageOf := goodIn_r _ [11, 12, 13, 14, 15, 16, 5, 17, 7, 18, 19, 20, 21, 22, 23, 24, 25, 26, 27, 28, 29, 30, 31, 32, 33, 34, 35, 36, 37] (by decide +kernel) (by decide +kernel)
set_option maxRecDepth 20000 in
theorem gX1_worth_X1_ageOf : GoodIn wsX1_worth (wsV RX1 100 RX1 yX1_ageOf wsX1_ageOf) := goodIn_app (goodIn_of _ (by decide +kernel)) ggX1_worth_X1_ageOf
theorem dX1_worth_0 : decode cX1_worth 0 = .ok (.aload_n 0, 1) := by decide +kernel
theorem dX1_worth_1 : decode cX1_worth 1 = .ok (.iload_n 1, 1) := by decide +kernel
theorem dX1_worth_2 : decode cX1_worth 2 = .ok (.invokevirtual 87, 3) := by decide +kernel
theorem dX1_worth_5 : decode cX1_worth 5 = .ok (.ifCond .eq 8, 3) := by decide +kernel
theorem dX1_worth_8 : decode cX1_worth 8 = .ok (.ldc 110, 2) := by decide +kernel
theorem dX1_worth_10 : decode cX1_worth 10 = .ok (.goto 8, 3) := by decide +kernel
theorem dX1_worth_13 : decode cX1_worth 13 = .ok (.aload_n 0, 1) := by decide +kernel
theorem dX1_worth_14 : decode cX1_worth 14 = .ok (.iload_n 1, 1) := by decide +kernel
theorem dX1_worth_15 : decode cX1_worth 15 = .ok (.invokevirtual 100, 3) := by decide +kernel
theorem dX1_worth_18 : decode cX1_worth 18 = .ok (.ireturn, 1) := by decide +kernel
set_option maxRecDepth 20000 in
theorem ggX1_frameOf_X1_canLend : GoodIn wsX1_frameOf wsX1_canLend := goodIn_r _ [5, 6, 7, 8, 9, 10, 4, 11, 12, 13, 14, 15, 16, 17, 18, 19, 20, 21, 22, 23, 29, 30, 31, 32, 33, 34, 35, 36, 37, 38, 39, 40, 41, 42, 43, 44, 45, 46, 47] (by decide +kernel) (by decide +kernel)
set_option maxRecDepth 20000 in
theorem gX1_frameOf_X1_canLend : GoodIn wsX1_frameOf (wsV RX1 103 RX1 yX1_canLend wsX1_canLend) := goodIn_app (goodIn_of _ (by decide +kernel)) ggX1_frameOf_X1_canLend
set_option maxRecDepth 20000 in
theorem ggX1_frameOf_X1_worth : GoodIn wsX1_frameOf wsX1_worth := goodIn_r _ [27, 28, 8, 9, 10, 4, 11, 12, 13, 14, 15, 16, 17, 18, 19, 20, 21, 22, 23, 29, 30, 31, 32, 33, 34, 35, 36, 37, 38, 39, 40, 41, 42, 43, 44, 45, 46, 47] (by decide +kernel) (by decide +kernel)
set_option maxRecDepth 20000 in
theorem gX1_frameOf_X1_worth : GoodIn wsX1_frameOf (wsV RX1 111 RX1 yX1_worth wsX1_worth) := goodIn_app (goodIn_of _ (by decide +kernel)) ggX1_frameOf_X1_worth
theorem dX1_frameOf_0 : decode cX1_frameOf 0 = .ok (.iconst (-1), 1) := by decide +kernel
theorem dX1_frameOf_1 : decode cX1_frameOf 1 = .ok (.istore_n 2, 1) := by decide +kernel
theorem dX1_frameOf_2 : decode cX1_frameOf 2 = .ok (.iconst 0, 1) := by decide +kernel
theorem dX1_frameOf_3 : decode cX1_frameOf 3 = .ok (.istore_n 3, 1) := by decide +kernel
theorem dX1_frameOf_4 : decode cX1_frameOf 4 = .ok (.iload_n 3, 1) := by decide +kernel
theorem dX1_frameOf_5 : decode cX1_frameOf 5 = .ok (.bipush 12, 2) := by decide +kernel
theorem dX1_frameOf_7 : decode cX1_frameOf 7 = .ok (.if_icmp .ge 42, 3) := by decide +kernel
theorem dX1_frameOf_10 : decode cX1_frameOf 10 = .ok (.aload_n 0, 1) := by decide +kernel
theorem dX1_frameOf_11 : decode cX1_frameOf 11 = .ok (.iload_n 3, 1) := by decide +kernel
theorem dX1_frameOf_12 : decode cX1_frameOf 12 = .ok (.iload_n 1, 1) := by decide +kernel
theorem dX1_frameOf_13 : decode cX1_frameOf 13 = .ok (.invokevirtual 103, 3) := by decide +kernel
theorem dX1_frameOf_16 : decode cX1_frameOf 16 = .ok (.ifCond .eq 25, 3) := by decide +kernel
theorem dX1_frameOf_19 : decode cX1_frameOf 19 = .ok (.iload_n 2, 1) := by decide +kernel
theorem dX1_frameOf_20 : decode cX1_frameOf 20 = .ok (.iconst (-1), 1) := by decide +kernel
theorem dX1_frameOf_21 : decode cX1_frameOf 21 = .ok (.if_icmp .eq 16, 3) := by decide +kernel
theorem dX1_frameOf_24 : decode cX1_frameOf 24 = .ok (.aload_n 0, 1) := by decide +kernel
theorem dX1_frameOf_25 : decode cX1_frameOf 25 = .ok (.iload_n 3, 1) := by decide +kernel
theorem dX1_frameOf_26 : decode cX1_frameOf 26 = .ok (.invokevirtual 111, 3) := by decide +kernel
theorem dX1_frameOf_29 : decode cX1_frameOf 29 = .ok (.aload_n 0, 1) := by decide +kernel
theorem dX1_frameOf_30 : decode cX1_frameOf 30 = .ok (.iload_n 2, 1) := by decide +kernel
theorem dX1_frameOf_31 : decode cX1_frameOf 31 = .ok (.invokevirtual 111, 3) := by decide +kernel
theorem dX1_frameOf_34 : decode cX1_frameOf 34 = .ok (.if_icmp .le 7, 3) := by decide +kernel
theorem dX1_frameOf_37 : decode cX1_frameOf 37 = .ok (.iload_n 3, 1) := by decide +kernel
theorem dX1_frameOf_38 : decode cX1_frameOf 38 = .ok (.goto 4, 3) := by decide +kernel
theorem dX1_frameOf_41 : decode cX1_frameOf 41 = .ok (.iload_n 2, 1) := by decide +kernel
theorem dX1_frameOf_42 : decode cX1_frameOf 42 = .ok (.istore_n 2, 1) := by decide +kernel
theorem dX1_frameOf_43 : decode cX1_frameOf 43 = .ok (.iinc 3 1, 3) := by decide +kernel
theorem dX1_frameOf_46 : decode cX1_frameOf 46 = .ok (.goto (-42), 3) := by decide +kernel
theorem dX1_frameOf_49 : decode cX1_frameOf 49 = .ok (.iload_n 2, 1) := by decide +kernel
theorem dX1_frameOf_50 : decode cX1_frameOf 50 = .ok (.ireturn, 1) := by decide +kernel
set_option maxRecDepth 20000 in
theorem ggX1_oldestOf_X1_holderOf : GoodIn wsX1_oldestOf wsX1_holderOf := goodIn_r _ [5, 6, 7, 8, 21, 22, 23, 24, 25, 26, 27, 28, 29, 30, 31, 32, 33, 34, 35, 36, 37, 38, 39] (by decide +kernel) (by decide +kernel)
set_option maxRecDepth 20000 in
theorem gX1_oldestOf_X1_holderOf : GoodIn wsX1_oldestOf (wsV RX1 90 RX1 yX1_holderOf wsX1_holderOf) := goodIn_app (goodIn_of _ (by decide +kernel)) ggX1_oldestOf_X1_holderOf
set_option maxRecDepth 20000 in
theorem ggX1_oldestOf_X1_hasPage : GoodIn wsX1_oldestOf wsX1_hasPage := goodIn_r _ [12, 13, 14, 21, 22, 23, 24, 25, 26, 27, 28, 29, 30, 31, 32, 33, 34, 35, 36, 37, 38, 39] (by decide +kernel) (by decide +kernel)
set_option maxRecDepth 20000 in
theorem gX1_oldestOf_X1_hasPage : GoodIn wsX1_oldestOf (wsV RX1 67 RX1 yX1_hasPage wsX1_hasPage) := goodIn_app (goodIn_of _ (by decide +kernel)) ggX1_oldestOf_X1_hasPage
set_option maxRecDepth 20000 in
theorem ggX1_oldestOf_X1_ageOf : GoodIn wsX1_oldestOf wsX1_ageOf := goodIn_r _ [18, 19, 20, 9, 10, 11, 4, 12, 13, 14, 21, 22, 23, 24, 25, 26, 27, 28, 29, 30, 31, 32, 33, 34, 35, 36, 37, 38, 39] (by decide +kernel) (by decide +kernel)
set_option maxRecDepth 20000 in
theorem gX1_oldestOf_X1_ageOf : GoodIn wsX1_oldestOf (wsV RX1 100 RX1 yX1_ageOf wsX1_ageOf) := goodIn_app (goodIn_of _ (by decide +kernel)) ggX1_oldestOf_X1_ageOf
theorem dX1_oldestOf_0 : decode cX1_oldestOf 0 = .ok (.iconst (-1), 1) := by decide +kernel
theorem dX1_oldestOf_1 : decode cX1_oldestOf 1 = .ok (.istore_n 2, 1) := by decide +kernel
theorem dX1_oldestOf_2 : decode cX1_oldestOf 2 = .ok (.iconst 0, 1) := by decide +kernel
theorem dX1_oldestOf_3 : decode cX1_oldestOf 3 = .ok (.istore_n 3, 1) := by decide +kernel
theorem dX1_oldestOf_4 : decode cX1_oldestOf 4 = .ok (.iload_n 3, 1) := by decide +kernel
theorem dX1_oldestOf_5 : decode cX1_oldestOf 5 = .ok (.bipush 12, 2) := by decide +kernel
theorem dX1_oldestOf_7 : decode cX1_oldestOf 7 = .ok (.if_icmp .ge 62, 3) := by decide +kernel
theorem dX1_oldestOf_10 : decode cX1_oldestOf 10 = .ok (.aload_n 0, 1) := by decide +kernel
theorem dX1_oldestOf_11 : decode cX1_oldestOf 11 = .ok (.iload_n 3, 1) := by decide +kernel
theorem dX1_oldestOf_12 : decode cX1_oldestOf 12 = .ok (.invokevirtual 90, 3) := by decide +kernel
theorem dX1_oldestOf_15 : decode cX1_oldestOf 15 = .ok (.iload_n 1, 1) := by decide +kernel
theorem dX1_oldestOf_16 : decode cX1_oldestOf 16 = .ok (.if_icmp .ne 15, 3) := by decide +kernel
theorem dX1_oldestOf_19 : decode cX1_oldestOf 19 = .ok (.aload_n 0, 1) := by decide +kernel
theorem dX1_oldestOf_20 : decode cX1_oldestOf 20 = .ok (.iload_n 3, 1) := by decide +kernel
theorem dX1_oldestOf_21 : decode cX1_oldestOf 21 = .ok (.invokevirtual 67, 3) := by decide +kernel
theorem dX1_oldestOf_24 : decode cX1_oldestOf 24 = .ok (.ifCond .eq 7, 3) := by decide +kernel
theorem dX1_oldestOf_27 : decode cX1_oldestOf 27 = .ok (.iconst 1, 1) := by decide +kernel
theorem dX1_oldestOf_28 : decode cX1_oldestOf 28 = .ok (.goto 4, 3) := by decide +kernel
theorem dX1_oldestOf_31 : decode cX1_oldestOf 31 = .ok (.iconst 0, 1) := by decide +kernel
theorem dX1_oldestOf_32 : decode cX1_oldestOf 32 = .ok (.istore 4, 2) := by decide +kernel
theorem dX1_oldestOf_34 : decode cX1_oldestOf 34 = .ok (.iload 4, 2) := by decide +kernel
theorem dX1_oldestOf_36 : decode cX1_oldestOf 36 = .ok (.ifCond .eq 25, 3) := by decide +kernel
theorem dX1_oldestOf_39 : decode cX1_oldestOf 39 = .ok (.iload_n 2, 1) := by decide +kernel
theorem dX1_oldestOf_40 : decode cX1_oldestOf 40 = .ok (.iconst (-1), 1) := by decide +kernel
theorem dX1_oldestOf_41 : decode cX1_oldestOf 41 = .ok (.if_icmp .eq 16, 3) := by decide +kernel
theorem dX1_oldestOf_44 : decode cX1_oldestOf 44 = .ok (.aload_n 0, 1) := by decide +kernel
theorem dX1_oldestOf_45 : decode cX1_oldestOf 45 = .ok (.iload_n 3, 1) := by decide +kernel
theorem dX1_oldestOf_46 : decode cX1_oldestOf 46 = .ok (.invokevirtual 100, 3) := by decide +kernel
theorem dX1_oldestOf_49 : decode cX1_oldestOf 49 = .ok (.aload_n 0, 1) := by decide +kernel
theorem dX1_oldestOf_50 : decode cX1_oldestOf 50 = .ok (.iload_n 2, 1) := by decide +kernel
theorem dX1_oldestOf_51 : decode cX1_oldestOf 51 = .ok (.invokevirtual 100, 3) := by decide +kernel
theorem dX1_oldestOf_54 : decode cX1_oldestOf 54 = .ok (.if_icmp .le 7, 3) := by decide +kernel
theorem dX1_oldestOf_57 : decode cX1_oldestOf 57 = .ok (.iload_n 3, 1) := by decide +kernel
theorem dX1_oldestOf_58 : decode cX1_oldestOf 58 = .ok (.goto 4, 3) := by decide +kernel
theorem dX1_oldestOf_61 : decode cX1_oldestOf 61 = .ok (.iload_n 2, 1) := by decide +kernel
theorem dX1_oldestOf_62 : decode cX1_oldestOf 62 = .ok (.istore_n 2, 1) := by decide +kernel
theorem dX1_oldestOf_63 : decode cX1_oldestOf 63 = .ok (.iinc 3 1, 3) := by decide +kernel
theorem dX1_oldestOf_66 : decode cX1_oldestOf 66 = .ok (.goto (-62), 3) := by decide +kernel
theorem dX1_oldestOf_69 : decode cX1_oldestOf 69 = .ok (.iload_n 2, 1) := by decide +kernel
theorem dX1_oldestOf_70 : decode cX1_oldestOf 70 = .ok (.ireturn, 1) := by decide +kernel
theorem dX1_ends_0 : decode cX1_ends 0 = .ok (.aload_n 0, 1) := by decide +kernel
theorem dX1_ends_1 : decode cX1_ends 1 = .ok (.getfield 42, 3) := by decide +kernel
theorem dX1_ends_4 : decode cX1_ends 4 = .ok (.iload_n 1, 1) := by decide +kernel
theorem dX1_ends_5 : decode cX1_ends 5 = .ok (.iaload, 1) := by decide +kernel
theorem dX1_ends_6 : decode cX1_ends 6 = .ok (.istore_n 2, 1) := by decide +kernel
theorem dX1_ends_7 : decode cX1_ends 7 = .ok (.aload_n 0, 1) := by decide +kernel
theorem dX1_ends_8 : decode cX1_ends 8 = .ok (.getfield 27, 3) := by decide +kernel
theorem dX1_ends_11 : decode cX1_ends 11 = .ok (.iload_n 2, 1) := by decide +kernel
theorem dX1_ends_12 : decode cX1_ends 12 = .ok (.iconst (-1), 1) := by decide +kernel
theorem dX1_ends_13 : decode cX1_ends 13 = .ok (.iastore, 1) := by decide +kernel
theorem dX1_ends_14 : decode cX1_ends 14 = .ok (.aload_n 0, 1) := by decide +kernel
theorem dX1_ends_15 : decode cX1_ends 15 = .ok (.getfield 17, 3) := by decide +kernel
theorem dX1_ends_18 : decode cX1_ends 18 = .ok (.iload_n 2, 1) := by decide +kernel
theorem dX1_ends_19 : decode cX1_ends 19 = .ok (.iconst (-1), 1) := by decide +kernel
theorem dX1_ends_20 : decode cX1_ends 20 = .ok (.iastore, 1) := by decide +kernel
theorem dX1_ends_21 : decode cX1_ends 21 = .ok (.return_, 1) := by decide +kernel
theorem dX1_lends_0 : decode cX1_lends 0 = .ok (.aload_n 0, 1) := by decide +kernel
theorem dX1_lends_1 : decode cX1_lends 1 = .ok (.getfield 42, 3) := by decide +kernel
theorem dX1_lends_4 : decode cX1_lends 4 = .ok (.aload_n 0, 1) := by decide +kernel
theorem dX1_lends_5 : decode cX1_lends 5 = .ok (.getfield 64, 3) := by decide +kernel
theorem dX1_lends_8 : decode cX1_lends 8 = .ok (.iload_n 1, 1) := by decide +kernel
theorem dX1_lends_9 : decode cX1_lends 9 = .ok (.iastore, 1) := by decide +kernel
theorem dX1_lends_10 : decode cX1_lends 10 = .ok (.aload_n 0, 1) := by decide +kernel
theorem dX1_lends_11 : decode cX1_lends 11 = .ok (.getfield 45, 3) := by decide +kernel
theorem dX1_lends_14 : decode cX1_lends 14 = .ok (.aload_n 0, 1) := by decide +kernel
theorem dX1_lends_15 : decode cX1_lends 15 = .ok (.getfield 64, 3) := by decide +kernel
theorem dX1_lends_18 : decode cX1_lends 18 = .ok (.aload_n 0, 1) := by decide +kernel
theorem dX1_lends_19 : decode cX1_lends 19 = .ok (.getfield 13, 3) := by decide +kernel
theorem dX1_lends_22 : decode cX1_lends 22 = .ok (.iload_n 1, 1) := by decide +kernel
theorem dX1_lends_23 : decode cX1_lends 23 = .ok (.iaload, 1) := by decide +kernel
theorem dX1_lends_24 : decode cX1_lends 24 = .ok (.iastore, 1) := by decide +kernel
theorem dX1_lends_25 : decode cX1_lends 25 = .ok (.aload_n 0, 1) := by decide +kernel
theorem dX1_lends_26 : decode cX1_lends 26 = .ok (.getfield 48, 3) := by decide +kernel
theorem dX1_lends_29 : decode cX1_lends 29 = .ok (.aload_n 0, 1) := by decide +kernel
theorem dX1_lends_30 : decode cX1_lends 30 = .ok (.getfield 64, 3) := by decide +kernel
theorem dX1_lends_33 : decode cX1_lends 33 = .ok (.iload_n 2, 1) := by decide +kernel
theorem dX1_lends_34 : decode cX1_lends 34 = .ok (.iastore, 1) := by decide +kernel
theorem dX1_lends_35 : decode cX1_lends 35 = .ok (.aload_n 0, 1) := by decide +kernel
theorem dX1_lends_36 : decode cX1_lends 36 = .ok (.getfield 51, 3) := by decide +kernel
theorem dX1_lends_39 : decode cX1_lends 39 = .ok (.aload_n 0, 1) := by decide +kernel
theorem dX1_lends_40 : decode cX1_lends 40 = .ok (.getfield 64, 3) := by decide +kernel
theorem dX1_lends_43 : decode cX1_lends 43 = .ok (.iconst 0, 1) := by decide +kernel
theorem dX1_lends_44 : decode cX1_lends 44 = .ok (.iastore, 1) := by decide +kernel
theorem dX1_lends_45 : decode cX1_lends 45 = .ok (.aload_n 0, 1) := by decide +kernel
theorem dX1_lends_46 : decode cX1_lends 46 = .ok (.getfield 27, 3) := by decide +kernel
theorem dX1_lends_49 : decode cX1_lends 49 = .ok (.iload_n 1, 1) := by decide +kernel
theorem dX1_lends_50 : decode cX1_lends 50 = .ok (.aload_n 0, 1) := by decide +kernel
theorem dX1_lends_51 : decode cX1_lends 51 = .ok (.getfield 64, 3) := by decide +kernel
theorem dX1_lends_54 : decode cX1_lends 54 = .ok (.iastore, 1) := by decide +kernel
theorem dX1_lends_55 : decode cX1_lends 55 = .ok (.aload_n 0, 1) := by decide +kernel
theorem dX1_lends_56 : decode cX1_lends 56 = .ok (.dup, 1) := by decide +kernel
theorem dX1_lends_57 : decode cX1_lends 57 = .ok (.getfield 64, 3) := by decide +kernel
theorem dX1_lends_60 : decode cX1_lends 60 = .ok (.iconst 1, 1) := by decide +kernel
theorem dX1_lends_61 : decode cX1_lends 61 = .ok (.iadd, 1) := by decide +kernel
theorem dX1_lends_62 : decode cX1_lends 62 = .ok (.putfield 64, 3) := by decide +kernel
theorem dX1_lends_65 : decode cX1_lends 65 = .ok (.return_, 1) := by decide +kernel
set_option maxRecDepth 20000 in
theorem ggX1_frameFor_X1_emptyOf : GoodIn wsX1_frameFor wsX1_emptyOf := goodIn_r _ [9, 10, 11, 12, 8, 13, 14, 15, 16, 17, 18, 19, 20, 21, 84, 85, 86, 87, 88, 89, 90, 91, 92, 93, 94, 95, 96, 97, 98, 99, 100, 101, 102] (by decide +kernel) (by decide +kernel)
set_option maxRecDepth 20000 in
theorem gX1_frameFor_X1_emptyOf : GoodIn wsX1_frameFor (wsV RX1 114 RX1 yX1_emptyOf wsX1_emptyOf) := goodIn_app (goodIn_of _ (by decide +kernel)) ggX1_frameFor_X1_emptyOf
set_option maxRecDepth 20000 in
theorem ggX1_frameFor_X1_calledIn : GoodIn wsX1_frameFor wsX1_calledIn := goodIn_r _ [25, 4, 26, 1, 27, 28, 29, 8, 30, 14, 31, 32, 33, 34, 21, 35, 84, 85, 86, 87, 88, 89, 90, 91, 92, 93, 94, 95, 96, 97, 98, 99, 100, 101, 102] (by decide +kernel) (by decide +kernel)
set_option maxRecDepth 20000 in
theorem gX1_frameFor_X1_calledIn : GoodIn wsX1_frameFor (wsV RX1 117 RX1 yX1_calledIn wsX1_calledIn) := goodIn_app (goodIn_of _ (by decide +kernel)) ggX1_frameFor_X1_calledIn
set_option maxRecDepth 20000 in
theorem ggX1_frameFor_X1_ends : GoodIn wsX1_frameFor wsX1_ends := goodIn_r _ [39, 1, 14, 21, 84, 85, 86, 87, 88, 89, 90, 91, 92, 93, 94, 95, 96, 97, 98, 99, 100, 101, 102] (by decide +kernel) (by decide +kernel)
set_option maxRecDepth 20000 in
theorem gX1_frameFor_X1_ends : GoodIn wsX1_frameFor (wsV RX1 120 RX1 yX1_ends wsX1_ends) := goodIn_app (goodIn_of _ (by decide +kernel)) ggX1_frameFor_X1_ends
set_option maxRecDepth 20000 in
theorem ggX1_frameFor_X1_borrowedBy : GoodIn wsX1_frameFor wsX1_borrowedBy := goodIn_r _ [43, 14, 16, 84, 85, 86, 87, 88, 89, 90, 91, 92, 93, 94, 95, 96, 97, 98, 99, 100, 101, 102] (by decide +kernel) (by decide +kernel)
set_option maxRecDepth 20000 in
theorem gX1_frameFor_X1_borrowedBy : GoodIn wsX1_frameFor (wsV RX1 124 RX1 yX1_borrowedBy wsX1_borrowedBy) := goodIn_app (goodIn_of _ (by decide +kernel)) ggX1_frameFor_X1_borrowedBy
set_option maxRecDepth 20000 in
theorem ggX1_frameFor_X1_lenderFor : GoodIn wsX1_frameFor wsX1_lenderFor := goodIn_r _ [47, 2, 48, 49, 50, 8, 51, 52, 53, 54, 55, 15, 14, 17, 18, 19, 20, 21, 56, 57, 58, 59, 60, 61, 62, 63, 64, 65, 35, 84, 85, 86, 87, 88, 89, 90, 91, 92, 93, 94, 95, 96, 97, 98, 99, 100, 101, 102] (by decide +kernel) (by decide +kernel)
set_option maxRecDepth 20000 in
theorem gX1_frameFor_X1_lenderFor : GoodIn wsX1_frameFor (wsV RX1 127 RX1 yX1_lenderFor wsX1_lenderFor) := goodIn_app (goodIn_of _ (by decide +kernel)) ggX1_frameFor_X1_lenderFor
set_option maxRecDepth 20000 in
theorem ggX1_frameFor_X1_oldestOf : GoodIn wsX1_frameFor wsX1_oldestOf := goodIn_r _ [69, 10, 11, 12, 8, 13, 14, 15, 16, 62, 63, 64, 65, 21, 35, 56, 57, 58, 59, 60, 61, 84, 85, 86, 87, 88, 89, 90, 91, 92, 93, 94, 95, 96, 97, 98, 99, 100, 101, 102] (by decide +kernel) (by decide +kernel)
set_option maxRecDepth 20000 in
theorem gX1_frameFor_X1_oldestOf : GoodIn wsX1_frameFor (wsV RX1 130 RX1 yX1_oldestOf wsX1_oldestOf) := goodIn_app (goodIn_of _ (by decide +kernel)) ggX1_frameFor_X1_oldestOf
set_option maxRecDepth 20000 in
theorem ggX1_frameFor_X1_frameOf : GoodIn wsX1_frameFor wsX1_frameOf := goodIn_r _ [73, 52, 53, 54, 8, 55, 15, 14, 17, 18, 19, 20, 21, 56, 57, 58, 59, 60, 61, 62, 63, 64, 65, 35, 74, 75, 76, 77, 78, 84, 85, 86, 87, 88, 89, 90, 91, 92, 93, 94, 95, 96, 97, 98, 99, 100, 101, 102] (by decide +kernel) (by decide +kernel)
set_option maxRecDepth 20000 in
theorem gX1_frameFor_X1_frameOf : GoodIn wsX1_frameFor (wsV RX1 133 RX1 yX1_frameOf wsX1_frameOf) := goodIn_app (goodIn_of _ (by decide +kernel)) ggX1_frameFor_X1_frameOf
set_option maxRecDepth 20000 in
theorem ggX1_frameFor_X1_lends : GoodIn wsX1_frameFor wsX1_lends := goodIn_r _ [82, 1, 4, 26, 15, 16, 83, 14, 84, 85, 86, 87, 88, 89, 90, 91, 92, 93, 94, 95, 96, 97, 98, 99, 100, 101, 102] (by decide +kernel) (by decide +kernel)
set_option maxRecDepth 20000 in
theorem gX1_frameFor_X1_lends : GoodIn wsX1_frameFor (wsV RX1 136 RX1 yX1_lends wsX1_lends) := goodIn_app (goodIn_of _ (by decide +kernel)) ggX1_frameFor_X1_lends
theorem dX1_frameFor_0 : decode cX1_frameFor 0 = .ok (.aload_n 0, 1) := by decide +kernel
theorem dX1_frameFor_1 : decode cX1_frameFor 1 = .ok (.iload_n 1, 1) := by decide +kernel
theorem dX1_frameFor_2 : decode cX1_frameFor 2 = .ok (.invokevirtual 114, 3) := by decide +kernel
theorem dX1_frameFor_5 : decode cX1_frameFor 5 = .ok (.istore_n 2, 1) := by decide +kernel
theorem dX1_frameFor_6 : decode cX1_frameFor 6 = .ok (.iload_n 2, 1) := by decide +kernel
theorem dX1_frameFor_7 : decode cX1_frameFor 7 = .ok (.iconst (-1), 1) := by decide +kernel
theorem dX1_frameFor_8 : decode cX1_frameFor 8 = .ok (.if_icmp .eq 5, 3) := by decide +kernel
theorem dX1_frameFor_11 : decode cX1_frameFor 11 = .ok (.iload_n 2, 1) := by decide +kernel
theorem dX1_frameFor_12 : decode cX1_frameFor 12 = .ok (.ireturn, 1) := by decide +kernel
theorem dX1_frameFor_13 : decode cX1_frameFor 13 = .ok (.aload_n 0, 1) := by decide +kernel
theorem dX1_frameFor_14 : decode cX1_frameFor 14 = .ok (.iload_n 1, 1) := by decide +kernel
theorem dX1_frameFor_15 : decode cX1_frameFor 15 = .ok (.invokevirtual 117, 3) := by decide +kernel
theorem dX1_frameFor_18 : decode cX1_frameFor 18 = .ok (.istore_n 3, 1) := by decide +kernel
theorem dX1_frameFor_19 : decode cX1_frameFor 19 = .ok (.iload_n 3, 1) := by decide +kernel
theorem dX1_frameFor_20 : decode cX1_frameFor 20 = .ok (.iconst (-1), 1) := by decide +kernel
theorem dX1_frameFor_21 : decode cX1_frameFor 21 = .ok (.if_icmp .eq 15, 3) := by decide +kernel
theorem dX1_frameFor_24 : decode cX1_frameFor 24 = .ok (.aload_n 0, 1) := by decide +kernel
theorem dX1_frameFor_25 : decode cX1_frameFor 25 = .ok (.iload_n 3, 1) := by decide +kernel
theorem dX1_frameFor_26 : decode cX1_frameFor 26 = .ok (.invokevirtual 120, 3) := by decide +kernel
theorem dX1_frameFor_29 : decode cX1_frameFor 29 = .ok (.aload_n 0, 1) := by decide +kernel
theorem dX1_frameFor_30 : decode cX1_frameFor 30 = .ok (.getfield 42, 3) := by decide +kernel
theorem dX1_frameFor_33 : decode cX1_frameFor 33 = .ok (.iload_n 3, 1) := by decide +kernel
theorem dX1_frameFor_34 : decode cX1_frameFor 34 = .ok (.iaload, 1) := by decide +kernel
theorem dX1_frameFor_35 : decode cX1_frameFor 35 = .ok (.ireturn, 1) := by decide +kernel
theorem dX1_frameFor_36 : decode cX1_frameFor 36 = .ok (.aload_n 0, 1) := by decide +kernel
theorem dX1_frameFor_37 : decode cX1_frameFor 37 = .ok (.getfield 33, 3) := by decide +kernel
theorem dX1_frameFor_40 : decode cX1_frameFor 40 = .ok (.iload_n 1, 1) := by decide +kernel
theorem dX1_frameFor_41 : decode cX1_frameFor 41 = .ok (.iaload, 1) := by decide +kernel
theorem dX1_frameFor_42 : decode cX1_frameFor 42 = .ok (.aload_n 0, 1) := by decide +kernel
theorem dX1_frameFor_43 : decode cX1_frameFor 43 = .ok (.getfield 7, 3) := by decide +kernel
theorem dX1_frameFor_46 : decode cX1_frameFor 46 = .ok (.if_icmp .lt 20, 3) := by decide +kernel
theorem dX1_frameFor_49 : decode cX1_frameFor 49 = .ok (.aload_n 0, 1) := by decide +kernel
theorem dX1_frameFor_50 : decode cX1_frameFor 50 = .ok (.iload_n 1, 1) := by decide +kernel
theorem dX1_frameFor_51 : decode cX1_frameFor 51 = .ok (.invokevirtual 124, 3) := by decide +kernel
theorem dX1_frameFor_54 : decode cX1_frameFor 54 = .ok (.iconst 3, 1) := by decide +kernel
theorem dX1_frameFor_55 : decode cX1_frameFor 55 = .ok (.if_icmp .ge 11, 3) := by decide +kernel
theorem dX1_frameFor_58 : decode cX1_frameFor 58 = .ok (.aload_n 0, 1) := by decide +kernel
theorem dX1_frameFor_59 : decode cX1_frameFor 59 = .ok (.iload_n 1, 1) := by decide +kernel
theorem dX1_frameFor_60 : decode cX1_frameFor 60 = .ok (.invokevirtual 127, 3) := by decide +kernel
theorem dX1_frameFor_63 : decode cX1_frameFor 63 = .ok (.goto 4, 3) := by decide +kernel
theorem dX1_frameFor_66 : decode cX1_frameFor 66 = .ok (.iconst (-1), 1) := by decide +kernel
theorem dX1_frameFor_67 : decode cX1_frameFor 67 = .ok (.istore 4, 2) := by decide +kernel
theorem dX1_frameFor_69 : decode cX1_frameFor 69 = .ok (.iload 4, 2) := by decide +kernel
theorem dX1_frameFor_71 : decode cX1_frameFor 71 = .ok (.iconst (-1), 1) := by decide +kernel
theorem dX1_frameFor_72 : decode cX1_frameFor 72 = .ok (.if_icmp .ne 9, 3) := by decide +kernel
theorem dX1_frameFor_75 : decode cX1_frameFor 75 = .ok (.aload_n 0, 1) := by decide +kernel
theorem dX1_frameFor_76 : decode cX1_frameFor 76 = .ok (.iload_n 1, 1) := by decide +kernel
theorem dX1_frameFor_77 : decode cX1_frameFor 77 = .ok (.invokevirtual 130, 3) := by decide +kernel
theorem dX1_frameFor_80 : decode cX1_frameFor 80 = .ok (.ireturn, 1) := by decide +kernel
theorem dX1_frameFor_81 : decode cX1_frameFor 81 = .ok (.aload_n 0, 1) := by decide +kernel
theorem dX1_frameFor_82 : decode cX1_frameFor 82 = .ok (.getfield 64, 3) := by decide +kernel
theorem dX1_frameFor_85 : decode cX1_frameFor 85 = .ok (.bipush 60, 2) := by decide +kernel
theorem dX1_frameFor_87 : decode cX1_frameFor 87 = .ok (.if_icmp .ne 6, 3) := by decide +kernel
theorem dX1_frameFor_90 : decode cX1_frameFor 90 = .ok (.bipush (-2), 2) := by decide +kernel
theorem dX1_frameFor_92 : decode cX1_frameFor 92 = .ok (.ireturn, 1) := by decide +kernel
theorem dX1_frameFor_93 : decode cX1_frameFor 93 = .ok (.aload_n 0, 1) := by decide +kernel
theorem dX1_frameFor_94 : decode cX1_frameFor 94 = .ok (.iload 4, 2) := by decide +kernel
theorem dX1_frameFor_96 : decode cX1_frameFor 96 = .ok (.invokevirtual 133, 3) := by decide +kernel
theorem dX1_frameFor_99 : decode cX1_frameFor 99 = .ok (.istore_n 2, 1) := by decide +kernel
theorem dX1_frameFor_100 : decode cX1_frameFor 100 = .ok (.aload_n 0, 1) := by decide +kernel
theorem dX1_frameFor_101 : decode cX1_frameFor 101 = .ok (.iload_n 2, 1) := by decide +kernel
theorem dX1_frameFor_102 : decode cX1_frameFor 102 = .ok (.iload_n 1, 1) := by decide +kernel
theorem dX1_frameFor_103 : decode cX1_frameFor 103 = .ok (.invokevirtual 136, 3) := by decide +kernel
theorem dX1_frameFor_106 : decode cX1_frameFor 106 = .ok (.iload_n 2, 1) := by decide +kernel
theorem dX1_frameFor_107 : decode cX1_frameFor 107 = .ok (.ireturn, 1) := by decide +kernel
set_option maxRecDepth 20000 in
theorem ggX1_touch_X1_isProcess : GoodIn wsX1_touch wsX1_isProcess := goodIn_r _ [10, 11, 12, 9, 13] (by decide +kernel) (by decide +kernel)
set_option maxRecDepth 20000 in
theorem gX1_touch_X1_isProcess : GoodIn wsX1_touch (va_wsS RX1 74 yX1_isProcess wsX1_isProcess) := goodIn_app (goodIn_of _ (by decide +kernel)) ggX1_touch_X1_isProcess
set_option maxRecDepth 20000 in
theorem ggX1_touch_X1_isIn : GoodIn wsX1_touch wsX1_isIn := goodIn_r _ [13] (by decide +kernel) (by decide +kernel)
set_option maxRecDepth 20000 in
theorem gX1_touch_X1_isIn : GoodIn wsX1_touch (va_wsS RX1 60 yX1_isIn wsX1_isIn) := goodIn_app (goodIn_of _ (by decide +kernel)) ggX1_touch_X1_isIn
set_option maxRecDepth 20000 in
theorem ggX1_touch_X1_goes : GoodIn wsX1_touch wsX1_goes := goodIn_r _ [17, 18, 105, 106, 107, 108, 109, 110, 111, 112, 113, 114, 115, 116, 117, 118, 119, 120, 121, 122, 123] (by decide +kernel) (by decide +kernel)
set_option maxRecDepth 20000 in
theorem gX1_touch_X1_goes : GoodIn wsX1_touch (wsV RX1 77 RX1 yX1_goes wsX1_goes) := goodIn_app (goodIn_of _ (by decide +kernel)) ggX1_touch_X1_goes
set_option maxRecDepth 20000 in
theorem ggX1_touch_X1_frameWith : GoodIn wsX1_touch wsX1_frameWith := goodIn_r _ [22, 4, 23, 24, 25, 9, 26, 27, 28, 29, 105, 106, 107, 108, 109, 110, 111, 112, 113, 114, 115, 116, 117, 118, 119, 120, 121, 122, 123] (by decide +kernel) (by decide +kernel)
set_option maxRecDepth 20000 in
theorem gX1_touch_X1_frameWith : GoodIn wsX1_touch (wsV RX1 140 RX1 yX1_frameWith wsX1_frameWith) := goodIn_app (goodIn_of _ (by decide +kernel)) ggX1_touch_X1_frameWith
set_option maxRecDepth 20000 in
theorem ggX1_touch_X1_frameFor : GoodIn wsX1_touch wsX1_frameFor := goodIn_r _ [33, 34, 35, 36, 37, 38, 39, 40, 9, 41, 23, 24, 25, 26, 27, 28, 29, 42, 43, 44, 45, 4, 46, 47, 48, 49, 50, 51, 52, 53, 54, 55, 56, 57, 58, 5, 59, 60, 61, 62, 63, 64, 65, 66, 67, 68, 69, 70, 71, 72, 73, 74, 75, 76, 77, 78, 79, 80, 81, 82, 3, 2, 83, 84, 85, 86, 87, 88, 89, 90, 91, 92, 93, 94, 95, 96, 97, 98, 99, 100, 101, 102, 103, 104, 105, 106, 107, 108, 109, 110, 111, 112, 113, 114, 115, 116, 117, 118, 119, 120, 121, 122, 123] (by decide +kernel) (by decide +kernel)
set_option maxRecDepth 20000 in
theorem gX1_touch_X1_frameFor : GoodIn wsX1_touch (wsV RX1 144 RX1 yX1_frameFor wsX1_frameFor) := goodIn_app (goodIn_of _ (by decide +kernel)) ggX1_touch_X1_frameFor
theorem dX1_touch_0 : decode cX1_touch 0 = .ok (.aload_n 0, 1) := by decide +kernel
theorem dX1_touch_1 : decode cX1_touch 1 = .ok (.iload_n 1, 1) := by decide +kernel
theorem dX1_touch_2 : decode cX1_touch 2 = .ok (.invokestatic 74, 3) := by decide +kernel
theorem dX1_touch_5 : decode cX1_touch 5 = .ok (.ifCond .eq 13, 3) := by decide +kernel
theorem dX1_touch_8 : decode cX1_touch 8 = .ok (.iload_n 2, 1) := by decide +kernel
theorem dX1_touch_9 : decode cX1_touch 9 = .ok (.iconst 0, 1) := by decide +kernel
theorem dX1_touch_10 : decode cX1_touch 10 = .ok (.bipush 7, 2) := by decide +kernel
theorem dX1_touch_12 : decode cX1_touch 12 = .ok (.invokestatic 60, 3) := by decide +kernel
theorem dX1_touch_15 : decode cX1_touch 15 = .ok (.ifCond .ne 7, 3) := by decide +kernel
theorem dX1_touch_18 : decode cX1_touch 18 = .ok (.iconst 1, 1) := by decide +kernel
theorem dX1_touch_19 : decode cX1_touch 19 = .ok (.goto 17, 3) := by decide +kernel
theorem dX1_touch_22 : decode cX1_touch 22 = .ok (.aload_n 0, 1) := by decide +kernel
theorem dX1_touch_23 : decode cX1_touch 23 = .ok (.getfield 36, 3) := by decide +kernel
theorem dX1_touch_26 : decode cX1_touch 26 = .ok (.iload_n 1, 1) := by decide +kernel
theorem dX1_touch_27 : decode cX1_touch 27 = .ok (.iaload, 1) := by decide +kernel
theorem dX1_touch_28 : decode cX1_touch 28 = .ok (.ifCond .ne 7, 3) := by decide +kernel
theorem dX1_touch_31 : decode cX1_touch 31 = .ok (.iconst 0, 1) := by decide +kernel
theorem dX1_touch_32 : decode cX1_touch 32 = .ok (.goto 4, 3) := by decide +kernel
theorem dX1_touch_35 : decode cX1_touch 35 = .ok (.iconst 2, 1) := by decide +kernel
theorem dX1_touch_36 : decode cX1_touch 36 = .ok (.invokevirtual 77, 3) := by decide +kernel
theorem dX1_touch_39 : decode cX1_touch 39 = .ok (.ifCond .ne 5, 3) := by decide +kernel
theorem dX1_touch_42 : decode cX1_touch 42 = .ok (.iconst 0, 1) := by decide +kernel
theorem dX1_touch_43 : decode cX1_touch 43 = .ok (.ireturn, 1) := by decide +kernel
theorem dX1_touch_44 : decode cX1_touch 44 = .ok (.aload_n 0, 1) := by decide +kernel
theorem dX1_touch_45 : decode cX1_touch 45 = .ok (.iload_n 1, 1) := by decide +kernel
theorem dX1_touch_46 : decode cX1_touch 46 = .ok (.iload_n 2, 1) := by decide +kernel
theorem dX1_touch_47 : decode cX1_touch 47 = .ok (.invokevirtual 140, 3) := by decide +kernel
theorem dX1_touch_50 : decode cX1_touch 50 = .ok (.istore_n 3, 1) := by decide +kernel
theorem dX1_touch_51 : decode cX1_touch 51 = .ok (.iload_n 3, 1) := by decide +kernel
theorem dX1_touch_52 : decode cX1_touch 52 = .ok (.iconst (-1), 1) := by decide +kernel
theorem dX1_touch_53 : decode cX1_touch 53 = .ok (.if_icmp .eq 15, 3) := by decide +kernel
theorem dX1_touch_56 : decode cX1_touch 56 = .ok (.aload_n 0, 1) := by decide +kernel
theorem dX1_touch_57 : decode cX1_touch 57 = .ok (.getfield 24, 3) := by decide +kernel
theorem dX1_touch_60 : decode cX1_touch 60 = .ok (.iload_n 3, 1) := by decide +kernel
theorem dX1_touch_61 : decode cX1_touch 61 = .ok (.aload_n 0, 1) := by decide +kernel
theorem dX1_touch_62 : decode cX1_touch 62 = .ok (.getfield 71, 3) := by decide +kernel
theorem dX1_touch_65 : decode cX1_touch 65 = .ok (.iastore, 1) := by decide +kernel
theorem dX1_touch_66 : decode cX1_touch 66 = .ok (.iconst (-1), 1) := by decide +kernel
theorem dX1_touch_67 : decode cX1_touch 67 = .ok (.ireturn, 1) := by decide +kernel
theorem dX1_touch_68 : decode cX1_touch 68 = .ok (.aload_n 0, 1) := by decide +kernel
theorem dX1_touch_69 : decode cX1_touch 69 = .ok (.iload_n 1, 1) := by decide +kernel
theorem dX1_touch_70 : decode cX1_touch 70 = .ok (.invokevirtual 144, 3) := by decide +kernel
theorem dX1_touch_73 : decode cX1_touch 73 = .ok (.istore_n 3, 1) := by decide +kernel
theorem dX1_touch_74 : decode cX1_touch 74 = .ok (.aload_n 0, 1) := by decide +kernel
theorem dX1_touch_75 : decode cX1_touch 75 = .ok (.iload_n 3, 1) := by decide +kernel
theorem dX1_touch_76 : decode cX1_touch 76 = .ok (.ifCond .ge 7, 3) := by decide +kernel
theorem dX1_touch_79 : decode cX1_touch 79 = .ok (.iconst 2, 1) := by decide +kernel
theorem dX1_touch_80 : decode cX1_touch 80 = .ok (.goto 4, 3) := by decide +kernel
theorem dX1_touch_83 : decode cX1_touch 83 = .ok (.iconst 0, 1) := by decide +kernel
theorem dX1_touch_84 : decode cX1_touch 84 = .ok (.invokevirtual 77, 3) := by decide +kernel
theorem dX1_touch_87 : decode cX1_touch 87 = .ok (.ifCond .ne 5, 3) := by decide +kernel
theorem dX1_touch_90 : decode cX1_touch 90 = .ok (.iconst 0, 1) := by decide +kernel
theorem dX1_touch_91 : decode cX1_touch 91 = .ok (.ireturn, 1) := by decide +kernel
theorem dX1_touch_92 : decode cX1_touch 92 = .ok (.aload_n 0, 1) := by decide +kernel
theorem dX1_touch_93 : decode cX1_touch 93 = .ok (.getfield 17, 3) := by decide +kernel
theorem dX1_touch_96 : decode cX1_touch 96 = .ok (.iload_n 3, 1) := by decide +kernel
theorem dX1_touch_97 : decode cX1_touch 97 = .ok (.iload_n 2, 1) := by decide +kernel
theorem dX1_touch_98 : decode cX1_touch 98 = .ok (.iastore, 1) := by decide +kernel
theorem dX1_touch_99 : decode cX1_touch 99 = .ok (.aload_n 0, 1) := by decide +kernel
theorem dX1_touch_100 : decode cX1_touch 100 = .ok (.getfield 20, 3) := by decide +kernel
theorem dX1_touch_103 : decode cX1_touch 103 = .ok (.iload_n 3, 1) := by decide +kernel
theorem dX1_touch_104 : decode cX1_touch 104 = .ok (.iconst 0, 1) := by decide +kernel
theorem dX1_touch_105 : decode cX1_touch 105 = .ok (.bastore, 1) := by decide +kernel
theorem dX1_touch_106 : decode cX1_touch 106 = .ok (.aload_n 0, 1) := by decide +kernel
theorem dX1_touch_107 : decode cX1_touch 107 = .ok (.getfield 36, 3) := by decide +kernel
theorem dX1_touch_110 : decode cX1_touch 110 = .ok (.iload_n 1, 1) := by decide +kernel
theorem dX1_touch_111 : decode cX1_touch 111 = .ok (.iconst 1, 1) := by decide +kernel
theorem dX1_touch_112 : decode cX1_touch 112 = .ok (.iastore, 1) := by decide +kernel
theorem dX1_touch_113 : decode cX1_touch 113 = .ok (.aload_n 0, 1) := by decide +kernel
theorem dX1_touch_114 : decode cX1_touch 114 = .ok (.getfield 39, 3) := by decide +kernel
theorem dX1_touch_117 : decode cX1_touch 117 = .ok (.iload_n 1, 1) := by decide +kernel
theorem dX1_touch_118 : decode cX1_touch 118 = .ok (.dup2, 1) := by decide +kernel
theorem dX1_touch_119 : decode cX1_touch 119 = .ok (.iaload, 1) := by decide +kernel
theorem dX1_touch_120 : decode cX1_touch 120 = .ok (.iconst 1, 1) := by decide +kernel
theorem dX1_touch_121 : decode cX1_touch 121 = .ok (.iadd, 1) := by decide +kernel
theorem dX1_touch_122 : decode cX1_touch 122 = .ok (.iastore, 1) := by decide +kernel
theorem dX1_touch_123 : decode cX1_touch 123 = .ok (.iload_n 3, 1) := by decide +kernel
theorem dX1_touch_124 : decode cX1_touch 124 = .ok (.ireturn, 1) := by decide +kernel
set_option maxRecDepth 20000 in
theorem ggX1_payBack_X1_isLoan : GoodIn wsX1_payBack wsX1_isLoan := goodIn_r _ [7, 8, 9, 10, 6, 11, 32, 33, 34, 35, 36, 37, 38, 39, 40, 41, 42, 43, 44, 45, 46, 47, 48, 49, 50] (by decide +kernel) (by decide +kernel)
set_option maxRecDepth 20000 in
theorem gX1_payBack_X1_isLoan : GoodIn wsX1_payBack (wsV RX1 147 RX1 yX1_isLoan wsX1_isLoan) := goodIn_app (goodIn_of _ (by decide +kernel)) ggX1_payBack_X1_isLoan
set_option maxRecDepth 20000 in
theorem ggX1_payBack_X1_goes : GoodIn wsX1_payBack wsX1_goes := goodIn_r _ [15, 16, 32, 33, 34, 35, 36, 37, 38, 39, 40, 41, 42, 43, 44, 45, 46, 47, 48, 49, 50] (by decide +kernel) (by decide +kernel)
set_option maxRecDepth 20000 in
theorem gX1_payBack_X1_goes : GoodIn wsX1_payBack (wsV RX1 77 RX1 yX1_goes wsX1_goes) := goodIn_app (goodIn_of _ (by decide +kernel)) ggX1_payBack_X1_goes
set_option maxRecDepth 20000 in
theorem ggX1_payBack_X1_doesLast : GoodIn wsX1_payBack wsX1_doesLast := goodIn_r _ [20, 21, 1, 32, 33, 34, 35, 36, 37, 38, 39, 40, 41, 42, 43, 44, 45, 46, 47, 48, 49, 50] (by decide +kernel) (by decide +kernel)
set_option maxRecDepth 20000 in
theorem gX1_payBack_X1_doesLast : GoodIn wsX1_payBack (wsV RX1 94 RX1 yX1_doesLast wsX1_doesLast) := goodIn_app (goodIn_of _ (by decide +kernel)) ggX1_payBack_X1_doesLast
set_option maxRecDepth 20000 in
theorem ggX1_payBack_X1_isComing : GoodIn wsX1_payBack wsX1_isComing := goodIn_r _ [25, 26, 27, 32, 33, 34, 35, 36, 37, 38, 39, 40, 41, 42, 43, 44, 45, 46, 47, 48, 49, 50] (by decide +kernel) (by decide +kernel)
set_option maxRecDepth 20000 in
theorem gX1_payBack_X1_isComing : GoodIn wsX1_payBack (wsV RX1 97 RX1 yX1_isComing wsX1_isComing) := goodIn_app (goodIn_of _ (by decide +kernel)) ggX1_payBack_X1_isComing
set_option maxRecDepth 20000 in
theorem ggX1_payBack_X1_ends : GoodIn wsX1_payBack wsX1_ends := goodIn_r _ [31, 1, 21, 26, 32, 33, 34, 35, 36, 37, 38, 39, 40, 41, 42, 43, 44, 45, 46, 47, 48, 49, 50] (by decide +kernel) (by decide +kernel)
set_option maxRecDepth 20000 in
theorem gX1_payBack_X1_ends : GoodIn wsX1_payBack (wsV RX1 120 RX1 yX1_ends wsX1_ends) := goodIn_app (goodIn_of _ (by decide +kernel)) ggX1_payBack_X1_ends
theorem dX1_payBack_0 : decode cX1_payBack 0 = .ok (.aload_n 0, 1) := by decide +kernel
theorem dX1_payBack_1 : decode cX1_payBack 1 = .ok (.aload_n 0, 1) := by decide +kernel
theorem dX1_payBack_2 : decode cX1_payBack 2 = .ok (.iload_n 1, 1) := by decide +kernel
theorem dX1_payBack_3 : decode cX1_payBack 3 = .ok (.invokevirtual 147, 3) := by decide +kernel
theorem dX1_payBack_6 : decode cX1_payBack 6 = .ok (.ifCond .eq 7, 3) := by decide +kernel
theorem dX1_payBack_9 : decode cX1_payBack 9 = .ok (.iconst 0, 1) := by decide +kernel
theorem dX1_payBack_10 : decode cX1_payBack 10 = .ok (.goto 4, 3) := by decide +kernel
theorem dX1_payBack_13 : decode cX1_payBack 13 = .ok (.iconst 1, 1) := by decide +kernel
theorem dX1_payBack_14 : decode cX1_payBack 14 = .ok (.invokevirtual 77, 3) := by decide +kernel
theorem dX1_payBack_17 : decode cX1_payBack 17 = .ok (.ifCond .eq 36, 3) := by decide +kernel
theorem dX1_payBack_20 : decode cX1_payBack 20 = .ok (.aload_n 0, 1) := by decide +kernel
theorem dX1_payBack_21 : decode cX1_payBack 21 = .ok (.aload_n 0, 1) := by decide +kernel
theorem dX1_payBack_22 : decode cX1_payBack 22 = .ok (.iload_n 1, 1) := by decide +kernel
theorem dX1_payBack_23 : decode cX1_payBack 23 = .ok (.invokevirtual 94, 3) := by decide +kernel
theorem dX1_payBack_26 : decode cX1_payBack 26 = .ok (.ifCond .eq 16, 3) := by decide +kernel
theorem dX1_payBack_29 : decode cX1_payBack 29 = .ok (.aload_n 0, 1) := by decide +kernel
theorem dX1_payBack_30 : decode cX1_payBack 30 = .ok (.aload_n 0, 1) := by decide +kernel
theorem dX1_payBack_31 : decode cX1_payBack 31 = .ok (.getfield 42, 3) := by decide +kernel
theorem dX1_payBack_34 : decode cX1_payBack 34 = .ok (.iload_n 1, 1) := by decide +kernel
theorem dX1_payBack_35 : decode cX1_payBack 35 = .ok (.iaload, 1) := by decide +kernel
theorem dX1_payBack_36 : decode cX1_payBack 36 = .ok (.invokevirtual 97, 3) := by decide +kernel
theorem dX1_payBack_39 : decode cX1_payBack 39 = .ok (.ifCond .eq 7, 3) := by decide +kernel
theorem dX1_payBack_42 : decode cX1_payBack 42 = .ok (.iconst 2, 1) := by decide +kernel
theorem dX1_payBack_43 : decode cX1_payBack 43 = .ok (.goto 4, 3) := by decide +kernel
theorem dX1_payBack_46 : decode cX1_payBack 46 = .ok (.iconst 0, 1) := by decide +kernel
theorem dX1_payBack_47 : decode cX1_payBack 47 = .ok (.invokevirtual 77, 3) := by decide +kernel
theorem dX1_payBack_50 : decode cX1_payBack 50 = .ok (.ifCond .ne 5, 3) := by decide +kernel
theorem dX1_payBack_53 : decode cX1_payBack 53 = .ok (.iconst 0, 1) := by decide +kernel
theorem dX1_payBack_54 : decode cX1_payBack 54 = .ok (.ireturn, 1) := by decide +kernel
theorem dX1_payBack_55 : decode cX1_payBack 55 = .ok (.aload_n 0, 1) := by decide +kernel
theorem dX1_payBack_56 : decode cX1_payBack 56 = .ok (.iload_n 1, 1) := by decide +kernel
theorem dX1_payBack_57 : decode cX1_payBack 57 = .ok (.invokevirtual 120, 3) := by decide +kernel
theorem dX1_payBack_60 : decode cX1_payBack 60 = .ok (.aload_n 0, 1) := by decide +kernel
theorem dX1_payBack_61 : decode cX1_payBack 61 = .ok (.getfield 45, 3) := by decide +kernel
theorem dX1_payBack_64 : decode cX1_payBack 64 = .ok (.iload_n 1, 1) := by decide +kernel
theorem dX1_payBack_65 : decode cX1_payBack 65 = .ok (.iaload, 1) := by decide +kernel
theorem dX1_payBack_66 : decode cX1_payBack 66 = .ok (.ireturn, 1) := by decide +kernel
set_option maxRecDepth 20000 in
theorem ggX1_trackOf_X1_holderOf : GoodIn wsX1_trackOf wsX1_holderOf := goodIn_r _ [6, 7, 8, 9, 10, 11, 12, 13, 14, 15, 16, 17, 18, 19, 20, 21, 22, 23, 24, 25, 26, 27, 28] (by decide +kernel) (by decide +kernel)
set_option maxRecDepth 20000 in
theorem gX1_trackOf_X1_holderOf : GoodIn wsX1_trackOf (wsV RX1 90 RX1 yX1_holderOf wsX1_holderOf) := goodIn_app (goodIn_of _ (by decide +kernel)) ggX1_trackOf_X1_holderOf
theorem dX1_trackOf_0 : decode cX1_trackOf 0 = .ok (.bipush 8, 2) := by decide +kernel
theorem dX1_trackOf_2 : decode cX1_trackOf 2 = .ok (.aload_n 0, 1) := by decide +kernel
theorem dX1_trackOf_3 : decode cX1_trackOf 3 = .ok (.iload_n 1, 1) := by decide +kernel
theorem dX1_trackOf_4 : decode cX1_trackOf 4 = .ok (.invokevirtual 90, 3) := by decide +kernel
theorem dX1_trackOf_7 : decode cX1_trackOf 7 = .ok (.imul, 1) := by decide +kernel
theorem dX1_trackOf_8 : decode cX1_trackOf 8 = .ok (.aload_n 0, 1) := by decide +kernel
theorem dX1_trackOf_9 : decode cX1_trackOf 9 = .ok (.getfield 17, 3) := by decide +kernel
theorem dX1_trackOf_12 : decode cX1_trackOf 12 = .ok (.iload_n 1, 1) := by decide +kernel
theorem dX1_trackOf_13 : decode cX1_trackOf 13 = .ok (.iaload, 1) := by decide +kernel
theorem dX1_trackOf_14 : decode cX1_trackOf 14 = .ok (.iadd, 1) := by decide +kernel
theorem dX1_trackOf_15 : decode cX1_trackOf 15 = .ok (.ireturn, 1) := by decide +kernel
set_option maxRecDepth 20000 in
theorem ggX1_sleeps_X1_holderOf : GoodIn wsX1_sleeps wsX1_holderOf := goodIn_r _ [10, 11, 12, 4, 27, 28, 29, 30, 31, 32, 33, 34, 35, 36, 37, 38, 39, 40, 41, 42, 43, 44, 45] (by decide +kernel) (by decide +kernel)
set_option maxRecDepth 20000 in
theorem gX1_sleeps_X1_holderOf : GoodIn wsX1_sleeps (wsV RX1 90 RX1 yX1_holderOf wsX1_holderOf) := goodIn_app (goodIn_of _ (by decide +kernel)) ggX1_sleeps_X1_holderOf
set_option maxRecDepth 20000 in
theorem ggX1_sleeps_X1_isComing : GoodIn wsX1_sleeps wsX1_isComing := goodIn_r _ [16, 2, 17, 27, 28, 29, 30, 31, 32, 33, 34, 35, 36, 37, 38, 39, 40, 41, 42, 43, 44, 45] (by decide +kernel) (by decide +kernel)
set_option maxRecDepth 20000 in
theorem gX1_sleeps_X1_isComing : GoodIn wsX1_sleeps (wsV RX1 97 RX1 yX1_isComing wsX1_isComing) := goodIn_app (goodIn_of _ (by decide +kernel)) ggX1_sleeps_X1_isComing
set_option maxRecDepth 20000 in
theorem ggX1_sleeps_X1_doesLast : GoodIn wsX1_sleeps wsX1_doesLast := goodIn_r _ [21, 11, 22, 27, 28, 29, 30, 31, 32, 33, 34, 35, 36, 37, 38, 39, 40, 41, 42, 43, 44, 45] (by decide +kernel) (by decide +kernel)
set_option maxRecDepth 20000 in
theorem gX1_sleeps_X1_doesLast : GoodIn wsX1_sleeps (wsV RX1 94 RX1 yX1_doesLast wsX1_doesLast) := goodIn_app (goodIn_of _ (by decide +kernel)) ggX1_sleeps_X1_doesLast
set_option maxRecDepth 20000 in
theorem ggX1_sleeps_X1_ends : GoodIn wsX1_sleeps wsX1_ends := goodIn_r _ [26, 22, 11, 2, 27, 28, 29, 30, 31, 32, 33, 34, 35, 36, 37, 38, 39, 40, 41, 42, 43, 44, 45] (by decide +kernel) (by decide +kernel)
set_option maxRecDepth 20000 in
theorem gX1_sleeps_X1_ends : GoodIn wsX1_sleeps (wsV RX1 120 RX1 yX1_ends wsX1_ends) := goodIn_app (goodIn_of _ (by decide +kernel)) ggX1_sleeps_X1_ends
theorem dX1_sleeps_0 : decode cX1_sleeps 0 = .ok (.iconst 0, 1) := by decide +kernel
theorem dX1_sleeps_1 : decode cX1_sleeps 1 = .ok (.istore_n 2, 1) := by decide +kernel
theorem dX1_sleeps_2 : decode cX1_sleeps 2 = .ok (.iload_n 2, 1) := by decide +kernel
theorem dX1_sleeps_3 : decode cX1_sleeps 3 = .ok (.bipush 12, 2) := by decide +kernel
theorem dX1_sleeps_5 : decode cX1_sleeps 5 = .ok (.if_icmp .ge 53, 3) := by decide +kernel
theorem dX1_sleeps_8 : decode cX1_sleeps 8 = .ok (.aload_n 0, 1) := by decide +kernel
theorem dX1_sleeps_9 : decode cX1_sleeps 9 = .ok (.iload_n 2, 1) := by decide +kernel
theorem dX1_sleeps_10 : decode cX1_sleeps 10 = .ok (.invokevirtual 90, 3) := by decide +kernel
theorem dX1_sleeps_13 : decode cX1_sleeps 13 = .ok (.iload_n 1, 1) := by decide +kernel
theorem dX1_sleeps_14 : decode cX1_sleeps 14 = .ok (.if_icmp .ne 38, 3) := by decide +kernel
theorem dX1_sleeps_17 : decode cX1_sleeps 17 = .ok (.aload_n 0, 1) := by decide +kernel
theorem dX1_sleeps_18 : decode cX1_sleeps 18 = .ok (.iload_n 2, 1) := by decide +kernel
theorem dX1_sleeps_19 : decode cX1_sleeps 19 = .ok (.invokevirtual 97, 3) := by decide +kernel
theorem dX1_sleeps_22 : decode cX1_sleeps 22 = .ok (.ifCond .eq 30, 3) := by decide +kernel
theorem dX1_sleeps_25 : decode cX1_sleeps 25 = .ok (.aload_n 0, 1) := by decide +kernel
theorem dX1_sleeps_26 : decode cX1_sleeps 26 = .ok (.aload_n 0, 1) := by decide +kernel
theorem dX1_sleeps_27 : decode cX1_sleeps 27 = .ok (.getfield 54, 3) := by decide +kernel
theorem dX1_sleeps_30 : decode cX1_sleeps 30 = .ok (.iload_n 2, 1) := by decide +kernel
theorem dX1_sleeps_31 : decode cX1_sleeps 31 = .ok (.if_icmp .ne 7, 3) := by decide +kernel
theorem dX1_sleeps_34 : decode cX1_sleeps 34 = .ok (.iconst (-1), 1) := by decide +kernel
theorem dX1_sleeps_35 : decode cX1_sleeps 35 = .ok (.goto 7, 3) := by decide +kernel
theorem dX1_sleeps_38 : decode cX1_sleeps 38 = .ok (.aload_n 0, 1) := by decide +kernel
theorem dX1_sleeps_39 : decode cX1_sleeps 39 = .ok (.getfield 54, 3) := by decide +kernel
theorem dX1_sleeps_42 : decode cX1_sleeps 42 = .ok (.putfield 54, 3) := by decide +kernel
theorem dX1_sleeps_45 : decode cX1_sleeps 45 = .ok (.aload_n 0, 1) := by decide +kernel
theorem dX1_sleeps_46 : decode cX1_sleeps 46 = .ok (.getfield 17, 3) := by decide +kernel
theorem dX1_sleeps_49 : decode cX1_sleeps 49 = .ok (.iload_n 2, 1) := by decide +kernel
theorem dX1_sleeps_50 : decode cX1_sleeps 50 = .ok (.iconst (-1), 1) := by decide +kernel
theorem dX1_sleeps_51 : decode cX1_sleeps 51 = .ok (.iastore, 1) := by decide +kernel
theorem dX1_sleeps_52 : decode cX1_sleeps 52 = .ok (.iinc 2 1, 3) := by decide +kernel
theorem dX1_sleeps_55 : decode cX1_sleeps 55 = .ok (.goto (-53), 3) := by decide +kernel
theorem dX1_sleeps_58 : decode cX1_sleeps 58 = .ok (.iconst 0, 1) := by decide +kernel
theorem dX1_sleeps_59 : decode cX1_sleeps 59 = .ok (.istore_n 2, 1) := by decide +kernel
theorem dX1_sleeps_60 : decode cX1_sleeps 60 = .ok (.iload_n 2, 1) := by decide +kernel
theorem dX1_sleeps_61 : decode cX1_sleeps 61 = .ok (.aload_n 0, 1) := by decide +kernel
theorem dX1_sleeps_62 : decode cX1_sleeps 62 = .ok (.getfield 64, 3) := by decide +kernel
theorem dX1_sleeps_65 : decode cX1_sleeps 65 = .ok (.if_icmp .ge 32, 3) := by decide +kernel
theorem dX1_sleeps_68 : decode cX1_sleeps 68 = .ok (.aload_n 0, 1) := by decide +kernel
theorem dX1_sleeps_69 : decode cX1_sleeps 69 = .ok (.iload_n 2, 1) := by decide +kernel
theorem dX1_sleeps_70 : decode cX1_sleeps 70 = .ok (.invokevirtual 94, 3) := by decide +kernel
theorem dX1_sleeps_73 : decode cX1_sleeps 73 = .ok (.ifCond .eq 18, 3) := by decide +kernel
theorem dX1_sleeps_76 : decode cX1_sleeps 76 = .ok (.aload_n 0, 1) := by decide +kernel
theorem dX1_sleeps_77 : decode cX1_sleeps 77 = .ok (.getfield 48, 3) := by decide +kernel
theorem dX1_sleeps_80 : decode cX1_sleeps 80 = .ok (.iload_n 2, 1) := by decide +kernel
theorem dX1_sleeps_81 : decode cX1_sleeps 81 = .ok (.iaload, 1) := by decide +kernel
theorem dX1_sleeps_82 : decode cX1_sleeps 82 = .ok (.iload_n 1, 1) := by decide +kernel
theorem dX1_sleeps_83 : decode cX1_sleeps 83 = .ok (.if_icmp .ne 8, 3) := by decide +kernel
theorem dX1_sleeps_86 : decode cX1_sleeps 86 = .ok (.aload_n 0, 1) := by decide +kernel
theorem dX1_sleeps_87 : decode cX1_sleeps 87 = .ok (.iload_n 2, 1) := by decide +kernel
theorem dX1_sleeps_88 : decode cX1_sleeps 88 = .ok (.invokevirtual 120, 3) := by decide +kernel
theorem dX1_sleeps_91 : decode cX1_sleeps 91 = .ok (.iinc 2 1, 3) := by decide +kernel
theorem dX1_sleeps_94 : decode cX1_sleeps 94 = .ok (.goto (-34), 3) := by decide +kernel
theorem dX1_sleeps_97 : decode cX1_sleeps 97 = .ok (.aload_n 0, 1) := by decide +kernel
theorem dX1_sleeps_98 : decode cX1_sleeps 98 = .ok (.getfield 36, 3) := by decide +kernel
theorem dX1_sleeps_101 : decode cX1_sleeps 101 = .ok (.iload_n 1, 1) := by decide +kernel
theorem dX1_sleeps_102 : decode cX1_sleeps 102 = .ok (.iconst 2, 1) := by decide +kernel
theorem dX1_sleeps_103 : decode cX1_sleeps 103 = .ok (.iastore, 1) := by decide +kernel
theorem dX1_sleeps_104 : decode cX1_sleeps 104 = .ok (.return_, 1) := by decide +kernel
set_option maxRecDepth 20000 in
theorem ggX1_pays_X1_doesLast : GoodIn wsX1_pays wsX1_doesLast := goodIn_r _ [11, 12, 13, 35, 36, 37, 38, 39, 40, 41, 42, 43, 44, 45, 46, 47, 48, 49, 50, 51, 52, 53] (by decide +kernel) (by decide +kernel)
set_option maxRecDepth 20000 in
theorem gX1_pays_X1_doesLast : GoodIn wsX1_pays (wsV RX1 94 RX1 yX1_doesLast wsX1_doesLast) := goodIn_app (goodIn_of _ (by decide +kernel)) ggX1_pays_X1_doesLast
set_option maxRecDepth 20000 in
theorem ggX1_pays_X1_sleeps : GoodIn wsX1_pays wsX1_sleeps := goodIn_r _ [17, 18, 19, 1, 3, 20, 21, 22, 23, 10, 24, 12, 25, 26, 27, 28, 29, 30, 7, 8, 9, 11, 13, 31, 32, 33, 34, 35, 36, 37, 38, 39, 40, 41, 42, 43, 44, 45, 46, 47, 48, 49, 50, 51, 52, 53] (by decide +kernel) (by decide +kernel)
set_option maxRecDepth 20000 in
theorem gX1_pays_X1_sleeps : GoodIn wsX1_pays (wsV RX1 150 RX1 yX1_sleeps wsX1_sleeps) := goodIn_app (goodIn_of _ (by decide +kernel)) ggX1_pays_X1_sleeps
theorem dX1_pays_0 : decode cX1_pays 0 = .ok (.iconst 0, 1) := by decide +kernel
theorem dX1_pays_1 : decode cX1_pays 1 = .ok (.istore_n 1, 1) := by decide +kernel
theorem dX1_pays_2 : decode cX1_pays 2 = .ok (.iload_n 1, 1) := by decide +kernel
theorem dX1_pays_3 : decode cX1_pays 3 = .ok (.aload_n 0, 1) := by decide +kernel
theorem dX1_pays_4 : decode cX1_pays 4 = .ok (.getfield 64, 3) := by decide +kernel
theorem dX1_pays_7 : decode cX1_pays 7 = .ok (.if_icmp .ge 102, 3) := by decide +kernel
theorem dX1_pays_10 : decode cX1_pays 10 = .ok (.aload_n 0, 1) := by decide +kernel
theorem dX1_pays_11 : decode cX1_pays 11 = .ok (.iload_n 1, 1) := by decide +kernel
theorem dX1_pays_12 : decode cX1_pays 12 = .ok (.invokevirtual 94, 3) := by decide +kernel
theorem dX1_pays_15 : decode cX1_pays 15 = .ok (.ifCond .eq 31, 3) := by decide +kernel
theorem dX1_pays_18 : decode cX1_pays 18 = .ok (.aload_n 0, 1) := by decide +kernel
theorem dX1_pays_19 : decode cX1_pays 19 = .ok (.getfield 33, 3) := by decide +kernel
theorem dX1_pays_22 : decode cX1_pays 22 = .ok (.aload_n 0, 1) := by decide +kernel
theorem dX1_pays_23 : decode cX1_pays 23 = .ok (.getfield 48, 3) := by decide +kernel
theorem dX1_pays_26 : decode cX1_pays 26 = .ok (.iload_n 1, 1) := by decide +kernel
theorem dX1_pays_27 : decode cX1_pays 27 = .ok (.iaload, 1) := by decide +kernel
theorem dX1_pays_28 : decode cX1_pays 28 = .ok (.iaload, 1) := by decide +kernel
theorem dX1_pays_29 : decode cX1_pays 29 = .ok (.aload_n 0, 1) := by decide +kernel
theorem dX1_pays_30 : decode cX1_pays 30 = .ok (.getfield 7, 3) := by decide +kernel
theorem dX1_pays_33 : decode cX1_pays 33 = .ok (.if_icmp .ge 13, 3) := by decide +kernel
theorem dX1_pays_36 : decode cX1_pays 36 = .ok (.aload_n 0, 1) := by decide +kernel
theorem dX1_pays_37 : decode cX1_pays 37 = .ok (.aload_n 0, 1) := by decide +kernel
theorem dX1_pays_38 : decode cX1_pays 38 = .ok (.getfield 48, 3) := by decide +kernel
theorem dX1_pays_41 : decode cX1_pays 41 = .ok (.iload_n 1, 1) := by decide +kernel
theorem dX1_pays_42 : decode cX1_pays 42 = .ok (.iaload, 1) := by decide +kernel
theorem dX1_pays_43 : decode cX1_pays 43 = .ok (.invokevirtual 150, 3) := by decide +kernel
theorem dX1_pays_46 : decode cX1_pays 46 = .ok (.aload_n 0, 1) := by decide +kernel
theorem dX1_pays_47 : decode cX1_pays 47 = .ok (.iload_n 1, 1) := by decide +kernel
theorem dX1_pays_48 : decode cX1_pays 48 = .ok (.invokevirtual 94, 3) := by decide +kernel
theorem dX1_pays_51 : decode cX1_pays 51 = .ok (.ifCond .eq 52, 3) := by decide +kernel
theorem dX1_pays_54 : decode cX1_pays 54 = .ok (.aload_n 0, 1) := by decide +kernel
theorem dX1_pays_55 : decode cX1_pays 55 = .ok (.getfield 33, 3) := by decide +kernel
theorem dX1_pays_58 : decode cX1_pays 58 = .ok (.aload_n 0, 1) := by decide +kernel
theorem dX1_pays_59 : decode cX1_pays 59 = .ok (.getfield 48, 3) := by decide +kernel
theorem dX1_pays_62 : decode cX1_pays 62 = .ok (.iload_n 1, 1) := by decide +kernel
theorem dX1_pays_63 : decode cX1_pays 63 = .ok (.iaload, 1) := by decide +kernel
theorem dX1_pays_64 : decode cX1_pays 64 = .ok (.dup2, 1) := by decide +kernel
theorem dX1_pays_65 : decode cX1_pays 65 = .ok (.iaload, 1) := by decide +kernel
theorem dX1_pays_66 : decode cX1_pays 66 = .ok (.aload_n 0, 1) := by decide +kernel
theorem dX1_pays_67 : decode cX1_pays 67 = .ok (.getfield 7, 3) := by decide +kernel
theorem dX1_pays_70 : decode cX1_pays 70 = .ok (.isub, 1) := by decide +kernel
theorem dX1_pays_71 : decode cX1_pays 71 = .ok (.iastore, 1) := by decide +kernel
theorem dX1_pays_72 : decode cX1_pays 72 = .ok (.aload_n 0, 1) := by decide +kernel
theorem dX1_pays_73 : decode cX1_pays 73 = .ok (.getfield 33, 3) := by decide +kernel
theorem dX1_pays_76 : decode cX1_pays 76 = .ok (.aload_n 0, 1) := by decide +kernel
theorem dX1_pays_77 : decode cX1_pays 77 = .ok (.getfield 45, 3) := by decide +kernel
theorem dX1_pays_80 : decode cX1_pays 80 = .ok (.iload_n 1, 1) := by decide +kernel
theorem dX1_pays_81 : decode cX1_pays 81 = .ok (.iaload, 1) := by decide +kernel
theorem dX1_pays_82 : decode cX1_pays 82 = .ok (.dup2, 1) := by decide +kernel
theorem dX1_pays_83 : decode cX1_pays 83 = .ok (.iaload, 1) := by decide +kernel
theorem dX1_pays_84 : decode cX1_pays 84 = .ok (.aload_n 0, 1) := by decide +kernel
theorem dX1_pays_85 : decode cX1_pays 85 = .ok (.getfield 7, 3) := by decide +kernel
theorem dX1_pays_88 : decode cX1_pays 88 = .ok (.iadd, 1) := by decide +kernel
theorem dX1_pays_89 : decode cX1_pays 89 = .ok (.iastore, 1) := by decide +kernel
theorem dX1_pays_90 : decode cX1_pays 90 = .ok (.aload_n 0, 1) := by decide +kernel
theorem dX1_pays_91 : decode cX1_pays 91 = .ok (.getfield 51, 3) := by decide +kernel
theorem dX1_pays_94 : decode cX1_pays 94 = .ok (.iload_n 1, 1) := by decide +kernel
theorem dX1_pays_95 : decode cX1_pays 95 = .ok (.dup2, 1) := by decide +kernel
theorem dX1_pays_96 : decode cX1_pays 96 = .ok (.iaload, 1) := by decide +kernel
theorem dX1_pays_97 : decode cX1_pays 97 = .ok (.aload_n 0, 1) := by decide +kernel
theorem dX1_pays_98 : decode cX1_pays 98 = .ok (.getfield 7, 3) := by decide +kernel
theorem dX1_pays_101 : decode cX1_pays 101 = .ok (.iadd, 1) := by decide +kernel
theorem dX1_pays_102 : decode cX1_pays 102 = .ok (.iastore, 1) := by decide +kernel
theorem dX1_pays_103 : decode cX1_pays 103 = .ok (.iinc 1 1, 3) := by decide +kernel
theorem dX1_pays_106 : decode cX1_pays 106 = .ok (.goto (-104), 3) := by decide +kernel
theorem dX1_pays_109 : decode cX1_pays 109 = .ok (.return_, 1) := by decide +kernel
theorem dX1_richest_0 : decode cX1_richest 0 = .ok (.iconst (-1), 1) := by decide +kernel
theorem dX1_richest_1 : decode cX1_richest 1 = .ok (.istore_n 1, 1) := by decide +kernel
theorem dX1_richest_2 : decode cX1_richest 2 = .ok (.iconst 0, 1) := by decide +kernel
theorem dX1_richest_3 : decode cX1_richest 3 = .ok (.istore_n 2, 1) := by decide +kernel
theorem dX1_richest_4 : decode cX1_richest 4 = .ok (.iload_n 2, 1) := by decide +kernel
theorem dX1_richest_5 : decode cX1_richest 5 = .ok (.iconst 5, 1) := by decide +kernel
theorem dX1_richest_6 : decode cX1_richest 6 = .ok (.if_icmp .ge 66, 3) := by decide +kernel
theorem dX1_richest_9 : decode cX1_richest 9 = .ok (.aload_n 0, 1) := by decide +kernel
theorem dX1_richest_10 : decode cX1_richest 10 = .ok (.getfield 36, 3) := by decide +kernel
theorem dX1_richest_13 : decode cX1_richest 13 = .ok (.iload_n 2, 1) := by decide +kernel
theorem dX1_richest_14 : decode cX1_richest 14 = .ok (.iaload, 1) := by decide +kernel
theorem dX1_richest_15 : decode cX1_richest 15 = .ok (.iconst 2, 1) := by decide +kernel
theorem dX1_richest_16 : decode cX1_richest 16 = .ok (.if_icmp .eq 18, 3) := by decide +kernel
theorem dX1_richest_19 : decode cX1_richest 19 = .ok (.aload_n 0, 1) := by decide +kernel
theorem dX1_richest_20 : decode cX1_richest 20 = .ok (.getfield 33, 3) := by decide +kernel
theorem dX1_richest_23 : decode cX1_richest 23 = .ok (.iload_n 2, 1) := by decide +kernel
theorem dX1_richest_24 : decode cX1_richest 24 = .ok (.iaload, 1) := by decide +kernel
theorem dX1_richest_25 : decode cX1_richest 25 = .ok (.bipush 20, 2) := by decide +kernel
theorem dX1_richest_27 : decode cX1_richest 27 = .ok (.if_icmp .lt 7, 3) := by decide +kernel
theorem dX1_richest_30 : decode cX1_richest 30 = .ok (.iconst 1, 1) := by decide +kernel
theorem dX1_richest_31 : decode cX1_richest 31 = .ok (.goto 4, 3) := by decide +kernel
theorem dX1_richest_34 : decode cX1_richest 34 = .ok (.iconst 0, 1) := by decide +kernel
theorem dX1_richest_35 : decode cX1_richest 35 = .ok (.istore_n 3, 1) := by decide +kernel
theorem dX1_richest_36 : decode cX1_richest 36 = .ok (.iload_n 3, 1) := by decide +kernel
theorem dX1_richest_37 : decode cX1_richest 37 = .ok (.ifCond .eq 27, 3) := by decide +kernel
theorem dX1_richest_40 : decode cX1_richest 40 = .ok (.iload_n 1, 1) := by decide +kernel
theorem dX1_richest_41 : decode cX1_richest 41 = .ok (.iconst (-1), 1) := by decide +kernel
theorem dX1_richest_42 : decode cX1_richest 42 = .ok (.if_icmp .eq 18, 3) := by decide +kernel
theorem dX1_richest_45 : decode cX1_richest 45 = .ok (.aload_n 0, 1) := by decide +kernel
theorem dX1_richest_46 : decode cX1_richest 46 = .ok (.getfield 33, 3) := by decide +kernel
theorem dX1_richest_49 : decode cX1_richest 49 = .ok (.iload_n 2, 1) := by decide +kernel
theorem dX1_richest_50 : decode cX1_richest 50 = .ok (.iaload, 1) := by decide +kernel
theorem dX1_richest_51 : decode cX1_richest 51 = .ok (.aload_n 0, 1) := by decide +kernel
theorem dX1_richest_52 : decode cX1_richest 52 = .ok (.getfield 33, 3) := by decide +kernel
theorem dX1_richest_55 : decode cX1_richest 55 = .ok (.iload_n 1, 1) := by decide +kernel
theorem dX1_richest_56 : decode cX1_richest 56 = .ok (.iaload, 1) := by decide +kernel
theorem dX1_richest_57 : decode cX1_richest 57 = .ok (.if_icmp .le 7, 3) := by decide +kernel
theorem dX1_richest_60 : decode cX1_richest 60 = .ok (.iload_n 2, 1) := by decide +kernel
theorem dX1_richest_61 : decode cX1_richest 61 = .ok (.goto 4, 3) := by decide +kernel
theorem dX1_richest_64 : decode cX1_richest 64 = .ok (.iload_n 1, 1) := by decide +kernel
theorem dX1_richest_65 : decode cX1_richest 65 = .ok (.istore_n 1, 1) := by decide +kernel
theorem dX1_richest_66 : decode cX1_richest 66 = .ok (.iinc 2 1, 3) := by decide +kernel
theorem dX1_richest_69 : decode cX1_richest 69 = .ok (.goto (-65), 3) := by decide +kernel
theorem dX1_richest_72 : decode cX1_richest 72 = .ok (.iload_n 1, 1) := by decide +kernel
theorem dX1_richest_73 : decode cX1_richest 73 = .ok (.ireturn, 1) := by decide +kernel
set_option maxRecDepth 20000 in
theorem ggX1_gives_X1_richest : GoodIn wsX1_gives wsX1_richest := goodIn_r _ [7, 1, 2, 8, 9, 10, 11, 12, 13, 14, 15, 16, 17, 18, 19, 20, 21, 22, 23, 24, 25, 26] (by decide +kernel) (by decide +kernel)
set_option maxRecDepth 20000 in
theorem gX1_gives_X1_richest : GoodIn wsX1_gives (wsV RX1 153 RX1 yX1_richest wsX1_richest) := goodIn_app (goodIn_of _ (by decide +kernel)) ggX1_gives_X1_richest
theorem dX1_gives_0 : decode cX1_gives 0 = .ok (.iconst 0, 1) := by decide +kernel
theorem dX1_gives_1 : decode cX1_gives 1 = .ok (.istore_n 1, 1) := by decide +kernel
theorem dX1_gives_2 : decode cX1_gives 2 = .ok (.iload_n 1, 1) := by decide +kernel
theorem dX1_gives_3 : decode cX1_gives 3 = .ok (.iconst 5, 1) := by decide +kernel
theorem dX1_gives_4 : decode cX1_gives 4 = .ok (.if_icmp .ge 89, 3) := by decide +kernel
theorem dX1_gives_7 : decode cX1_gives 7 = .ok (.aload_n 0, 1) := by decide +kernel
theorem dX1_gives_8 : decode cX1_gives 8 = .ok (.getfield 36, 3) := by decide +kernel
theorem dX1_gives_11 : decode cX1_gives 11 = .ok (.iload_n 1, 1) := by decide +kernel
theorem dX1_gives_12 : decode cX1_gives 12 = .ok (.iaload, 1) := by decide +kernel
theorem dX1_gives_13 : decode cX1_gives 13 = .ok (.iconst 2, 1) := by decide +kernel
theorem dX1_gives_14 : decode cX1_gives 14 = .ok (.if_icmp .ne 10, 3) := by decide +kernel
theorem dX1_gives_17 : decode cX1_gives 17 = .ok (.aload_n 0, 1) := by decide +kernel
theorem dX1_gives_18 : decode cX1_gives 18 = .ok (.invokevirtual 153, 3) := by decide +kernel
theorem dX1_gives_21 : decode cX1_gives 21 = .ok (.goto 4, 3) := by decide +kernel
theorem dX1_gives_24 : decode cX1_gives 24 = .ok (.iconst (-1), 1) := by decide +kernel
theorem dX1_gives_25 : decode cX1_gives 25 = .ok (.istore_n 2, 1) := by decide +kernel
theorem dX1_gives_26 : decode cX1_gives 26 = .ok (.iload_n 2, 1) := by decide +kernel
theorem dX1_gives_27 : decode cX1_gives 27 = .ok (.iconst (-1), 1) := by decide +kernel
theorem dX1_gives_28 : decode cX1_gives 28 = .ok (.if_icmp .eq 23, 3) := by decide +kernel
theorem dX1_gives_31 : decode cX1_gives 31 = .ok (.aload_n 0, 1) := by decide +kernel
theorem dX1_gives_32 : decode cX1_gives 32 = .ok (.getfield 33, 3) := by decide +kernel
theorem dX1_gives_35 : decode cX1_gives 35 = .ok (.iload_n 2, 1) := by decide +kernel
theorem dX1_gives_36 : decode cX1_gives 36 = .ok (.dup2, 1) := by decide +kernel
theorem dX1_gives_37 : decode cX1_gives 37 = .ok (.iaload, 1) := by decide +kernel
theorem dX1_gives_38 : decode cX1_gives 38 = .ok (.iconst 1, 1) := by decide +kernel
theorem dX1_gives_39 : decode cX1_gives 39 = .ok (.isub, 1) := by decide +kernel
theorem dX1_gives_40 : decode cX1_gives 40 = .ok (.iastore, 1) := by decide +kernel
theorem dX1_gives_41 : decode cX1_gives 41 = .ok (.aload_n 0, 1) := by decide +kernel
theorem dX1_gives_42 : decode cX1_gives 42 = .ok (.getfield 33, 3) := by decide +kernel
theorem dX1_gives_45 : decode cX1_gives 45 = .ok (.iload_n 1, 1) := by decide +kernel
theorem dX1_gives_46 : decode cX1_gives 46 = .ok (.dup2, 1) := by decide +kernel
theorem dX1_gives_47 : decode cX1_gives 47 = .ok (.iaload, 1) := by decide +kernel
theorem dX1_gives_48 : decode cX1_gives 48 = .ok (.iconst 1, 1) := by decide +kernel
theorem dX1_gives_49 : decode cX1_gives 49 = .ok (.iadd, 1) := by decide +kernel
theorem dX1_gives_50 : decode cX1_gives 50 = .ok (.iastore, 1) := by decide +kernel
theorem dX1_gives_51 : decode cX1_gives 51 = .ok (.aload_n 0, 1) := by decide +kernel
theorem dX1_gives_52 : decode cX1_gives 52 = .ok (.getfield 36, 3) := by decide +kernel
theorem dX1_gives_55 : decode cX1_gives 55 = .ok (.iload_n 1, 1) := by decide +kernel
theorem dX1_gives_56 : decode cX1_gives 56 = .ok (.aload_n 0, 1) := by decide +kernel
theorem dX1_gives_57 : decode cX1_gives 57 = .ok (.getfield 36, 3) := by decide +kernel
theorem dX1_gives_60 : decode cX1_gives 60 = .ok (.iload_n 1, 1) := by decide +kernel
theorem dX1_gives_61 : decode cX1_gives 61 = .ok (.iaload, 1) := by decide +kernel
theorem dX1_gives_62 : decode cX1_gives 62 = .ok (.iconst 2, 1) := by decide +kernel
theorem dX1_gives_63 : decode cX1_gives 63 = .ok (.if_icmp .ne 17, 3) := by decide +kernel
theorem dX1_gives_66 : decode cX1_gives 66 = .ok (.aload_n 0, 1) := by decide +kernel
theorem dX1_gives_67 : decode cX1_gives 67 = .ok (.getfield 33, 3) := by decide +kernel
theorem dX1_gives_70 : decode cX1_gives 70 = .ok (.iload_n 1, 1) := by decide +kernel
theorem dX1_gives_71 : decode cX1_gives 71 = .ok (.iaload, 1) := by decide +kernel
theorem dX1_gives_72 : decode cX1_gives 72 = .ok (.iconst 5, 1) := by decide +kernel
theorem dX1_gives_73 : decode cX1_gives 73 = .ok (.if_icmp .lt 7, 3) := by decide +kernel
theorem dX1_gives_76 : decode cX1_gives 76 = .ok (.iconst 0, 1) := by decide +kernel
theorem dX1_gives_77 : decode cX1_gives 77 = .ok (.goto 9, 3) := by decide +kernel
theorem dX1_gives_80 : decode cX1_gives 80 = .ok (.aload_n 0, 1) := by decide +kernel
theorem dX1_gives_81 : decode cX1_gives 81 = .ok (.getfield 36, 3) := by decide +kernel
theorem dX1_gives_84 : decode cX1_gives 84 = .ok (.iload_n 1, 1) := by decide +kernel
theorem dX1_gives_85 : decode cX1_gives 85 = .ok (.iaload, 1) := by decide +kernel
theorem dX1_gives_86 : decode cX1_gives 86 = .ok (.iastore, 1) := by decide +kernel
theorem dX1_gives_87 : decode cX1_gives 87 = .ok (.iinc 1 1, 3) := by decide +kernel
theorem dX1_gives_90 : decode cX1_gives 90 = .ok (.goto (-88), 3) := by decide +kernel
theorem dX1_gives_93 : decode cX1_gives 93 = .ok (.return_, 1) := by decide +kernel
set_option maxRecDepth 20000 in
theorem ggX1_distance_X1_trackOf : GoodIn wsX1_distance wsX1_trackOf := goodIn_r _ [6, 7, 8, 9, 10, 5, 11, 12, 13, 14, 15, 16, 17, 18, 19, 20, 21, 22, 23, 24, 25, 26, 27, 28, 29, 30, 31, 32, 33] (by decide +kernel) (by decide +kernel)
set_option maxRecDepth 20000 in
theorem gX1_distance_X1_trackOf : GoodIn wsX1_distance (wsV RX1 156 RX1 yX1_trackOf wsX1_trackOf) := goodIn_app (goodIn_of _ (by decide +kernel)) ggX1_distance_X1_trackOf
theorem dX1_distance_0 : decode cX1_distance 0 = .ok (.aload_n 0, 1) := by decide +kernel
theorem dX1_distance_1 : decode cX1_distance 1 = .ok (.iload_n 1, 1) := by decide +kernel
theorem dX1_distance_2 : decode cX1_distance 2 = .ok (.invokevirtual 156, 3) := by decide +kernel
theorem dX1_distance_5 : decode cX1_distance 5 = .ok (.istore_n 2, 1) := by decide +kernel
theorem dX1_distance_6 : decode cX1_distance 6 = .ok (.iload_n 2, 1) := by decide +kernel
theorem dX1_distance_7 : decode cX1_distance 7 = .ok (.aload_n 0, 1) := by decide +kernel
theorem dX1_distance_8 : decode cX1_distance 8 = .ok (.getfield 159, 3) := by decide +kernel
theorem dX1_distance_11 : decode cX1_distance 11 = .ok (.if_icmp .ge 12, 3) := by decide +kernel
theorem dX1_distance_14 : decode cX1_distance 14 = .ok (.aload_n 0, 1) := by decide +kernel
theorem dX1_distance_15 : decode cX1_distance 15 = .ok (.getfield 159, 3) := by decide +kernel
theorem dX1_distance_18 : decode cX1_distance 18 = .ok (.iload_n 2, 1) := by decide +kernel
theorem dX1_distance_19 : decode cX1_distance 19 = .ok (.isub, 1) := by decide +kernel
theorem dX1_distance_20 : decode cX1_distance 20 = .ok (.goto 9, 3) := by decide +kernel
theorem dX1_distance_23 : decode cX1_distance 23 = .ok (.iload_n 2, 1) := by decide +kernel
theorem dX1_distance_24 : decode cX1_distance 24 = .ok (.aload_n 0, 1) := by decide +kernel
theorem dX1_distance_25 : decode cX1_distance 25 = .ok (.getfield 159, 3) := by decide +kernel
theorem dX1_distance_28 : decode cX1_distance 28 = .ok (.isub, 1) := by decide +kernel
theorem dX1_distance_29 : decode cX1_distance 29 = .ok (.ireturn, 1) := by decide +kernel
set_option maxRecDepth 20000 in
theorem ggX1_nearest_X1_isComing : GoodIn wsX1_nearest wsX1_isComing := goodIn_r _ [5, 6, 7, 24, 25, 26, 27, 28, 29, 30, 31, 32, 33, 34, 35, 36, 37, 38, 39, 40, 41, 42] (by decide +kernel) (by decide +kernel)
set_option maxRecDepth 20000 in
theorem gX1_nearest_X1_isComing : GoodIn wsX1_nearest (wsV RX1 97 RX1 yX1_isComing wsX1_isComing) := goodIn_app (goodIn_of _ (by decide +kernel)) ggX1_nearest_X1_isComing
set_option maxRecDepth 20000 in
theorem ggX1_nearest_X1_distance : GoodIn wsX1_nearest wsX1_distance := goodIn_r _ [11, 12, 13, 14, 15, 4, 16, 6, 17, 18, 19, 20, 21, 22, 23, 24, 25, 26, 27, 28, 29, 30, 31, 32, 33, 34, 35, 36, 37, 38, 39, 40, 41, 42] (by decide +kernel) (by decide +kernel)
set_option maxRecDepth 20000 in
theorem gX1_nearest_X1_distance : GoodIn wsX1_nearest (wsV RX1 162 RX1 yX1_distance wsX1_distance) := goodIn_app (goodIn_of _ (by decide +kernel)) ggX1_nearest_X1_distance
set_option maxRecDepth 20000 in
theorem ggX1_nearest_X1_trackOf : GoodIn wsX1_nearest wsX1_trackOf := goodIn_r _ [16, 6, 17, 18, 19, 4, 20, 21, 22, 23, 24, 25, 26, 27, 28, 29, 30, 31, 32, 33, 34, 35, 36, 37, 38, 39, 40, 41, 42] (by decide +kernel) (by decide +kernel)
set_option maxRecDepth 20000 in
theorem gX1_nearest_X1_trackOf : GoodIn wsX1_nearest (wsV RX1 156 RX1 yX1_trackOf wsX1_trackOf) := goodIn_app (goodIn_of _ (by decide +kernel)) ggX1_nearest_X1_trackOf
theorem dX1_nearest_0 : decode cX1_nearest 0 = .ok (.iconst (-1), 1) := by decide +kernel
theorem dX1_nearest_1 : decode cX1_nearest 1 = .ok (.istore_n 1, 1) := by decide +kernel
theorem dX1_nearest_2 : decode cX1_nearest 2 = .ok (.iconst 0, 1) := by decide +kernel
theorem dX1_nearest_3 : decode cX1_nearest 3 = .ok (.istore_n 2, 1) := by decide +kernel
theorem dX1_nearest_4 : decode cX1_nearest 4 = .ok (.iload_n 2, 1) := by decide +kernel
theorem dX1_nearest_5 : decode cX1_nearest 5 = .ok (.bipush 12, 2) := by decide +kernel
theorem dX1_nearest_7 : decode cX1_nearest 7 = .ok (.if_icmp .ge 102, 3) := by decide +kernel
theorem dX1_nearest_10 : decode cX1_nearest 10 = .ok (.aload_n 0, 1) := by decide +kernel
theorem dX1_nearest_11 : decode cX1_nearest 11 = .ok (.iload_n 2, 1) := by decide +kernel
theorem dX1_nearest_12 : decode cX1_nearest 12 = .ok (.invokevirtual 97, 3) := by decide +kernel
theorem dX1_nearest_15 : decode cX1_nearest 15 = .ok (.istore_n 3, 1) := by decide +kernel
theorem dX1_nearest_16 : decode cX1_nearest 16 = .ok (.iload_n 3, 1) := by decide +kernel
theorem dX1_nearest_17 : decode cX1_nearest 17 = .ok (.ifCond .eq 25, 3) := by decide +kernel
theorem dX1_nearest_20 : decode cX1_nearest 20 = .ok (.iload_n 1, 1) := by decide +kernel
theorem dX1_nearest_21 : decode cX1_nearest 21 = .ok (.iconst (-1), 1) := by decide +kernel
theorem dX1_nearest_22 : decode cX1_nearest 22 = .ok (.if_icmp .eq 16, 3) := by decide +kernel
theorem dX1_nearest_25 : decode cX1_nearest 25 = .ok (.aload_n 0, 1) := by decide +kernel
theorem dX1_nearest_26 : decode cX1_nearest 26 = .ok (.iload_n 2, 1) := by decide +kernel
theorem dX1_nearest_27 : decode cX1_nearest 27 = .ok (.invokevirtual 162, 3) := by decide +kernel
theorem dX1_nearest_30 : decode cX1_nearest 30 = .ok (.aload_n 0, 1) := by decide +kernel
theorem dX1_nearest_31 : decode cX1_nearest 31 = .ok (.iload_n 1, 1) := by decide +kernel
theorem dX1_nearest_32 : decode cX1_nearest 32 = .ok (.invokevirtual 162, 3) := by decide +kernel
theorem dX1_nearest_35 : decode cX1_nearest 35 = .ok (.if_icmp .ge 7, 3) := by decide +kernel
theorem dX1_nearest_38 : decode cX1_nearest 38 = .ok (.iconst 1, 1) := by decide +kernel
theorem dX1_nearest_39 : decode cX1_nearest 39 = .ok (.goto 4, 3) := by decide +kernel
theorem dX1_nearest_42 : decode cX1_nearest 42 = .ok (.iconst 0, 1) := by decide +kernel
theorem dX1_nearest_43 : decode cX1_nearest 43 = .ok (.istore 4, 2) := by decide +kernel
theorem dX1_nearest_45 : decode cX1_nearest 45 = .ok (.iload_n 3, 1) := by decide +kernel
theorem dX1_nearest_46 : decode cX1_nearest 46 = .ok (.ifCond .eq 38, 3) := by decide +kernel
theorem dX1_nearest_49 : decode cX1_nearest 49 = .ok (.iload_n 1, 1) := by decide +kernel
theorem dX1_nearest_50 : decode cX1_nearest 50 = .ok (.iconst (-1), 1) := by decide +kernel
theorem dX1_nearest_51 : decode cX1_nearest 51 = .ok (.if_icmp .eq 33, 3) := by decide +kernel
theorem dX1_nearest_54 : decode cX1_nearest 54 = .ok (.aload_n 0, 1) := by decide +kernel
theorem dX1_nearest_55 : decode cX1_nearest 55 = .ok (.iload_n 2, 1) := by decide +kernel
theorem dX1_nearest_56 : decode cX1_nearest 56 = .ok (.invokevirtual 162, 3) := by decide +kernel
theorem dX1_nearest_59 : decode cX1_nearest 59 = .ok (.aload_n 0, 1) := by decide +kernel
theorem dX1_nearest_60 : decode cX1_nearest 60 = .ok (.iload_n 1, 1) := by decide +kernel
theorem dX1_nearest_61 : decode cX1_nearest 61 = .ok (.invokevirtual 162, 3) := by decide +kernel
theorem dX1_nearest_64 : decode cX1_nearest 64 = .ok (.if_icmp .ne 20, 3) := by decide +kernel
theorem dX1_nearest_67 : decode cX1_nearest 67 = .ok (.aload_n 0, 1) := by decide +kernel
theorem dX1_nearest_68 : decode cX1_nearest 68 = .ok (.iload_n 2, 1) := by decide +kernel
theorem dX1_nearest_69 : decode cX1_nearest 69 = .ok (.invokevirtual 156, 3) := by decide +kernel
theorem dX1_nearest_72 : decode cX1_nearest 72 = .ok (.aload_n 0, 1) := by decide +kernel
theorem dX1_nearest_73 : decode cX1_nearest 73 = .ok (.iload_n 1, 1) := by decide +kernel
theorem dX1_nearest_74 : decode cX1_nearest 74 = .ok (.invokevirtual 156, 3) := by decide +kernel
theorem dX1_nearest_77 : decode cX1_nearest 77 = .ok (.if_icmp .ge 7, 3) := by decide +kernel
theorem dX1_nearest_80 : decode cX1_nearest 80 = .ok (.iconst 1, 1) := by decide +kernel
theorem dX1_nearest_81 : decode cX1_nearest 81 = .ok (.goto 4, 3) := by decide +kernel
theorem dX1_nearest_84 : decode cX1_nearest 84 = .ok (.iconst 0, 1) := by decide +kernel
theorem dX1_nearest_85 : decode cX1_nearest 85 = .ok (.istore 5, 2) := by decide +kernel
theorem dX1_nearest_87 : decode cX1_nearest 87 = .ok (.iload 4, 2) := by decide +kernel
theorem dX1_nearest_89 : decode cX1_nearest 89 = .ok (.ifCond .ne 8, 3) := by decide +kernel
theorem dX1_nearest_92 : decode cX1_nearest 92 = .ok (.iload 5, 2) := by decide +kernel
theorem dX1_nearest_94 : decode cX1_nearest 94 = .ok (.ifCond .eq 7, 3) := by decide +kernel
theorem dX1_nearest_97 : decode cX1_nearest 97 = .ok (.iload_n 2, 1) := by decide +kernel
theorem dX1_nearest_98 : decode cX1_nearest 98 = .ok (.goto 4, 3) := by decide +kernel
theorem dX1_nearest_101 : decode cX1_nearest 101 = .ok (.iload_n 1, 1) := by decide +kernel
theorem dX1_nearest_102 : decode cX1_nearest 102 = .ok (.istore_n 1, 1) := by decide +kernel
theorem dX1_nearest_103 : decode cX1_nearest 103 = .ok (.iinc 2 1, 3) := by decide +kernel
theorem dX1_nearest_106 : decode cX1_nearest 106 = .ok (.goto (-102), 3) := by decide +kernel
theorem dX1_nearest_109 : decode cX1_nearest 109 = .ok (.iload_n 1, 1) := by decide +kernel
theorem dX1_nearest_110 : decode cX1_nearest 110 = .ok (.ireturn, 1) := by decide +kernel
set_option maxRecDepth 20000 in
theorem ggX1_turns_X1_nearest : GoodIn wsX1_turns wsX1_nearest := goodIn_r _ [11, 12, 13, 14, 10, 15, 16, 3, 17, 18, 19, 20, 2, 21, 22, 23, 24, 25, 26, 27, 28, 29, 30, 31, 32, 33, 34, 35, 36, 37, 38, 39, 40, 41, 42, 43, 44, 45, 46, 47, 48, 49, 50] (by decide +kernel) (by decide +kernel)
set_option maxRecDepth 20000 in
theorem gX1_turns_X1_nearest : GoodIn wsX1_turns (wsV RX1 165 RX1 yX1_nearest wsX1_nearest) := goodIn_app (goodIn_of _ (by decide +kernel)) ggX1_turns_X1_nearest
set_option maxRecDepth 20000 in
theorem ggX1_turns_X1_trackOf : GoodIn wsX1_turns wsX1_trackOf := goodIn_r _ [24, 16, 25, 26, 27, 10, 28, 29, 30, 31, 32, 33, 34, 35, 36, 37, 38, 39, 40, 41, 42, 43, 44, 45, 46, 47, 48, 49, 50] (by decide +kernel) (by decide +kernel)
set_option maxRecDepth 20000 in
theorem gX1_turns_X1_trackOf : GoodIn wsX1_turns (wsV RX1 156 RX1 yX1_trackOf wsX1_trackOf) := goodIn_app (goodIn_of _ (by decide +kernel)) ggX1_turns_X1_trackOf
set_option maxRecDepth 20000 in
theorem ggX1_turns_X1_holderOf : GoodIn wsX1_turns wsX1_holderOf := goodIn_r _ [28, 29, 30, 31, 32, 33, 34, 35, 36, 37, 38, 39, 40, 41, 42, 43, 44, 45, 46, 47, 48, 49, 50] (by decide +kernel) (by decide +kernel)
set_option maxRecDepth 20000 in
theorem gX1_turns_X1_holderOf : GoodIn wsX1_turns (wsV RX1 90 RX1 yX1_holderOf wsX1_holderOf) := goodIn_app (goodIn_of _ (by decide +kernel)) ggX1_turns_X1_holderOf
theorem dX1_turns_0 : decode cX1_turns 0 = .ok (.aload_n 0, 1) := by decide +kernel
theorem dX1_turns_1 : decode cX1_turns 1 = .ok (.aload_n 0, 1) := by decide +kernel
theorem dX1_turns_2 : decode cX1_turns 2 = .ok (.getfield 54, 3) := by decide +kernel
theorem dX1_turns_5 : decode cX1_turns 5 = .ok (.iconst (-1), 1) := by decide +kernel
theorem dX1_turns_6 : decode cX1_turns 6 = .ok (.if_icmp .ne 10, 3) := by decide +kernel
theorem dX1_turns_9 : decode cX1_turns 9 = .ok (.aload_n 0, 1) := by decide +kernel
theorem dX1_turns_10 : decode cX1_turns 10 = .ok (.invokevirtual 165, 3) := by decide +kernel
theorem dX1_turns_13 : decode cX1_turns 13 = .ok (.goto 7, 3) := by decide +kernel
theorem dX1_turns_16 : decode cX1_turns 16 = .ok (.aload_n 0, 1) := by decide +kernel
theorem dX1_turns_17 : decode cX1_turns 17 = .ok (.getfield 54, 3) := by decide +kernel
theorem dX1_turns_20 : decode cX1_turns 20 = .ok (.putfield 54, 3) := by decide +kernel
theorem dX1_turns_23 : decode cX1_turns 23 = .ok (.aload_n 0, 1) := by decide +kernel
theorem dX1_turns_24 : decode cX1_turns 24 = .ok (.getfield 54, 3) := by decide +kernel
theorem dX1_turns_27 : decode cX1_turns 27 = .ok (.iconst (-1), 1) := by decide +kernel
theorem dX1_turns_28 : decode cX1_turns 28 = .ok (.if_icmp .ne 4, 3) := by decide +kernel
theorem dX1_turns_31 : decode cX1_turns 31 = .ok (.return_, 1) := by decide +kernel
theorem dX1_turns_32 : decode cX1_turns 32 = .ok (.aload_n 0, 1) := by decide +kernel
theorem dX1_turns_33 : decode cX1_turns 33 = .ok (.aload_n 0, 1) := by decide +kernel
theorem dX1_turns_34 : decode cX1_turns 34 = .ok (.getfield 54, 3) := by decide +kernel
theorem dX1_turns_37 : decode cX1_turns 37 = .ok (.invokevirtual 156, 3) := by decide +kernel
theorem dX1_turns_40 : decode cX1_turns 40 = .ok (.istore_n 1, 1) := by decide +kernel
theorem dX1_turns_41 : decode cX1_turns 41 = .ok (.aload_n 0, 1) := by decide +kernel
theorem dX1_turns_42 : decode cX1_turns 42 = .ok (.dup, 1) := by decide +kernel
theorem dX1_turns_43 : decode cX1_turns 43 = .ok (.getfield 159, 3) := by decide +kernel
theorem dX1_turns_46 : decode cX1_turns 46 = .ok (.iload_n 1, 1) := by decide +kernel
theorem dX1_turns_47 : decode cX1_turns 47 = .ok (.aload_n 0, 1) := by decide +kernel
theorem dX1_turns_48 : decode cX1_turns 48 = .ok (.getfield 159, 3) := by decide +kernel
theorem dX1_turns_51 : decode cX1_turns 51 = .ok (.if_icmp .le 7, 3) := by decide +kernel
theorem dX1_turns_54 : decode cX1_turns 54 = .ok (.iconst 1, 1) := by decide +kernel
theorem dX1_turns_55 : decode cX1_turns 55 = .ok (.goto 16, 3) := by decide +kernel
theorem dX1_turns_58 : decode cX1_turns 58 = .ok (.iload_n 1, 1) := by decide +kernel
theorem dX1_turns_59 : decode cX1_turns 59 = .ok (.aload_n 0, 1) := by decide +kernel
theorem dX1_turns_60 : decode cX1_turns 60 = .ok (.getfield 159, 3) := by decide +kernel
theorem dX1_turns_63 : decode cX1_turns 63 = .ok (.if_icmp .ge 7, 3) := by decide +kernel
theorem dX1_turns_66 : decode cX1_turns 66 = .ok (.iconst (-1), 1) := by decide +kernel
theorem dX1_turns_67 : decode cX1_turns 67 = .ok (.goto 4, 3) := by decide +kernel
theorem dX1_turns_70 : decode cX1_turns 70 = .ok (.iconst 0, 1) := by decide +kernel
theorem dX1_turns_71 : decode cX1_turns 71 = .ok (.iadd, 1) := by decide +kernel
theorem dX1_turns_72 : decode cX1_turns 72 = .ok (.putfield 159, 3) := by decide +kernel
theorem dX1_turns_75 : decode cX1_turns 75 = .ok (.aload_n 0, 1) := by decide +kernel
theorem dX1_turns_76 : decode cX1_turns 76 = .ok (.getfield 159, 3) := by decide +kernel
theorem dX1_turns_79 : decode cX1_turns 79 = .ok (.iload_n 1, 1) := by decide +kernel
theorem dX1_turns_80 : decode cX1_turns 80 = .ok (.if_icmp .ne 45, 3) := by decide +kernel
theorem dX1_turns_83 : decode cX1_turns 83 = .ok (.aload_n 0, 1) := by decide +kernel
theorem dX1_turns_84 : decode cX1_turns 84 = .ok (.getfield 20, 3) := by decide +kernel
theorem dX1_turns_87 : decode cX1_turns 87 = .ok (.aload_n 0, 1) := by decide +kernel
theorem dX1_turns_88 : decode cX1_turns 88 = .ok (.getfield 54, 3) := by decide +kernel
theorem dX1_turns_91 : decode cX1_turns 91 = .ok (.iconst 1, 1) := by decide +kernel
theorem dX1_turns_92 : decode cX1_turns 92 = .ok (.bastore, 1) := by decide +kernel
theorem dX1_turns_93 : decode cX1_turns 93 = .ok (.aload_n 0, 1) := by decide +kernel
theorem dX1_turns_94 : decode cX1_turns 94 = .ok (.getfield 24, 3) := by decide +kernel
theorem dX1_turns_97 : decode cX1_turns 97 = .ok (.aload_n 0, 1) := by decide +kernel
theorem dX1_turns_98 : decode cX1_turns 98 = .ok (.getfield 54, 3) := by decide +kernel
theorem dX1_turns_101 : decode cX1_turns 101 = .ok (.aload_n 0, 1) := by decide +kernel
theorem dX1_turns_102 : decode cX1_turns 102 = .ok (.getfield 71, 3) := by decide +kernel
theorem dX1_turns_105 : decode cX1_turns 105 = .ok (.iastore, 1) := by decide +kernel
theorem dX1_turns_106 : decode cX1_turns 106 = .ok (.aload_n 0, 1) := by decide +kernel
theorem dX1_turns_107 : decode cX1_turns 107 = .ok (.getfield 36, 3) := by decide +kernel
theorem dX1_turns_110 : decode cX1_turns 110 = .ok (.aload_n 0, 1) := by decide +kernel
theorem dX1_turns_111 : decode cX1_turns 111 = .ok (.aload_n 0, 1) := by decide +kernel
theorem dX1_turns_112 : decode cX1_turns 112 = .ok (.getfield 54, 3) := by decide +kernel
theorem dX1_turns_115 : decode cX1_turns 115 = .ok (.invokevirtual 90, 3) := by decide +kernel
theorem dX1_turns_118 : decode cX1_turns 118 = .ok (.iconst 0, 1) := by decide +kernel
theorem dX1_turns_119 : decode cX1_turns 119 = .ok (.iastore, 1) := by decide +kernel
theorem dX1_turns_120 : decode cX1_turns 120 = .ok (.aload_n 0, 1) := by decide +kernel
theorem dX1_turns_121 : decode cX1_turns 121 = .ok (.iconst (-1), 1) := by decide +kernel
theorem dX1_turns_122 : decode cX1_turns 122 = .ok (.putfield 54, 3) := by decide +kernel
theorem dX1_turns_125 : decode cX1_turns 125 = .ok (.return_, 1) := by decide +kernel
set_option maxRecDepth 20000 in
theorem ggX1_advance_X1_isIn : GoodIn wsX1_advance wsX1_isIn := goodIn_r _ [9] (by decide +kernel) (by decide +kernel)
set_option maxRecDepth 20000 in
theorem gX1_advance_X1_isIn : GoodIn wsX1_advance (va_wsS RX1 60 yX1_isIn wsX1_isIn) := goodIn_app (goodIn_of _ (by decide +kernel)) ggX1_advance_X1_isIn
set_option maxRecDepth 20000 in
theorem ggX1_advance_X1_goes : GoodIn wsX1_advance wsX1_goes := goodIn_r _ [13, 14, 76, 77, 78, 79, 80, 81, 82, 83, 84, 85, 86, 87, 88, 89, 90, 91, 92, 93, 94] (by decide +kernel) (by decide +kernel)
set_option maxRecDepth 20000 in
theorem gX1_advance_X1_goes : GoodIn wsX1_advance (wsV RX1 77 RX1 yX1_goes wsX1_goes) := goodIn_app (goodIn_of _ (by decide +kernel)) ggX1_advance_X1_goes
set_option maxRecDepth 20000 in
theorem ggX1_advance_X1_pays : GoodIn wsX1_advance wsX1_pays := goodIn_r _ [18, 19, 3, 20, 21, 22, 23, 24, 25, 26, 8, 27, 28, 29, 30, 31, 32, 33, 34, 35, 4, 36, 37, 38, 39, 40, 41, 42, 43, 44, 45, 46, 47, 48, 49, 76, 77, 78, 79, 80, 81, 82, 83, 84, 85, 86, 87, 88, 89, 90, 91, 92, 93, 94] (by decide +kernel) (by decide +kernel)
set_option maxRecDepth 20000 in
theorem gX1_advance_X1_pays : GoodIn wsX1_advance (wsV RX1 169 RX1 yX1_pays wsX1_pays) := goodIn_app (goodIn_of _ (by decide +kernel)) ggX1_advance_X1_pays
set_option maxRecDepth 20000 in
theorem ggX1_advance_X1_gives : GoodIn wsX1_advance wsX1_gives := goodIn_r _ [53, 4, 3, 54, 55, 56, 8, 57, 76, 77, 78, 79, 80, 81, 82, 83, 84, 85, 86, 87, 88, 89, 90, 91, 92, 93, 94] (by decide +kernel) (by decide +kernel)
set_option maxRecDepth 20000 in
theorem gX1_advance_X1_gives : GoodIn wsX1_advance (wsV RX1 172 RX1 yX1_gives wsX1_gives) := goodIn_app (goodIn_of _ (by decide +kernel)) ggX1_advance_X1_gives
set_option maxRecDepth 20000 in
theorem ggX1_advance_X1_turns : GoodIn wsX1_advance wsX1_turns := goodIn_r _ [61, 34, 62, 45, 63, 1, 4, 64, 65, 66, 8, 67, 41, 42, 43, 44, 35, 68, 69, 70, 71, 72, 73, 74, 75, 36, 37, 38, 39, 28, 40, 20, 76, 77, 78, 79, 80, 81, 82, 83, 84, 85, 86, 87, 88, 89, 90, 91, 92, 93, 94] (by decide +kernel) (by decide +kernel)
set_option maxRecDepth 20000 in
theorem gX1_advance_X1_turns : GoodIn wsX1_advance (wsV RX1 175 RX1 yX1_turns wsX1_turns) := goodIn_app (goodIn_of _ (by decide +kernel)) ggX1_advance_X1_turns
theorem dX1_advance_0 : decode cX1_advance 0 = .ok (.aload_n 0, 1) := by decide +kernel
theorem dX1_advance_1 : decode cX1_advance 1 = .ok (.iload_n 1, 1) := by decide +kernel
theorem dX1_advance_2 : decode cX1_advance 2 = .ok (.iconst 1, 1) := by decide +kernel
theorem dX1_advance_3 : decode cX1_advance 3 = .ok (.sipush 200, 3) := by decide +kernel
theorem dX1_advance_6 : decode cX1_advance 6 = .ok (.invokestatic 60, 3) := by decide +kernel
theorem dX1_advance_9 : decode cX1_advance 9 = .ok (.ifCond .ne 7, 3) := by decide +kernel
theorem dX1_advance_12 : decode cX1_advance 12 = .ok (.iconst 1, 1) := by decide +kernel
theorem dX1_advance_13 : decode cX1_advance 13 = .ok (.goto 19, 3) := by decide +kernel
theorem dX1_advance_16 : decode cX1_advance 16 = .ok (.aload_n 0, 1) := by decide +kernel
theorem dX1_advance_17 : decode cX1_advance 17 = .ok (.getfield 71, 3) := by decide +kernel
theorem dX1_advance_20 : decode cX1_advance 20 = .ok (.iload_n 1, 1) := by decide +kernel
theorem dX1_advance_21 : decode cX1_advance 21 = .ok (.iadd, 1) := by decide +kernel
theorem dX1_advance_22 : decode cX1_advance 22 = .ok (.ldc 168, 2) := by decide +kernel
theorem dX1_advance_24 : decode cX1_advance 24 = .ok (.if_icmp .le 7, 3) := by decide +kernel
theorem dX1_advance_27 : decode cX1_advance 27 = .ok (.iconst 2, 1) := by decide +kernel
theorem dX1_advance_28 : decode cX1_advance 28 = .ok (.goto 4, 3) := by decide +kernel
theorem dX1_advance_31 : decode cX1_advance 31 = .ok (.iconst 0, 1) := by decide +kernel
theorem dX1_advance_32 : decode cX1_advance 32 = .ok (.invokevirtual 77, 3) := by decide +kernel
theorem dX1_advance_35 : decode cX1_advance 35 = .ok (.ifCond .ne 5, 3) := by decide +kernel
theorem dX1_advance_38 : decode cX1_advance 38 = .ok (.iconst 0, 1) := by decide +kernel
theorem dX1_advance_39 : decode cX1_advance 39 = .ok (.ireturn, 1) := by decide +kernel
theorem dX1_advance_40 : decode cX1_advance 40 = .ok (.iconst 0, 1) := by decide +kernel
theorem dX1_advance_41 : decode cX1_advance 41 = .ok (.istore_n 2, 1) := by decide +kernel
theorem dX1_advance_42 : decode cX1_advance 42 = .ok (.iload_n 2, 1) := by decide +kernel
theorem dX1_advance_43 : decode cX1_advance 43 = .ok (.iload_n 1, 1) := by decide +kernel
theorem dX1_advance_44 : decode cX1_advance 44 = .ok (.if_icmp .ge 73, 3) := by decide +kernel
theorem dX1_advance_47 : decode cX1_advance 47 = .ok (.iconst 0, 1) := by decide +kernel
theorem dX1_advance_48 : decode cX1_advance 48 = .ok (.istore_n 3, 1) := by decide +kernel
theorem dX1_advance_49 : decode cX1_advance 49 = .ok (.iload_n 3, 1) := by decide +kernel
theorem dX1_advance_50 : decode cX1_advance 50 = .ok (.iconst 5, 1) := by decide +kernel
theorem dX1_advance_51 : decode cX1_advance 51 = .ok (.if_icmp .ge 38, 3) := by decide +kernel
theorem dX1_advance_54 : decode cX1_advance 54 = .ok (.aload_n 0, 1) := by decide +kernel
theorem dX1_advance_55 : decode cX1_advance 55 = .ok (.getfield 33, 3) := by decide +kernel
theorem dX1_advance_58 : decode cX1_advance 58 = .ok (.iload_n 3, 1) := by decide +kernel
theorem dX1_advance_59 : decode cX1_advance 59 = .ok (.dup2, 1) := by decide +kernel
theorem dX1_advance_60 : decode cX1_advance 60 = .ok (.iaload, 1) := by decide +kernel
theorem dX1_advance_61 : decode cX1_advance 61 = .ok (.aload_n 0, 1) := by decide +kernel
theorem dX1_advance_62 : decode cX1_advance 62 = .ok (.getfield 36, 3) := by decide +kernel
theorem dX1_advance_65 : decode cX1_advance 65 = .ok (.iload_n 3, 1) := by decide +kernel
theorem dX1_advance_66 : decode cX1_advance 66 = .ok (.iaload, 1) := by decide +kernel
theorem dX1_advance_67 : decode cX1_advance 67 = .ok (.iconst 2, 1) := by decide +kernel
theorem dX1_advance_68 : decode cX1_advance 68 = .ok (.if_icmp .ne 7, 3) := by decide +kernel
theorem dX1_advance_71 : decode cX1_advance 71 = .ok (.iconst 0, 1) := by decide +kernel
theorem dX1_advance_72 : decode cX1_advance 72 = .ok (.goto 9, 3) := by decide +kernel
theorem dX1_advance_75 : decode cX1_advance 75 = .ok (.aload_n 0, 1) := by decide +kernel
theorem dX1_advance_76 : decode cX1_advance 76 = .ok (.getfield 30, 3) := by decide +kernel
theorem dX1_advance_79 : decode cX1_advance 79 = .ok (.iload_n 3, 1) := by decide +kernel
theorem dX1_advance_80 : decode cX1_advance 80 = .ok (.iaload, 1) := by decide +kernel
theorem dX1_advance_81 : decode cX1_advance 81 = .ok (.iadd, 1) := by decide +kernel
theorem dX1_advance_82 : decode cX1_advance 82 = .ok (.iastore, 1) := by decide +kernel
theorem dX1_advance_83 : decode cX1_advance 83 = .ok (.iinc 3 1, 3) := by decide +kernel
theorem dX1_advance_86 : decode cX1_advance 86 = .ok (.goto (-37), 3) := by decide +kernel
theorem dX1_advance_89 : decode cX1_advance 89 = .ok (.aload_n 0, 1) := by decide +kernel
theorem dX1_advance_90 : decode cX1_advance 90 = .ok (.invokevirtual 169, 3) := by decide +kernel
theorem dX1_advance_93 : decode cX1_advance 93 = .ok (.aload_n 0, 1) := by decide +kernel
theorem dX1_advance_94 : decode cX1_advance 94 = .ok (.invokevirtual 172, 3) := by decide +kernel
theorem dX1_advance_97 : decode cX1_advance 97 = .ok (.aload_n 0, 1) := by decide +kernel
theorem dX1_advance_98 : decode cX1_advance 98 = .ok (.invokevirtual 175, 3) := by decide +kernel
theorem dX1_advance_101 : decode cX1_advance 101 = .ok (.aload_n 0, 1) := by decide +kernel
theorem dX1_advance_102 : decode cX1_advance 102 = .ok (.dup, 1) := by decide +kernel
theorem dX1_advance_103 : decode cX1_advance 103 = .ok (.getfield 71, 3) := by decide +kernel
theorem dX1_advance_106 : decode cX1_advance 106 = .ok (.iconst 1, 1) := by decide +kernel
theorem dX1_advance_107 : decode cX1_advance 107 = .ok (.iadd, 1) := by decide +kernel
theorem dX1_advance_108 : decode cX1_advance 108 = .ok (.putfield 71, 3) := by decide +kernel
theorem dX1_advance_111 : decode cX1_advance 111 = .ok (.iinc 2 1, 3) := by decide +kernel
theorem dX1_advance_114 : decode cX1_advance 114 = .ok (.goto (-72), 3) := by decide +kernel
theorem dX1_advance_117 : decode cX1_advance 117 = .ok (.aload_n 0, 1) := by decide +kernel
theorem dX1_advance_118 : decode cX1_advance 118 = .ok (.getfield 71, 3) := by decide +kernel
theorem dX1_advance_121 : decode cX1_advance 121 = .ok (.ireturn, 1) := by decide +kernel
theorem dX1_tick_0 : decode cX1_tick 0 = .ok (.aload_n 0, 1) := by decide +kernel
theorem dX1_tick_1 : decode cX1_tick 1 = .ok (.iconst 0, 1) := by decide +kernel
theorem dX1_tick_2 : decode cX1_tick 2 = .ok (.putfield 57, 3) := by decide +kernel
theorem dX1_tick_5 : decode cX1_tick 5 = .ok (.aload_n 0, 1) := by decide +kernel
theorem dX1_tick_6 : decode cX1_tick 6 = .ok (.getfield 71, 3) := by decide +kernel
theorem dX1_tick_9 : decode cX1_tick 9 = .ok (.ireturn, 1) := by decide +kernel
set_option maxRecDepth 20000 in
theorem ggX1_owner_X1_isFrame : GoodIn wsX1_owner wsX1_isFrame := goodIn_r _ [5, 6, 7, 4, 8] (by decide +kernel) (by decide +kernel)
set_option maxRecDepth 20000 in
theorem gX1_owner_X1_isFrame : GoodIn wsX1_owner (va_wsS RX1 84 yX1_isFrame wsX1_isFrame) := goodIn_app (goodIn_of _ (by decide +kernel)) ggX1_owner_X1_isFrame
set_option maxRecDepth 20000 in
theorem ggX1_owner_X1_goes : GoodIn wsX1_owner wsX1_goes := goodIn_r _ [12, 13, 14, 15, 16, 17, 18, 19, 20, 21, 22, 23, 24, 25, 26, 27, 28, 29, 30, 31, 32] (by decide +kernel) (by decide +kernel)
set_option maxRecDepth 20000 in
theorem gX1_owner_X1_goes : GoodIn wsX1_owner (wsV RX1 77 RX1 yX1_goes wsX1_goes) := goodIn_app (goodIn_of _ (by decide +kernel)) ggX1_owner_X1_goes
theorem dX1_owner_0 : decode cX1_owner 0 = .ok (.aload_n 0, 1) := by decide +kernel
theorem dX1_owner_1 : decode cX1_owner 1 = .ok (.iload_n 1, 1) := by decide +kernel
theorem dX1_owner_2 : decode cX1_owner 2 = .ok (.invokestatic 84, 3) := by decide +kernel
theorem dX1_owner_5 : decode cX1_owner 5 = .ok (.ifCond .eq 7, 3) := by decide +kernel
theorem dX1_owner_8 : decode cX1_owner 8 = .ok (.iconst 0, 1) := by decide +kernel
theorem dX1_owner_9 : decode cX1_owner 9 = .ok (.goto 4, 3) := by decide +kernel
theorem dX1_owner_12 : decode cX1_owner 12 = .ok (.iconst 1, 1) := by decide +kernel
theorem dX1_owner_13 : decode cX1_owner 13 = .ok (.invokevirtual 77, 3) := by decide +kernel
theorem dX1_owner_16 : decode cX1_owner 16 = .ok (.ifCond .eq 12, 3) := by decide +kernel
theorem dX1_owner_19 : decode cX1_owner 19 = .ok (.aload_n 0, 1) := by decide +kernel
theorem dX1_owner_20 : decode cX1_owner 20 = .ok (.getfield 13, 3) := by decide +kernel
theorem dX1_owner_23 : decode cX1_owner 23 = .ok (.iload_n 1, 1) := by decide +kernel
theorem dX1_owner_24 : decode cX1_owner 24 = .ok (.iaload, 1) := by decide +kernel
theorem dX1_owner_25 : decode cX1_owner 25 = .ok (.goto 4, 3) := by decide +kernel
theorem dX1_owner_28 : decode cX1_owner 28 = .ok (.iconst 0, 1) := by decide +kernel
theorem dX1_owner_29 : decode cX1_owner 29 = .ok (.ireturn, 1) := by decide +kernel
set_option maxRecDepth 20000 in
theorem ggX1_holder_X1_isFrame : GoodIn wsX1_holder wsX1_isFrame := goodIn_r _ [4, 5, 6, 3, 7] (by decide +kernel) (by decide +kernel)
set_option maxRecDepth 20000 in
theorem gX1_holder_X1_isFrame : GoodIn wsX1_holder (va_wsS RX1 84 yX1_isFrame wsX1_isFrame) := goodIn_app (goodIn_of _ (by decide +kernel)) ggX1_holder_X1_isFrame
set_option maxRecDepth 20000 in
theorem ggX1_holder_X1_goes : GoodIn wsX1_holder wsX1_goes := goodIn_r _ [11, 12, 20, 21, 22, 23, 24, 25, 26, 27, 28, 29, 30, 31, 32, 33, 34, 35, 36, 37, 38] (by decide +kernel) (by decide +kernel)
set_option maxRecDepth 20000 in
theorem gX1_holder_X1_goes : GoodIn wsX1_holder (wsV RX1 77 RX1 yX1_goes wsX1_goes) := goodIn_app (goodIn_of _ (by decide +kernel)) ggX1_holder_X1_goes
set_option maxRecDepth 20000 in
theorem ggX1_holder_X1_holderOf : GoodIn wsX1_holder wsX1_holderOf := goodIn_r _ [16, 17, 18, 19, 20, 21, 22, 23, 24, 25, 26, 27, 28, 29, 30, 31, 32, 33, 34, 35, 36, 37, 38] (by decide +kernel) (by decide +kernel)
set_option maxRecDepth 20000 in
theorem gX1_holder_X1_holderOf : GoodIn wsX1_holder (wsV RX1 90 RX1 yX1_holderOf wsX1_holderOf) := goodIn_app (goodIn_of _ (by decide +kernel)) ggX1_holder_X1_holderOf
theorem dX1_holder_0 : decode cX1_holder 0 = .ok (.aload_n 0, 1) := by decide +kernel
theorem dX1_holder_1 : decode cX1_holder 1 = .ok (.iload_n 1, 1) := by decide +kernel
theorem dX1_holder_2 : decode cX1_holder 2 = .ok (.invokestatic 84, 3) := by decide +kernel
theorem dX1_holder_5 : decode cX1_holder 5 = .ok (.ifCond .eq 7, 3) := by decide +kernel
theorem dX1_holder_8 : decode cX1_holder 8 = .ok (.iconst 0, 1) := by decide +kernel
theorem dX1_holder_9 : decode cX1_holder 9 = .ok (.goto 4, 3) := by decide +kernel
theorem dX1_holder_12 : decode cX1_holder 12 = .ok (.iconst 1, 1) := by decide +kernel
theorem dX1_holder_13 : decode cX1_holder 13 = .ok (.invokevirtual 77, 3) := by decide +kernel
theorem dX1_holder_16 : decode cX1_holder 16 = .ok (.ifCond .eq 11, 3) := by decide +kernel
theorem dX1_holder_19 : decode cX1_holder 19 = .ok (.aload_n 0, 1) := by decide +kernel
theorem dX1_holder_20 : decode cX1_holder 20 = .ok (.iload_n 1, 1) := by decide +kernel
theorem dX1_holder_21 : decode cX1_holder 21 = .ok (.invokevirtual 90, 3) := by decide +kernel
theorem dX1_holder_24 : decode cX1_holder 24 = .ok (.goto 4, 3) := by decide +kernel
theorem dX1_holder_27 : decode cX1_holder 27 = .ok (.iconst 0, 1) := by decide +kernel
theorem dX1_holder_28 : decode cX1_holder 28 = .ok (.ireturn, 1) := by decide +kernel
set_option maxRecDepth 20000 in
theorem ggX1_holderByLog_X1_isFrame : GoodIn wsX1_holderByLog wsX1_isFrame := goodIn_r _ [4, 5, 6, 3, 7] (by decide +kernel) (by decide +kernel)
set_option maxRecDepth 20000 in
theorem gX1_holderByLog_X1_isFrame : GoodIn wsX1_holderByLog (va_wsS RX1 84 yX1_isFrame wsX1_isFrame) := goodIn_app (goodIn_of _ (by decide +kernel)) ggX1_holderByLog_X1_isFrame
set_option maxRecDepth 20000 in
theorem ggX1_holderByLog_X1_goes : GoodIn wsX1_holderByLog wsX1_goes := goodIn_r _ [11, 12, 20, 21, 22, 23, 24, 25, 26, 27, 28, 29, 30, 31, 32, 33, 34, 35, 36, 37, 38] (by decide +kernel) (by decide +kernel)
set_option maxRecDepth 20000 in
theorem gX1_holderByLog_X1_goes : GoodIn wsX1_holderByLog (wsV RX1 77 RX1 yX1_goes wsX1_goes) := goodIn_app (goodIn_of _ (by decide +kernel)) ggX1_holderByLog_X1_goes
set_option maxRecDepth 20000 in
theorem ggX1_holderByLog_X1_holderOf : GoodIn wsX1_holderByLog wsX1_holderOf := goodIn_r _ [16, 17, 18, 19, 20, 21, 22, 23, 24, 25, 26, 27, 28, 29, 30, 31, 32, 33, 34, 35, 36, 37, 38] (by decide +kernel) (by decide +kernel)
set_option maxRecDepth 20000 in
theorem gX1_holderByLog_X1_holderOf : GoodIn wsX1_holderByLog (wsV RX1 90 RX1 yX1_holderOf wsX1_holderOf) := goodIn_app (goodIn_of _ (by decide +kernel)) ggX1_holderByLog_X1_holderOf
theorem dX1_holderByLog_0 : decode cX1_holderByLog 0 = .ok (.aload_n 0, 1) := by decide +kernel
theorem dX1_holderByLog_1 : decode cX1_holderByLog 1 = .ok (.iload_n 1, 1) := by decide +kernel
theorem dX1_holderByLog_2 : decode cX1_holderByLog 2 = .ok (.invokestatic 84, 3) := by decide +kernel
theorem dX1_holderByLog_5 : decode cX1_holderByLog 5 = .ok (.ifCond .eq 7, 3) := by decide +kernel
theorem dX1_holderByLog_8 : decode cX1_holderByLog 8 = .ok (.iconst 0, 1) := by decide +kernel
theorem dX1_holderByLog_9 : decode cX1_holderByLog 9 = .ok (.goto 4, 3) := by decide +kernel
theorem dX1_holderByLog_12 : decode cX1_holderByLog 12 = .ok (.iconst 1, 1) := by decide +kernel
theorem dX1_holderByLog_13 : decode cX1_holderByLog 13 = .ok (.invokevirtual 77, 3) := by decide +kernel
theorem dX1_holderByLog_16 : decode cX1_holderByLog 16 = .ok (.ifCond .eq 11, 3) := by decide +kernel
theorem dX1_holderByLog_19 : decode cX1_holderByLog 19 = .ok (.aload_n 0, 1) := by decide +kernel
theorem dX1_holderByLog_20 : decode cX1_holderByLog 20 = .ok (.iload_n 1, 1) := by decide +kernel
theorem dX1_holderByLog_21 : decode cX1_holderByLog 21 = .ok (.invokevirtual 90, 3) := by decide +kernel
theorem dX1_holderByLog_24 : decode cX1_holderByLog 24 = .ok (.goto 4, 3) := by decide +kernel
theorem dX1_holderByLog_27 : decode cX1_holderByLog 27 = .ok (.iconst 0, 1) := by decide +kernel
theorem dX1_holderByLog_28 : decode cX1_holderByLog 28 = .ok (.ireturn, 1) := by decide +kernel
set_option maxRecDepth 20000 in
theorem ggX1_pageIn_X1_isFrame : GoodIn wsX1_pageIn wsX1_isFrame := goodIn_r _ [5, 6, 7, 4, 8] (by decide +kernel) (by decide +kernel)
set_option maxRecDepth 20000 in
theorem gX1_pageIn_X1_isFrame : GoodIn wsX1_pageIn (va_wsS RX1 84 yX1_isFrame wsX1_isFrame) := goodIn_app (goodIn_of _ (by decide +kernel)) ggX1_pageIn_X1_isFrame
set_option maxRecDepth 20000 in
theorem ggX1_pageIn_X1_goes : GoodIn wsX1_pageIn wsX1_goes := goodIn_r _ [12, 13, 14, 15, 16, 17, 18, 19, 20, 21, 22, 23, 24, 25, 26, 27, 28, 29, 30, 31, 32] (by decide +kernel) (by decide +kernel)
set_option maxRecDepth 20000 in
theorem gX1_pageIn_X1_goes : GoodIn wsX1_pageIn (wsV RX1 77 RX1 yX1_goes wsX1_goes) := goodIn_app (goodIn_of _ (by decide +kernel)) ggX1_pageIn_X1_goes
theorem dX1_pageIn_0 : decode cX1_pageIn 0 = .ok (.aload_n 0, 1) := by decide +kernel
theorem dX1_pageIn_1 : decode cX1_pageIn 1 = .ok (.iload_n 1, 1) := by decide +kernel
theorem dX1_pageIn_2 : decode cX1_pageIn 2 = .ok (.invokestatic 84, 3) := by decide +kernel
theorem dX1_pageIn_5 : decode cX1_pageIn 5 = .ok (.ifCond .eq 7, 3) := by decide +kernel
theorem dX1_pageIn_8 : decode cX1_pageIn 8 = .ok (.iconst 0, 1) := by decide +kernel
theorem dX1_pageIn_9 : decode cX1_pageIn 9 = .ok (.goto 4, 3) := by decide +kernel
theorem dX1_pageIn_12 : decode cX1_pageIn 12 = .ok (.iconst 1, 1) := by decide +kernel
theorem dX1_pageIn_13 : decode cX1_pageIn 13 = .ok (.invokevirtual 77, 3) := by decide +kernel
theorem dX1_pageIn_16 : decode cX1_pageIn 16 = .ok (.ifCond .eq 12, 3) := by decide +kernel
theorem dX1_pageIn_19 : decode cX1_pageIn 19 = .ok (.aload_n 0, 1) := by decide +kernel
theorem dX1_pageIn_20 : decode cX1_pageIn 20 = .ok (.getfield 17, 3) := by decide +kernel
theorem dX1_pageIn_23 : decode cX1_pageIn 23 = .ok (.iload_n 1, 1) := by decide +kernel
theorem dX1_pageIn_24 : decode cX1_pageIn 24 = .ok (.iaload, 1) := by decide +kernel
theorem dX1_pageIn_25 : decode cX1_pageIn 25 = .ok (.goto 4, 3) := by decide +kernel
theorem dX1_pageIn_28 : decode cX1_pageIn 28 = .ok (.iconst 0, 1) := by decide +kernel
theorem dX1_pageIn_29 : decode cX1_pageIn 29 = .ok (.ireturn, 1) := by decide +kernel
set_option maxRecDepth 20000 in
theorem ggX1_age_X1_isFrame : GoodIn wsX1_age wsX1_isFrame := goodIn_r _ [4, 5, 6, 3, 7] (by decide +kernel) (by decide +kernel)
set_option maxRecDepth 20000 in
theorem gX1_age_X1_isFrame : GoodIn wsX1_age (va_wsS RX1 84 yX1_isFrame wsX1_isFrame) := goodIn_app (goodIn_of _ (by decide +kernel)) ggX1_age_X1_isFrame
set_option maxRecDepth 20000 in
theorem ggX1_age_X1_goes : GoodIn wsX1_age wsX1_goes := goodIn_r _ [11, 12, 25, 26, 27, 28, 29, 30, 31, 32, 33, 34, 35, 36, 37, 38, 39, 40, 41, 42, 43] (by decide +kernel) (by decide +kernel)
set_option maxRecDepth 20000 in
theorem gX1_age_X1_goes : GoodIn wsX1_age (wsV RX1 77 RX1 yX1_goes wsX1_goes) := goodIn_app (goodIn_of _ (by decide +kernel)) ggX1_age_X1_goes
set_option maxRecDepth 20000 in
theorem ggX1_age_X1_ageOf : GoodIn wsX1_age wsX1_ageOf := goodIn_r _ [16, 17, 18, 19, 20, 21, 3, 22, 23, 24, 25, 26, 27, 28, 29, 30, 31, 32, 33, 34, 35, 36, 37, 38, 39, 40, 41, 42, 43] (by decide +kernel) (by decide +kernel)
set_option maxRecDepth 20000 in
theorem gX1_age_X1_ageOf : GoodIn wsX1_age (wsV RX1 100 RX1 yX1_ageOf wsX1_ageOf) := goodIn_app (goodIn_of _ (by decide +kernel)) ggX1_age_X1_ageOf
theorem dX1_age_0 : decode cX1_age 0 = .ok (.aload_n 0, 1) := by decide +kernel
theorem dX1_age_1 : decode cX1_age 1 = .ok (.iload_n 1, 1) := by decide +kernel
theorem dX1_age_2 : decode cX1_age 2 = .ok (.invokestatic 84, 3) := by decide +kernel
theorem dX1_age_5 : decode cX1_age 5 = .ok (.ifCond .eq 7, 3) := by decide +kernel
theorem dX1_age_8 : decode cX1_age 8 = .ok (.iconst 0, 1) := by decide +kernel
theorem dX1_age_9 : decode cX1_age 9 = .ok (.goto 4, 3) := by decide +kernel
theorem dX1_age_12 : decode cX1_age 12 = .ok (.iconst 1, 1) := by decide +kernel
theorem dX1_age_13 : decode cX1_age 13 = .ok (.invokevirtual 77, 3) := by decide +kernel
theorem dX1_age_16 : decode cX1_age 16 = .ok (.ifCond .eq 11, 3) := by decide +kernel
theorem dX1_age_19 : decode cX1_age 19 = .ok (.aload_n 0, 1) := by decide +kernel
theorem dX1_age_20 : decode cX1_age 20 = .ok (.iload_n 1, 1) := by decide +kernel
theorem dX1_age_21 : decode cX1_age 21 = .ok (.invokevirtual 100, 3) := by decide +kernel
theorem dX1_age_24 : decode cX1_age 24 = .ok (.goto 4, 3) := by decide +kernel
theorem dX1_age_27 : decode cX1_age 27 = .ok (.iconst 0, 1) := by decide +kernel
theorem dX1_age_28 : decode cX1_age 28 = .ok (.ireturn, 1) := by decide +kernel
theorem dX1_free_0 : decode cX1_free 0 = .ok (.aload_n 0, 1) := by decide +kernel
theorem dX1_free_1 : decode cX1_free 1 = .ok (.iconst 0, 1) := by decide +kernel
theorem dX1_free_2 : decode cX1_free 2 = .ok (.putfield 57, 3) := by decide +kernel
theorem dX1_free_5 : decode cX1_free 5 = .ok (.iconst 0, 1) := by decide +kernel
theorem dX1_free_6 : decode cX1_free 6 = .ok (.istore_n 1, 1) := by decide +kernel
theorem dX1_free_7 : decode cX1_free 7 = .ok (.iconst 0, 1) := by decide +kernel
theorem dX1_free_8 : decode cX1_free 8 = .ok (.istore_n 2, 1) := by decide +kernel
theorem dX1_free_9 : decode cX1_free 9 = .ok (.iload_n 2, 1) := by decide +kernel
theorem dX1_free_10 : decode cX1_free 10 = .ok (.bipush 12, 2) := by decide +kernel
theorem dX1_free_12 : decode cX1_free 12 = .ok (.if_icmp .ge 27, 3) := by decide +kernel
theorem dX1_free_15 : decode cX1_free 15 = .ok (.iload_n 1, 1) := by decide +kernel
theorem dX1_free_16 : decode cX1_free 16 = .ok (.aload_n 0, 1) := by decide +kernel
theorem dX1_free_17 : decode cX1_free 17 = .ok (.getfield 13, 3) := by decide +kernel
theorem dX1_free_20 : decode cX1_free 20 = .ok (.iload_n 2, 1) := by decide +kernel
theorem dX1_free_21 : decode cX1_free 21 = .ok (.iaload, 1) := by decide +kernel
theorem dX1_free_22 : decode cX1_free 22 = .ok (.iconst (-1), 1) := by decide +kernel
theorem dX1_free_23 : decode cX1_free 23 = .ok (.if_icmp .ne 7, 3) := by decide +kernel
theorem dX1_free_26 : decode cX1_free 26 = .ok (.iconst 1, 1) := by decide +kernel
theorem dX1_free_27 : decode cX1_free 27 = .ok (.goto 4, 3) := by decide +kernel
theorem dX1_free_30 : decode cX1_free 30 = .ok (.iconst 0, 1) := by decide +kernel
theorem dX1_free_31 : decode cX1_free 31 = .ok (.iadd, 1) := by decide +kernel
theorem dX1_free_32 : decode cX1_free 32 = .ok (.istore_n 1, 1) := by decide +kernel
theorem dX1_free_33 : decode cX1_free 33 = .ok (.iinc 2 1, 3) := by decide +kernel
theorem dX1_free_36 : decode cX1_free 36 = .ok (.goto (-27), 3) := by decide +kernel
theorem dX1_free_39 : decode cX1_free 39 = .ok (.iload_n 1, 1) := by decide +kernel
theorem dX1_free_40 : decode cX1_free 40 = .ok (.ireturn, 1) := by decide +kernel
set_option maxRecDepth 20000 in
theorem ggX1_owns_X1_isProcess : GoodIn wsX1_owns wsX1_isProcess := goodIn_r _ [5, 6, 7, 4, 8] (by decide +kernel) (by decide +kernel)
set_option maxRecDepth 20000 in
theorem gX1_owns_X1_isProcess : GoodIn wsX1_owns (va_wsS RX1 74 yX1_isProcess wsX1_isProcess) := goodIn_app (goodIn_of _ (by decide +kernel)) ggX1_owns_X1_isProcess
set_option maxRecDepth 20000 in
theorem ggX1_owns_X1_goes : GoodIn wsX1_owns wsX1_goes := goodIn_r _ [12, 13, 14, 15, 16, 17, 18, 19, 20, 21, 22, 23, 24, 25, 26, 27, 28, 29, 30, 31, 32] (by decide +kernel) (by decide +kernel)
set_option maxRecDepth 20000 in
theorem gX1_owns_X1_goes : GoodIn wsX1_owns (wsV RX1 77 RX1 yX1_goes wsX1_goes) := goodIn_app (goodIn_of _ (by decide +kernel)) ggX1_owns_X1_goes
theorem dX1_owns_0 : decode cX1_owns 0 = .ok (.iconst 0, 1) := by decide +kernel
theorem dX1_owns_1 : decode cX1_owns 1 = .ok (.istore_n 2, 1) := by decide +kernel
theorem dX1_owns_2 : decode cX1_owns 2 = .ok (.aload_n 0, 1) := by decide +kernel
theorem dX1_owns_3 : decode cX1_owns 3 = .ok (.iload_n 1, 1) := by decide +kernel
theorem dX1_owns_4 : decode cX1_owns 4 = .ok (.invokestatic 74, 3) := by decide +kernel
theorem dX1_owns_7 : decode cX1_owns 7 = .ok (.ifCond .eq 7, 3) := by decide +kernel
theorem dX1_owns_10 : decode cX1_owns 10 = .ok (.iconst 0, 1) := by decide +kernel
theorem dX1_owns_11 : decode cX1_owns 11 = .ok (.goto 4, 3) := by decide +kernel
theorem dX1_owns_14 : decode cX1_owns 14 = .ok (.iconst 1, 1) := by decide +kernel
theorem dX1_owns_15 : decode cX1_owns 15 = .ok (.invokevirtual 77, 3) := by decide +kernel
theorem dX1_owns_18 : decode cX1_owns 18 = .ok (.istore_n 3, 1) := by decide +kernel
theorem dX1_owns_19 : decode cX1_owns 19 = .ok (.iconst 0, 1) := by decide +kernel
theorem dX1_owns_20 : decode cX1_owns 20 = .ok (.istore 4, 2) := by decide +kernel
theorem dX1_owns_22 : decode cX1_owns 22 = .ok (.iload 4, 2) := by decide +kernel
theorem dX1_owns_24 : decode cX1_owns 24 = .ok (.bipush 12, 2) := by decide +kernel
theorem dX1_owns_26 : decode cX1_owns 26 = .ok (.if_icmp .ge 32, 3) := by decide +kernel
theorem dX1_owns_29 : decode cX1_owns 29 = .ok (.iload_n 3, 1) := by decide +kernel
theorem dX1_owns_30 : decode cX1_owns 30 = .ok (.ifCond .eq 28, 3) := by decide +kernel
theorem dX1_owns_33 : decode cX1_owns 33 = .ok (.iload_n 2, 1) := by decide +kernel
theorem dX1_owns_34 : decode cX1_owns 34 = .ok (.aload_n 0, 1) := by decide +kernel
theorem dX1_owns_35 : decode cX1_owns 35 = .ok (.getfield 13, 3) := by decide +kernel
theorem dX1_owns_38 : decode cX1_owns 38 = .ok (.iload 4, 2) := by decide +kernel
theorem dX1_owns_40 : decode cX1_owns 40 = .ok (.iaload, 1) := by decide +kernel
theorem dX1_owns_41 : decode cX1_owns 41 = .ok (.iload_n 1, 1) := by decide +kernel
theorem dX1_owns_42 : decode cX1_owns 42 = .ok (.if_icmp .ne 7, 3) := by decide +kernel
theorem dX1_owns_45 : decode cX1_owns 45 = .ok (.iconst 1, 1) := by decide +kernel
theorem dX1_owns_46 : decode cX1_owns 46 = .ok (.goto 4, 3) := by decide +kernel
theorem dX1_owns_49 : decode cX1_owns 49 = .ok (.iconst 0, 1) := by decide +kernel
theorem dX1_owns_50 : decode cX1_owns 50 = .ok (.iadd, 1) := by decide +kernel
theorem dX1_owns_51 : decode cX1_owns 51 = .ok (.istore_n 2, 1) := by decide +kernel
theorem dX1_owns_52 : decode cX1_owns 52 = .ok (.iinc 4 1, 3) := by decide +kernel
theorem dX1_owns_55 : decode cX1_owns 55 = .ok (.goto (-33), 3) := by decide +kernel
theorem dX1_owns_58 : decode cX1_owns 58 = .ok (.iload_n 2, 1) := by decide +kernel
theorem dX1_owns_59 : decode cX1_owns 59 = .ok (.ireturn, 1) := by decide +kernel
set_option maxRecDepth 20000 in
theorem ggX1_borrowed_X1_isProcess : GoodIn wsX1_borrowed wsX1_isProcess := goodIn_r _ [4, 5, 6, 3, 7] (by decide +kernel) (by decide +kernel)
set_option maxRecDepth 20000 in
theorem gX1_borrowed_X1_isProcess : GoodIn wsX1_borrowed (va_wsS RX1 74 yX1_isProcess wsX1_isProcess) := goodIn_app (goodIn_of _ (by decide +kernel)) ggX1_borrowed_X1_isProcess
set_option maxRecDepth 20000 in
theorem ggX1_borrowed_X1_goes : GoodIn wsX1_borrowed wsX1_goes := goodIn_r _ [11, 12, 19, 20, 21, 22, 23, 24, 25, 26, 27, 28, 29, 30, 31, 32, 33, 34, 35, 36, 37] (by decide +kernel) (by decide +kernel)
set_option maxRecDepth 20000 in
theorem gX1_borrowed_X1_goes : GoodIn wsX1_borrowed (wsV RX1 77 RX1 yX1_goes wsX1_goes) := goodIn_app (goodIn_of _ (by decide +kernel)) ggX1_borrowed_X1_goes
set_option maxRecDepth 20000 in
theorem ggX1_borrowed_X1_borrowedBy : GoodIn wsX1_borrowed wsX1_borrowedBy := goodIn_r _ [16, 17, 18, 19, 20, 21, 22, 23, 24, 25, 26, 27, 28, 29, 30, 31, 32, 33, 34, 35, 36, 37] (by decide +kernel) (by decide +kernel)
set_option maxRecDepth 20000 in
theorem gX1_borrowed_X1_borrowedBy : GoodIn wsX1_borrowed (wsV RX1 124 RX1 yX1_borrowedBy wsX1_borrowedBy) := goodIn_app (goodIn_of _ (by decide +kernel)) ggX1_borrowed_X1_borrowedBy
theorem dX1_borrowed_0 : decode cX1_borrowed 0 = .ok (.aload_n 0, 1) := by decide +kernel
theorem dX1_borrowed_1 : decode cX1_borrowed 1 = .ok (.iload_n 1, 1) := by decide +kernel
theorem dX1_borrowed_2 : decode cX1_borrowed 2 = .ok (.invokestatic 74, 3) := by decide +kernel
theorem dX1_borrowed_5 : decode cX1_borrowed 5 = .ok (.ifCond .eq 7, 3) := by decide +kernel
theorem dX1_borrowed_8 : decode cX1_borrowed 8 = .ok (.iconst 0, 1) := by decide +kernel
theorem dX1_borrowed_9 : decode cX1_borrowed 9 = .ok (.goto 4, 3) := by decide +kernel
theorem dX1_borrowed_12 : decode cX1_borrowed 12 = .ok (.iconst 1, 1) := by decide +kernel
theorem dX1_borrowed_13 : decode cX1_borrowed 13 = .ok (.invokevirtual 77, 3) := by decide +kernel
theorem dX1_borrowed_16 : decode cX1_borrowed 16 = .ok (.ifCond .eq 11, 3) := by decide +kernel
theorem dX1_borrowed_19 : decode cX1_borrowed 19 = .ok (.aload_n 0, 1) := by decide +kernel
theorem dX1_borrowed_20 : decode cX1_borrowed 20 = .ok (.iload_n 1, 1) := by decide +kernel
theorem dX1_borrowed_21 : decode cX1_borrowed 21 = .ok (.invokevirtual 124, 3) := by decide +kernel
theorem dX1_borrowed_24 : decode cX1_borrowed 24 = .ok (.goto 4, 3) := by decide +kernel
theorem dX1_borrowed_27 : decode cX1_borrowed 27 = .ok (.iconst 0, 1) := by decide +kernel
theorem dX1_borrowed_28 : decode cX1_borrowed 28 = .ok (.ireturn, 1) := by decide +kernel
set_option maxRecDepth 20000 in
theorem ggX1_lent_X1_isProcess : GoodIn wsX1_lent wsX1_isProcess := goodIn_r _ [6, 7, 8, 5, 9] (by decide +kernel) (by decide +kernel)
set_option maxRecDepth 20000 in
theorem gX1_lent_X1_isProcess : GoodIn wsX1_lent (va_wsS RX1 74 yX1_isProcess wsX1_isProcess) := goodIn_app (goodIn_of _ (by decide +kernel)) ggX1_lent_X1_isProcess
set_option maxRecDepth 20000 in
theorem ggX1_lent_X1_goes : GoodIn wsX1_lent wsX1_goes := goodIn_r _ [13, 14, 15, 16, 17, 18, 19, 20, 21, 22, 23, 24, 25, 26, 27, 28, 29, 30, 31, 32, 33] (by decide +kernel) (by decide +kernel)
set_option maxRecDepth 20000 in
theorem gX1_lent_X1_goes : GoodIn wsX1_lent (wsV RX1 77 RX1 yX1_goes wsX1_goes) := goodIn_app (goodIn_of _ (by decide +kernel)) ggX1_lent_X1_goes
theorem dX1_lent_0 : decode cX1_lent 0 = .ok (.iconst 0, 1) := by decide +kernel
theorem dX1_lent_1 : decode cX1_lent 1 = .ok (.istore_n 2, 1) := by decide +kernel
theorem dX1_lent_2 : decode cX1_lent 2 = .ok (.aload_n 0, 1) := by decide +kernel
theorem dX1_lent_3 : decode cX1_lent 3 = .ok (.iload_n 1, 1) := by decide +kernel
theorem dX1_lent_4 : decode cX1_lent 4 = .ok (.invokestatic 74, 3) := by decide +kernel
theorem dX1_lent_7 : decode cX1_lent 7 = .ok (.ifCond .eq 7, 3) := by decide +kernel
theorem dX1_lent_10 : decode cX1_lent 10 = .ok (.iconst 0, 1) := by decide +kernel
theorem dX1_lent_11 : decode cX1_lent 11 = .ok (.goto 4, 3) := by decide +kernel
theorem dX1_lent_14 : decode cX1_lent 14 = .ok (.iconst 1, 1) := by decide +kernel
theorem dX1_lent_15 : decode cX1_lent 15 = .ok (.invokevirtual 77, 3) := by decide +kernel
theorem dX1_lent_18 : decode cX1_lent 18 = .ok (.istore_n 3, 1) := by decide +kernel
theorem dX1_lent_19 : decode cX1_lent 19 = .ok (.iconst 0, 1) := by decide +kernel
theorem dX1_lent_20 : decode cX1_lent 20 = .ok (.istore 4, 2) := by decide +kernel
theorem dX1_lent_22 : decode cX1_lent 22 = .ok (.iload 4, 2) := by decide +kernel
theorem dX1_lent_24 : decode cX1_lent 24 = .ok (.bipush 12, 2) := by decide +kernel
theorem dX1_lent_26 : decode cX1_lent 26 = .ok (.if_icmp .ge 43, 3) := by decide +kernel
theorem dX1_lent_29 : decode cX1_lent 29 = .ok (.iload_n 3, 1) := by decide +kernel
theorem dX1_lent_30 : decode cX1_lent 30 = .ok (.ifCond .eq 39, 3) := by decide +kernel
theorem dX1_lent_33 : decode cX1_lent 33 = .ok (.iload_n 2, 1) := by decide +kernel
theorem dX1_lent_34 : decode cX1_lent 34 = .ok (.aload_n 0, 1) := by decide +kernel
theorem dX1_lent_35 : decode cX1_lent 35 = .ok (.getfield 13, 3) := by decide +kernel
theorem dX1_lent_38 : decode cX1_lent 38 = .ok (.iload 4, 2) := by decide +kernel
theorem dX1_lent_40 : decode cX1_lent 40 = .ok (.iaload, 1) := by decide +kernel
theorem dX1_lent_41 : decode cX1_lent 41 = .ok (.iload_n 1, 1) := by decide +kernel
theorem dX1_lent_42 : decode cX1_lent 42 = .ok (.if_icmp .ne 18, 3) := by decide +kernel
theorem dX1_lent_45 : decode cX1_lent 45 = .ok (.aload_n 0, 1) := by decide +kernel
theorem dX1_lent_46 : decode cX1_lent 46 = .ok (.getfield 27, 3) := by decide +kernel
theorem dX1_lent_49 : decode cX1_lent 49 = .ok (.iload 4, 2) := by decide +kernel
theorem dX1_lent_51 : decode cX1_lent 51 = .ok (.iaload, 1) := by decide +kernel
theorem dX1_lent_52 : decode cX1_lent 52 = .ok (.iconst (-1), 1) := by decide +kernel
theorem dX1_lent_53 : decode cX1_lent 53 = .ok (.if_icmp .eq 7, 3) := by decide +kernel
theorem dX1_lent_56 : decode cX1_lent 56 = .ok (.iconst 1, 1) := by decide +kernel
theorem dX1_lent_57 : decode cX1_lent 57 = .ok (.goto 4, 3) := by decide +kernel
theorem dX1_lent_60 : decode cX1_lent 60 = .ok (.iconst 0, 1) := by decide +kernel
theorem dX1_lent_61 : decode cX1_lent 61 = .ok (.iadd, 1) := by decide +kernel
theorem dX1_lent_62 : decode cX1_lent 62 = .ok (.istore_n 2, 1) := by decide +kernel
theorem dX1_lent_63 : decode cX1_lent 63 = .ok (.iinc 4 1, 3) := by decide +kernel
theorem dX1_lent_66 : decode cX1_lent 66 = .ok (.goto (-44), 3) := by decide +kernel
theorem dX1_lent_69 : decode cX1_lent 69 = .ok (.iload_n 2, 1) := by decide +kernel
theorem dX1_lent_70 : decode cX1_lent 70 = .ok (.ireturn, 1) := by decide +kernel
set_option maxRecDepth 20000 in
theorem ggX1_stateOf_X1_isProcess : GoodIn wsX1_stateOf wsX1_isProcess := goodIn_r _ [5, 6, 7, 4, 8] (by decide +kernel) (by decide +kernel)
set_option maxRecDepth 20000 in
theorem gX1_stateOf_X1_isProcess : GoodIn wsX1_stateOf (va_wsS RX1 74 yX1_isProcess wsX1_isProcess) := goodIn_app (goodIn_of _ (by decide +kernel)) ggX1_stateOf_X1_isProcess
set_option maxRecDepth 20000 in
theorem ggX1_stateOf_X1_goes : GoodIn wsX1_stateOf wsX1_goes := goodIn_r _ [12, 13, 14, 15, 16, 17, 18, 19, 20, 21, 22, 23, 24, 25, 26, 27, 28, 29, 30, 31, 32] (by decide +kernel) (by decide +kernel)
set_option maxRecDepth 20000 in
theorem gX1_stateOf_X1_goes : GoodIn wsX1_stateOf (wsV RX1 77 RX1 yX1_goes wsX1_goes) := goodIn_app (goodIn_of _ (by decide +kernel)) ggX1_stateOf_X1_goes
theorem dX1_stateOf_0 : decode cX1_stateOf 0 = .ok (.aload_n 0, 1) := by decide +kernel
theorem dX1_stateOf_1 : decode cX1_stateOf 1 = .ok (.iload_n 1, 1) := by decide +kernel
theorem dX1_stateOf_2 : decode cX1_stateOf 2 = .ok (.invokestatic 74, 3) := by decide +kernel
theorem dX1_stateOf_5 : decode cX1_stateOf 5 = .ok (.ifCond .eq 7, 3) := by decide +kernel
theorem dX1_stateOf_8 : decode cX1_stateOf 8 = .ok (.iconst 0, 1) := by decide +kernel
theorem dX1_stateOf_9 : decode cX1_stateOf 9 = .ok (.goto 4, 3) := by decide +kernel
theorem dX1_stateOf_12 : decode cX1_stateOf 12 = .ok (.iconst 1, 1) := by decide +kernel
theorem dX1_stateOf_13 : decode cX1_stateOf 13 = .ok (.invokevirtual 77, 3) := by decide +kernel
theorem dX1_stateOf_16 : decode cX1_stateOf 16 = .ok (.ifCond .eq 12, 3) := by decide +kernel
theorem dX1_stateOf_19 : decode cX1_stateOf 19 = .ok (.aload_n 0, 1) := by decide +kernel
theorem dX1_stateOf_20 : decode cX1_stateOf 20 = .ok (.getfield 36, 3) := by decide +kernel
theorem dX1_stateOf_23 : decode cX1_stateOf 23 = .ok (.iload_n 1, 1) := by decide +kernel
theorem dX1_stateOf_24 : decode cX1_stateOf 24 = .ok (.iaload, 1) := by decide +kernel
theorem dX1_stateOf_25 : decode cX1_stateOf 25 = .ok (.goto 4, 3) := by decide +kernel
theorem dX1_stateOf_28 : decode cX1_stateOf 28 = .ok (.iconst 0, 1) := by decide +kernel
theorem dX1_stateOf_29 : decode cX1_stateOf 29 = .ok (.ireturn, 1) := by decide +kernel
set_option maxRecDepth 20000 in
theorem ggX1_purse_X1_isProcess : GoodIn wsX1_purse wsX1_isProcess := goodIn_r _ [5, 6, 7, 4, 8] (by decide +kernel) (by decide +kernel)
set_option maxRecDepth 20000 in
theorem gX1_purse_X1_isProcess : GoodIn wsX1_purse (va_wsS RX1 74 yX1_isProcess wsX1_isProcess) := goodIn_app (goodIn_of _ (by decide +kernel)) ggX1_purse_X1_isProcess
set_option maxRecDepth 20000 in
theorem ggX1_purse_X1_goes : GoodIn wsX1_purse wsX1_goes := goodIn_r _ [12, 13, 14, 15, 16, 17, 18, 19, 20, 21, 22, 23, 24, 25, 26, 27, 28, 29, 30, 31, 32] (by decide +kernel) (by decide +kernel)
set_option maxRecDepth 20000 in
theorem gX1_purse_X1_goes : GoodIn wsX1_purse (wsV RX1 77 RX1 yX1_goes wsX1_goes) := goodIn_app (goodIn_of _ (by decide +kernel)) ggX1_purse_X1_goes
theorem dX1_purse_0 : decode cX1_purse 0 = .ok (.aload_n 0, 1) := by decide +kernel
theorem dX1_purse_1 : decode cX1_purse 1 = .ok (.iload_n 1, 1) := by decide +kernel
theorem dX1_purse_2 : decode cX1_purse 2 = .ok (.invokestatic 74, 3) := by decide +kernel
theorem dX1_purse_5 : decode cX1_purse 5 = .ok (.ifCond .eq 7, 3) := by decide +kernel
theorem dX1_purse_8 : decode cX1_purse 8 = .ok (.iconst 0, 1) := by decide +kernel
theorem dX1_purse_9 : decode cX1_purse 9 = .ok (.goto 4, 3) := by decide +kernel
theorem dX1_purse_12 : decode cX1_purse 12 = .ok (.iconst 1, 1) := by decide +kernel
theorem dX1_purse_13 : decode cX1_purse 13 = .ok (.invokevirtual 77, 3) := by decide +kernel
theorem dX1_purse_16 : decode cX1_purse 16 = .ok (.ifCond .eq 12, 3) := by decide +kernel
theorem dX1_purse_19 : decode cX1_purse 19 = .ok (.aload_n 0, 1) := by decide +kernel
theorem dX1_purse_20 : decode cX1_purse 20 = .ok (.getfield 33, 3) := by decide +kernel
theorem dX1_purse_23 : decode cX1_purse 23 = .ok (.iload_n 1, 1) := by decide +kernel
theorem dX1_purse_24 : decode cX1_purse 24 = .ok (.iaload, 1) := by decide +kernel
theorem dX1_purse_25 : decode cX1_purse 25 = .ok (.goto 4, 3) := by decide +kernel
theorem dX1_purse_28 : decode cX1_purse 28 = .ok (.iconst 0, 1) := by decide +kernel
theorem dX1_purse_29 : decode cX1_purse 29 = .ok (.ireturn, 1) := by decide +kernel
set_option maxRecDepth 20000 in
theorem ggX1_faults_X1_isProcess : GoodIn wsX1_faults wsX1_isProcess := goodIn_r _ [5, 6, 7, 4, 8] (by decide +kernel) (by decide +kernel)
set_option maxRecDepth 20000 in
theorem gX1_faults_X1_isProcess : GoodIn wsX1_faults (va_wsS RX1 74 yX1_isProcess wsX1_isProcess) := goodIn_app (goodIn_of _ (by decide +kernel)) ggX1_faults_X1_isProcess
set_option maxRecDepth 20000 in
theorem ggX1_faults_X1_goes : GoodIn wsX1_faults wsX1_goes := goodIn_r _ [12, 13, 14, 15, 16, 17, 18, 19, 20, 21, 22, 23, 24, 25, 26, 27, 28, 29, 30, 31, 32] (by decide +kernel) (by decide +kernel)
set_option maxRecDepth 20000 in
theorem gX1_faults_X1_goes : GoodIn wsX1_faults (wsV RX1 77 RX1 yX1_goes wsX1_goes) := goodIn_app (goodIn_of _ (by decide +kernel)) ggX1_faults_X1_goes
theorem dX1_faults_0 : decode cX1_faults 0 = .ok (.aload_n 0, 1) := by decide +kernel
theorem dX1_faults_1 : decode cX1_faults 1 = .ok (.iload_n 1, 1) := by decide +kernel
theorem dX1_faults_2 : decode cX1_faults 2 = .ok (.invokestatic 74, 3) := by decide +kernel
theorem dX1_faults_5 : decode cX1_faults 5 = .ok (.ifCond .eq 7, 3) := by decide +kernel
theorem dX1_faults_8 : decode cX1_faults 8 = .ok (.iconst 0, 1) := by decide +kernel
theorem dX1_faults_9 : decode cX1_faults 9 = .ok (.goto 4, 3) := by decide +kernel
theorem dX1_faults_12 : decode cX1_faults 12 = .ok (.iconst 1, 1) := by decide +kernel
theorem dX1_faults_13 : decode cX1_faults 13 = .ok (.invokevirtual 77, 3) := by decide +kernel
theorem dX1_faults_16 : decode cX1_faults 16 = .ok (.ifCond .eq 12, 3) := by decide +kernel
theorem dX1_faults_19 : decode cX1_faults 19 = .ok (.aload_n 0, 1) := by decide +kernel
theorem dX1_faults_20 : decode cX1_faults 20 = .ok (.getfield 39, 3) := by decide +kernel
theorem dX1_faults_23 : decode cX1_faults 23 = .ok (.iload_n 1, 1) := by decide +kernel
theorem dX1_faults_24 : decode cX1_faults 24 = .ok (.iaload, 1) := by decide +kernel
theorem dX1_faults_25 : decode cX1_faults 25 = .ok (.goto 4, 3) := by decide +kernel
theorem dX1_faults_28 : decode cX1_faults 28 = .ok (.iconst 0, 1) := by decide +kernel
theorem dX1_faults_29 : decode cX1_faults 29 = .ok (.ireturn, 1) := by decide +kernel
theorem dX1_loans_0 : decode cX1_loans 0 = .ok (.aload_n 0, 1) := by decide +kernel
theorem dX1_loans_1 : decode cX1_loans 1 = .ok (.iconst 0, 1) := by decide +kernel
theorem dX1_loans_2 : decode cX1_loans 2 = .ok (.putfield 57, 3) := by decide +kernel
theorem dX1_loans_5 : decode cX1_loans 5 = .ok (.aload_n 0, 1) := by decide +kernel
theorem dX1_loans_6 : decode cX1_loans 6 = .ok (.getfield 64, 3) := by decide +kernel
theorem dX1_loans_9 : decode cX1_loans 9 = .ok (.ireturn, 1) := by decide +kernel
set_option maxRecDepth 20000 in
theorem ggX1_lasts_X1_isLoan : GoodIn wsX1_lasts wsX1_isLoan := goodIn_r _ [5, 6, 7, 8, 4, 9, 21, 22, 23, 24, 25, 26, 27, 28, 29, 30, 31, 32, 33, 34, 35, 36, 37, 38, 39] (by decide +kernel) (by decide +kernel)
set_option maxRecDepth 20000 in
theorem gX1_lasts_X1_isLoan : GoodIn wsX1_lasts (wsV RX1 147 RX1 yX1_isLoan wsX1_isLoan) := goodIn_app (goodIn_of _ (by decide +kernel)) ggX1_lasts_X1_isLoan
set_option maxRecDepth 20000 in
theorem ggX1_lasts_X1_goes : GoodIn wsX1_lasts wsX1_goes := goodIn_r _ [13, 14, 21, 22, 23, 24, 25, 26, 27, 28, 29, 30, 31, 32, 33, 34, 35, 36, 37, 38, 39] (by decide +kernel) (by decide +kernel)
set_option maxRecDepth 20000 in
theorem gX1_lasts_X1_goes : GoodIn wsX1_lasts (wsV RX1 77 RX1 yX1_goes wsX1_goes) := goodIn_app (goodIn_of _ (by decide +kernel)) ggX1_lasts_X1_goes
set_option maxRecDepth 20000 in
theorem ggX1_lasts_X1_doesLast : GoodIn wsX1_lasts wsX1_doesLast := goodIn_r _ [18, 19, 20, 21, 22, 23, 24, 25, 26, 27, 28, 29, 30, 31, 32, 33, 34, 35, 36, 37, 38, 39] (by decide +kernel) (by decide +kernel)
set_option maxRecDepth 20000 in
theorem gX1_lasts_X1_doesLast : GoodIn wsX1_lasts (wsV RX1 94 RX1 yX1_doesLast wsX1_doesLast) := goodIn_app (goodIn_of _ (by decide +kernel)) ggX1_lasts_X1_doesLast
theorem dX1_lasts_0 : decode cX1_lasts 0 = .ok (.aload_n 0, 1) := by decide +kernel
theorem dX1_lasts_1 : decode cX1_lasts 1 = .ok (.aload_n 0, 1) := by decide +kernel
theorem dX1_lasts_2 : decode cX1_lasts 2 = .ok (.iload_n 1, 1) := by decide +kernel
theorem dX1_lasts_3 : decode cX1_lasts 3 = .ok (.invokevirtual 147, 3) := by decide +kernel
theorem dX1_lasts_6 : decode cX1_lasts 6 = .ok (.ifCond .eq 7, 3) := by decide +kernel
theorem dX1_lasts_9 : decode cX1_lasts 9 = .ok (.iconst 0, 1) := by decide +kernel
theorem dX1_lasts_10 : decode cX1_lasts 10 = .ok (.goto 4, 3) := by decide +kernel
theorem dX1_lasts_13 : decode cX1_lasts 13 = .ok (.iconst 1, 1) := by decide +kernel
theorem dX1_lasts_14 : decode cX1_lasts 14 = .ok (.invokevirtual 77, 3) := by decide +kernel
theorem dX1_lasts_17 : decode cX1_lasts 17 = .ok (.ifCond .eq 15, 3) := by decide +kernel
theorem dX1_lasts_20 : decode cX1_lasts 20 = .ok (.aload_n 0, 1) := by decide +kernel
theorem dX1_lasts_21 : decode cX1_lasts 21 = .ok (.iload_n 1, 1) := by decide +kernel
theorem dX1_lasts_22 : decode cX1_lasts 22 = .ok (.invokevirtual 94, 3) := by decide +kernel
theorem dX1_lasts_25 : decode cX1_lasts 25 = .ok (.ifCond .eq 7, 3) := by decide +kernel
theorem dX1_lasts_28 : decode cX1_lasts 28 = .ok (.iconst 1, 1) := by decide +kernel
theorem dX1_lasts_29 : decode cX1_lasts 29 = .ok (.goto 4, 3) := by decide +kernel
theorem dX1_lasts_32 : decode cX1_lasts 32 = .ok (.iconst 0, 1) := by decide +kernel
theorem dX1_lasts_33 : decode cX1_lasts 33 = .ok (.ireturn, 1) := by decide +kernel
set_option maxRecDepth 20000 in
theorem ggX1_partiesOf_X1_isLoan : GoodIn wsX1_partiesOf wsX1_isLoan := goodIn_r _ [8, 9, 10, 11, 7, 12, 18, 19, 20, 21, 22, 23, 24, 25, 26, 27, 28, 29, 30, 31, 32, 33, 34, 35, 36] (by decide +kernel) (by decide +kernel)
set_option maxRecDepth 20000 in
theorem gX1_partiesOf_X1_isLoan : GoodIn wsX1_partiesOf (wsV RX1 147 RX1 yX1_isLoan wsX1_isLoan) := goodIn_app (goodIn_of _ (by decide +kernel)) ggX1_partiesOf_X1_isLoan
set_option maxRecDepth 20000 in
theorem ggX1_partiesOf_X1_goes : GoodIn wsX1_partiesOf wsX1_goes := goodIn_r _ [16, 17, 18, 19, 20, 21, 22, 23, 24, 25, 26, 27, 28, 29, 30, 31, 32, 33, 34, 35, 36] (by decide +kernel) (by decide +kernel)
set_option maxRecDepth 20000 in
theorem gX1_partiesOf_X1_goes : GoodIn wsX1_partiesOf (wsV RX1 77 RX1 yX1_goes wsX1_goes) := goodIn_app (goodIn_of _ (by decide +kernel)) ggX1_partiesOf_X1_goes
theorem dX1_partiesOf_0 : decode cX1_partiesOf 0 = .ok (.aload_n 0, 1) := by decide +kernel
theorem dX1_partiesOf_1 : decode cX1_partiesOf 1 = .ok (.aload_n 0, 1) := by decide +kernel
theorem dX1_partiesOf_2 : decode cX1_partiesOf 2 = .ok (.iload_n 1, 1) := by decide +kernel
theorem dX1_partiesOf_3 : decode cX1_partiesOf 3 = .ok (.invokevirtual 147, 3) := by decide +kernel
theorem dX1_partiesOf_6 : decode cX1_partiesOf 6 = .ok (.ifCond .eq 7, 3) := by decide +kernel
theorem dX1_partiesOf_9 : decode cX1_partiesOf 9 = .ok (.iconst 0, 1) := by decide +kernel
theorem dX1_partiesOf_10 : decode cX1_partiesOf 10 = .ok (.goto 4, 3) := by decide +kernel
theorem dX1_partiesOf_13 : decode cX1_partiesOf 13 = .ok (.iconst 1, 1) := by decide +kernel
theorem dX1_partiesOf_14 : decode cX1_partiesOf 14 = .ok (.invokevirtual 77, 3) := by decide +kernel
theorem dX1_partiesOf_17 : decode cX1_partiesOf 17 = .ok (.ifCond .eq 32, 3) := by decide +kernel
theorem dX1_partiesOf_20 : decode cX1_partiesOf 20 = .ok (.bipush 100, 2) := by decide +kernel
theorem dX1_partiesOf_22 : decode cX1_partiesOf 22 = .ok (.aload_n 0, 1) := by decide +kernel
theorem dX1_partiesOf_23 : decode cX1_partiesOf 23 = .ok (.getfield 42, 3) := by decide +kernel
theorem dX1_partiesOf_26 : decode cX1_partiesOf 26 = .ok (.iload_n 1, 1) := by decide +kernel
theorem dX1_partiesOf_27 : decode cX1_partiesOf 27 = .ok (.iaload, 1) := by decide +kernel
theorem dX1_partiesOf_28 : decode cX1_partiesOf 28 = .ok (.imul, 1) := by decide +kernel
theorem dX1_partiesOf_29 : decode cX1_partiesOf 29 = .ok (.bipush 10, 2) := by decide +kernel
theorem dX1_partiesOf_31 : decode cX1_partiesOf 31 = .ok (.aload_n 0, 1) := by decide +kernel
theorem dX1_partiesOf_32 : decode cX1_partiesOf 32 = .ok (.getfield 45, 3) := by decide +kernel
theorem dX1_partiesOf_35 : decode cX1_partiesOf 35 = .ok (.iload_n 1, 1) := by decide +kernel
theorem dX1_partiesOf_36 : decode cX1_partiesOf 36 = .ok (.iaload, 1) := by decide +kernel
theorem dX1_partiesOf_37 : decode cX1_partiesOf 37 = .ok (.imul, 1) := by decide +kernel
theorem dX1_partiesOf_38 : decode cX1_partiesOf 38 = .ok (.iadd, 1) := by decide +kernel
theorem dX1_partiesOf_39 : decode cX1_partiesOf 39 = .ok (.aload_n 0, 1) := by decide +kernel
theorem dX1_partiesOf_40 : decode cX1_partiesOf 40 = .ok (.getfield 48, 3) := by decide +kernel
theorem dX1_partiesOf_43 : decode cX1_partiesOf 43 = .ok (.iload_n 1, 1) := by decide +kernel
theorem dX1_partiesOf_44 : decode cX1_partiesOf 44 = .ok (.iaload, 1) := by decide +kernel
theorem dX1_partiesOf_45 : decode cX1_partiesOf 45 = .ok (.iadd, 1) := by decide +kernel
theorem dX1_partiesOf_46 : decode cX1_partiesOf 46 = .ok (.goto 4, 3) := by decide +kernel
theorem dX1_partiesOf_49 : decode cX1_partiesOf 49 = .ok (.iconst 0, 1) := by decide +kernel
theorem dX1_partiesOf_50 : decode cX1_partiesOf 50 = .ok (.ireturn, 1) := by decide +kernel
set_option maxRecDepth 20000 in
theorem ggX1_interest_X1_isLoan : GoodIn wsX1_interest wsX1_isLoan := goodIn_r _ [6, 7, 8, 9, 5, 10, 16, 17, 18, 19, 20, 21, 22, 23, 24, 25, 26, 27, 28, 29, 30, 31, 32, 33, 34] (by decide +kernel) (by decide +kernel)
set_option maxRecDepth 20000 in
theorem gX1_interest_X1_isLoan : GoodIn wsX1_interest (wsV RX1 147 RX1 yX1_isLoan wsX1_isLoan) := goodIn_app (goodIn_of _ (by decide +kernel)) ggX1_interest_X1_isLoan
set_option maxRecDepth 20000 in
theorem ggX1_interest_X1_goes : GoodIn wsX1_interest wsX1_goes := goodIn_r _ [14, 15, 16, 17, 18, 19, 20, 21, 22, 23, 24, 25, 26, 27, 28, 29, 30, 31, 32, 33, 34] (by decide +kernel) (by decide +kernel)
set_option maxRecDepth 20000 in
theorem gX1_interest_X1_goes : GoodIn wsX1_interest (wsV RX1 77 RX1 yX1_goes wsX1_goes) := goodIn_app (goodIn_of _ (by decide +kernel)) ggX1_interest_X1_goes
theorem dX1_interest_0 : decode cX1_interest 0 = .ok (.aload_n 0, 1) := by decide +kernel
theorem dX1_interest_1 : decode cX1_interest 1 = .ok (.aload_n 0, 1) := by decide +kernel
theorem dX1_interest_2 : decode cX1_interest 2 = .ok (.iload_n 1, 1) := by decide +kernel
theorem dX1_interest_3 : decode cX1_interest 3 = .ok (.invokevirtual 147, 3) := by decide +kernel
theorem dX1_interest_6 : decode cX1_interest 6 = .ok (.ifCond .eq 7, 3) := by decide +kernel
theorem dX1_interest_9 : decode cX1_interest 9 = .ok (.iconst 0, 1) := by decide +kernel
theorem dX1_interest_10 : decode cX1_interest 10 = .ok (.goto 4, 3) := by decide +kernel
theorem dX1_interest_13 : decode cX1_interest 13 = .ok (.iconst 1, 1) := by decide +kernel
theorem dX1_interest_14 : decode cX1_interest 14 = .ok (.invokevirtual 77, 3) := by decide +kernel
theorem dX1_interest_17 : decode cX1_interest 17 = .ok (.ifCond .eq 12, 3) := by decide +kernel
theorem dX1_interest_20 : decode cX1_interest 20 = .ok (.aload_n 0, 1) := by decide +kernel
theorem dX1_interest_21 : decode cX1_interest 21 = .ok (.getfield 51, 3) := by decide +kernel
theorem dX1_interest_24 : decode cX1_interest 24 = .ok (.iload_n 1, 1) := by decide +kernel
theorem dX1_interest_25 : decode cX1_interest 25 = .ok (.iaload, 1) := by decide +kernel
theorem dX1_interest_26 : decode cX1_interest 26 = .ok (.goto 4, 3) := by decide +kernel
theorem dX1_interest_29 : decode cX1_interest 29 = .ok (.iconst 0, 1) := by decide +kernel
theorem dX1_interest_30 : decode cX1_interest 30 = .ok (.ireturn, 1) := by decide +kernel
theorem dX1_head_0 : decode cX1_head 0 = .ok (.aload_n 0, 1) := by decide +kernel
theorem dX1_head_1 : decode cX1_head 1 = .ok (.iconst 0, 1) := by decide +kernel
theorem dX1_head_2 : decode cX1_head 2 = .ok (.putfield 57, 3) := by decide +kernel
theorem dX1_head_5 : decode cX1_head 5 = .ok (.aload_n 0, 1) := by decide +kernel
theorem dX1_head_6 : decode cX1_head 6 = .ok (.getfield 159, 3) := by decide +kernel
theorem dX1_head_9 : decode cX1_head 9 = .ok (.ireturn, 1) := by decide +kernel
set_option maxRecDepth 20000 in
theorem ggX1_requests_X1_isComing : GoodIn wsX1_requests wsX1_isComing := goodIn_r _ [6, 7, 8, 9, 10, 11, 12, 13, 14, 15, 16, 17, 18, 19, 20, 21, 22, 23, 24, 25, 26, 27] (by decide +kernel) (by decide +kernel)
set_option maxRecDepth 20000 in
theorem gX1_requests_X1_isComing : GoodIn wsX1_requests (wsV RX1 97 RX1 yX1_isComing wsX1_isComing) := goodIn_app (goodIn_of _ (by decide +kernel)) ggX1_requests_X1_isComing
theorem dX1_requests_0 : decode cX1_requests 0 = .ok (.aload_n 0, 1) := by decide +kernel
theorem dX1_requests_1 : decode cX1_requests 1 = .ok (.iconst 0, 1) := by decide +kernel
theorem dX1_requests_2 : decode cX1_requests 2 = .ok (.putfield 57, 3) := by decide +kernel
theorem dX1_requests_5 : decode cX1_requests 5 = .ok (.iconst 0, 1) := by decide +kernel
theorem dX1_requests_6 : decode cX1_requests 6 = .ok (.istore_n 1, 1) := by decide +kernel
theorem dX1_requests_7 : decode cX1_requests 7 = .ok (.iconst 0, 1) := by decide +kernel
theorem dX1_requests_8 : decode cX1_requests 8 = .ok (.istore_n 2, 1) := by decide +kernel
theorem dX1_requests_9 : decode cX1_requests 9 = .ok (.iload_n 2, 1) := by decide +kernel
theorem dX1_requests_10 : decode cX1_requests 10 = .ok (.bipush 12, 2) := by decide +kernel
theorem dX1_requests_12 : decode cX1_requests 12 = .ok (.if_icmp .ge 25, 3) := by decide +kernel
theorem dX1_requests_15 : decode cX1_requests 15 = .ok (.iload_n 1, 1) := by decide +kernel
theorem dX1_requests_16 : decode cX1_requests 16 = .ok (.aload_n 0, 1) := by decide +kernel
theorem dX1_requests_17 : decode cX1_requests 17 = .ok (.iload_n 2, 1) := by decide +kernel
theorem dX1_requests_18 : decode cX1_requests 18 = .ok (.invokevirtual 97, 3) := by decide +kernel
theorem dX1_requests_21 : decode cX1_requests 21 = .ok (.ifCond .eq 7, 3) := by decide +kernel
theorem dX1_requests_24 : decode cX1_requests 24 = .ok (.iconst 1, 1) := by decide +kernel
theorem dX1_requests_25 : decode cX1_requests 25 = .ok (.goto 4, 3) := by decide +kernel
theorem dX1_requests_28 : decode cX1_requests 28 = .ok (.iconst 0, 1) := by decide +kernel
theorem dX1_requests_29 : decode cX1_requests 29 = .ok (.iadd, 1) := by decide +kernel
theorem dX1_requests_30 : decode cX1_requests 30 = .ok (.istore_n 1, 1) := by decide +kernel
theorem dX1_requests_31 : decode cX1_requests 31 = .ok (.iinc 2 1, 3) := by decide +kernel
theorem dX1_requests_34 : decode cX1_requests 34 = .ok (.goto (-25), 3) := by decide +kernel
theorem dX1_requests_37 : decode cX1_requests 37 = .ok (.iload_n 1, 1) := by decide +kernel
theorem dX1_requests_38 : decode cX1_requests 38 = .ok (.ireturn, 1) := by decide +kernel
set_option maxRecDepth 20000 in
theorem ggX1_requestAt_X1_goes : GoodIn wsX1_requestAt wsX1_goes := goodIn_r _ [5, 6, 24, 25, 26, 27, 28, 29, 30, 31, 32, 33, 34, 35, 36, 37, 38, 39, 40, 41, 42] (by decide +kernel) (by decide +kernel)
set_option maxRecDepth 20000 in
theorem gX1_requestAt_X1_goes : GoodIn wsX1_requestAt (wsV RX1 77 RX1 yX1_goes wsX1_goes) := goodIn_app (goodIn_of _ (by decide +kernel)) ggX1_requestAt_X1_goes
set_option maxRecDepth 20000 in
theorem ggX1_requestAt_X1_isComing : GoodIn wsX1_requestAt wsX1_isComing := goodIn_r _ [10, 11, 12, 24, 25, 26, 27, 28, 29, 30, 31, 32, 33, 34, 35, 36, 37, 38, 39, 40, 41, 42] (by decide +kernel) (by decide +kernel)
set_option maxRecDepth 20000 in
theorem gX1_requestAt_X1_isComing : GoodIn wsX1_requestAt (wsV RX1 97 RX1 yX1_isComing wsX1_isComing) := goodIn_app (goodIn_of _ (by decide +kernel)) ggX1_requestAt_X1_isComing
set_option maxRecDepth 20000 in
theorem ggX1_requestAt_X1_trackOf : GoodIn wsX1_requestAt wsX1_trackOf := goodIn_r _ [16, 11, 17, 18, 19, 4, 20, 21, 22, 23, 24, 25, 26, 27, 28, 29, 30, 31, 32, 33, 34, 35, 36, 37, 38, 39, 40, 41, 42] (by decide +kernel) (by decide +kernel)
set_option maxRecDepth 20000 in
theorem gX1_requestAt_X1_trackOf : GoodIn wsX1_requestAt (wsV RX1 156 RX1 yX1_trackOf wsX1_trackOf) := goodIn_app (goodIn_of _ (by decide +kernel)) ggX1_requestAt_X1_trackOf
theorem dX1_requestAt_0 : decode cX1_requestAt 0 = .ok (.aload_n 0, 1) := by decide +kernel
theorem dX1_requestAt_1 : decode cX1_requestAt 1 = .ok (.iload_n 1, 1) := by decide +kernel
theorem dX1_requestAt_2 : decode cX1_requestAt 2 = .ok (.ifCond .ge 7, 3) := by decide +kernel
theorem dX1_requestAt_5 : decode cX1_requestAt 5 = .ok (.iconst 1, 1) := by decide +kernel
theorem dX1_requestAt_6 : decode cX1_requestAt 6 = .ok (.goto 4, 3) := by decide +kernel
theorem dX1_requestAt_9 : decode cX1_requestAt 9 = .ok (.iconst 0, 1) := by decide +kernel
theorem dX1_requestAt_10 : decode cX1_requestAt 10 = .ok (.invokevirtual 77, 3) := by decide +kernel
theorem dX1_requestAt_13 : decode cX1_requestAt 13 = .ok (.ifCond .ne 5, 3) := by decide +kernel
theorem dX1_requestAt_16 : decode cX1_requestAt 16 = .ok (.iconst 0, 1) := by decide +kernel
theorem dX1_requestAt_17 : decode cX1_requestAt 17 = .ok (.ireturn, 1) := by decide +kernel
theorem dX1_requestAt_18 : decode cX1_requestAt 18 = .ok (.iconst (-1), 1) := by decide +kernel
theorem dX1_requestAt_19 : decode cX1_requestAt 19 = .ok (.istore_n 2, 1) := by decide +kernel
theorem dX1_requestAt_20 : decode cX1_requestAt 20 = .ok (.iconst 0, 1) := by decide +kernel
theorem dX1_requestAt_21 : decode cX1_requestAt 21 = .ok (.istore_n 3, 1) := by decide +kernel
theorem dX1_requestAt_22 : decode cX1_requestAt 22 = .ok (.iload_n 3, 1) := by decide +kernel
theorem dX1_requestAt_23 : decode cX1_requestAt 23 = .ok (.bipush 12, 2) := by decide +kernel
theorem dX1_requestAt_25 : decode cX1_requestAt 25 = .ok (.if_icmp .ge 93, 3) := by decide +kernel
theorem dX1_requestAt_28 : decode cX1_requestAt 28 = .ok (.iconst 0, 1) := by decide +kernel
theorem dX1_requestAt_29 : decode cX1_requestAt 29 = .ok (.istore 4, 2) := by decide +kernel
theorem dX1_requestAt_31 : decode cX1_requestAt 31 = .ok (.iconst 0, 1) := by decide +kernel
theorem dX1_requestAt_32 : decode cX1_requestAt 32 = .ok (.istore 5, 2) := by decide +kernel
theorem dX1_requestAt_34 : decode cX1_requestAt 34 = .ok (.iload 5, 2) := by decide +kernel
theorem dX1_requestAt_36 : decode cX1_requestAt 36 = .ok (.bipush 12, 2) := by decide +kernel
theorem dX1_requestAt_38 : decode cX1_requestAt 38 = .ok (.if_icmp .ge 50, 3) := by decide +kernel
theorem dX1_requestAt_41 : decode cX1_requestAt 41 = .ok (.aload_n 0, 1) := by decide +kernel
theorem dX1_requestAt_42 : decode cX1_requestAt 42 = .ok (.iload_n 3, 1) := by decide +kernel
theorem dX1_requestAt_43 : decode cX1_requestAt 43 = .ok (.invokevirtual 97, 3) := by decide +kernel
theorem dX1_requestAt_46 : decode cX1_requestAt 46 = .ok (.ifCond .eq 42, 3) := by decide +kernel
theorem dX1_requestAt_49 : decode cX1_requestAt 49 = .ok (.iload 4, 2) := by decide +kernel
theorem dX1_requestAt_51 : decode cX1_requestAt 51 = .ok (.aload_n 0, 1) := by decide +kernel
theorem dX1_requestAt_52 : decode cX1_requestAt 52 = .ok (.iload 5, 2) := by decide +kernel
theorem dX1_requestAt_54 : decode cX1_requestAt 54 = .ok (.invokevirtual 97, 3) := by decide +kernel
theorem dX1_requestAt_57 : decode cX1_requestAt 57 = .ok (.ifCond .eq 21, 3) := by decide +kernel
theorem dX1_requestAt_60 : decode cX1_requestAt 60 = .ok (.aload_n 0, 1) := by decide +kernel
theorem dX1_requestAt_61 : decode cX1_requestAt 61 = .ok (.iload 5, 2) := by decide +kernel
theorem dX1_requestAt_63 : decode cX1_requestAt 63 = .ok (.invokevirtual 156, 3) := by decide +kernel
theorem dX1_requestAt_66 : decode cX1_requestAt 66 = .ok (.aload_n 0, 1) := by decide +kernel
theorem dX1_requestAt_67 : decode cX1_requestAt 67 = .ok (.iload_n 3, 1) := by decide +kernel
theorem dX1_requestAt_68 : decode cX1_requestAt 68 = .ok (.invokevirtual 156, 3) := by decide +kernel
theorem dX1_requestAt_71 : decode cX1_requestAt 71 = .ok (.if_icmp .ge 7, 3) := by decide +kernel
theorem dX1_requestAt_74 : decode cX1_requestAt 74 = .ok (.iconst 1, 1) := by decide +kernel
theorem dX1_requestAt_75 : decode cX1_requestAt 75 = .ok (.goto 4, 3) := by decide +kernel
theorem dX1_requestAt_78 : decode cX1_requestAt 78 = .ok (.iconst 0, 1) := by decide +kernel
theorem dX1_requestAt_79 : decode cX1_requestAt 79 = .ok (.iadd, 1) := by decide +kernel
theorem dX1_requestAt_80 : decode cX1_requestAt 80 = .ok (.istore 4, 2) := by decide +kernel
theorem dX1_requestAt_82 : decode cX1_requestAt 82 = .ok (.iinc 5 1, 3) := by decide +kernel
theorem dX1_requestAt_85 : decode cX1_requestAt 85 = .ok (.goto (-51), 3) := by decide +kernel
theorem dX1_requestAt_88 : decode cX1_requestAt 88 = .ok (.aload_n 0, 1) := by decide +kernel
theorem dX1_requestAt_89 : decode cX1_requestAt 89 = .ok (.iload_n 3, 1) := by decide +kernel
theorem dX1_requestAt_90 : decode cX1_requestAt 90 = .ok (.invokevirtual 97, 3) := by decide +kernel
theorem dX1_requestAt_93 : decode cX1_requestAt 93 = .ok (.ifCond .eq 17, 3) := by decide +kernel
theorem dX1_requestAt_96 : decode cX1_requestAt 96 = .ok (.iload 4, 2) := by decide +kernel
theorem dX1_requestAt_98 : decode cX1_requestAt 98 = .ok (.iload_n 1, 1) := by decide +kernel
theorem dX1_requestAt_99 : decode cX1_requestAt 99 = .ok (.if_icmp .ne 11, 3) := by decide +kernel
theorem dX1_requestAt_102 : decode cX1_requestAt 102 = .ok (.aload_n 0, 1) := by decide +kernel
theorem dX1_requestAt_103 : decode cX1_requestAt 103 = .ok (.iload_n 3, 1) := by decide +kernel
theorem dX1_requestAt_104 : decode cX1_requestAt 104 = .ok (.invokevirtual 156, 3) := by decide +kernel
theorem dX1_requestAt_107 : decode cX1_requestAt 107 = .ok (.goto 4, 3) := by decide +kernel
theorem dX1_requestAt_110 : decode cX1_requestAt 110 = .ok (.iload_n 2, 1) := by decide +kernel
theorem dX1_requestAt_111 : decode cX1_requestAt 111 = .ok (.istore_n 2, 1) := by decide +kernel
theorem dX1_requestAt_112 : decode cX1_requestAt 112 = .ok (.iinc 3 1, 3) := by decide +kernel
theorem dX1_requestAt_115 : decode cX1_requestAt 115 = .ok (.goto (-93), 3) := by decide +kernel
theorem dX1_requestAt_118 : decode cX1_requestAt 118 = .ok (.iload_n 2, 1) := by decide +kernel
theorem dX1_requestAt_119 : decode cX1_requestAt 119 = .ok (.ireturn, 1) := by decide +kernel

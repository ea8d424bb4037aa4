set_option maxRecDepth 20000 in
theorem gL_law_L_areFrames : GoodIn wsL_law (va_wsS RL 172 yL_areFrames wsL_areFrames) := goodIn_app (goodIn_of _ (by decide +kernel)) ggL_law_L_areFrames
theorem dL_law_0 : decode cL_law 0 = .ok (.new 10, 3) := by decide +kernel
theorem dL_law_3 : decode cL_law 3 = .ok (.dup, 1) := by decide +kernel
theorem dL_law_4 : decode cL_law 4 = .ok (.invokespecial 151, 3) := by decide +kernel
theorem dL_law_7 : decode cL_law 7 = .ok (.astore_n 1, 1) := by decide +kernel
theorem dL_law_8 : decode cL_law 8 = .ok (.bipush 48, 2) := by decide +kernel
theorem dL_law_10 : decode cL_law 10 = .ok (.newarray .int, 2) := by decide +kernel
theorem dL_law_12 : decode cL_law 12 = .ok (.astore_n 2, 1) := by decide +kernel
theorem dL_law_13 : decode cL_law 13 = .ok (.bipush 10, 2) := by decide +kernel
theorem dL_law_15 : decode cL_law 15 = .ok (.newarray .int, 2) := by decide +kernel
theorem dL_law_17 : decode cL_law 17 = .ok (.astore_n 3, 1) := by decide +kernel
theorem dL_law_18 : decode cL_law 18 = .ok (.iconst 1, 1) := by decide +kernel
theorem dL_law_19 : decode cL_law 19 = .ok (.istore 4, 2) := by decide +kernel
theorem dL_law_21 : decode cL_law 21 = .ok (.aload_n 1, 1) := by decide +kernel
theorem dL_law_22 : decode cL_law 22 = .ok (.iconst 0, 1) := by decide +kernel
theorem dL_law_23 : decode cL_law 23 = .ok (.invokestatic 152, 3) := by decide +kernel
theorem dL_law_26 : decode cL_law 26 = .ok (.ifCond .eq 24, 3) := by decide +kernel
theorem dL_law_29 : decode cL_law 29 = .ok (.aload_n 1, 1) := by decide +kernel
theorem dL_law_30 : decode cL_law 30 = .ok (.iconst 1, 1) := by decide +kernel
theorem dL_law_31 : decode cL_law 31 = .ok (.invokestatic 152, 3) := by decide +kernel
theorem dL_law_34 : decode cL_law 34 = .ok (.ifCond .eq 16, 3) := by decide +kernel
theorem dL_law_37 : decode cL_law 37 = .ok (.aload_n 1, 1) := by decide +kernel
theorem dL_law_38 : decode cL_law 38 = .ok (.invokevirtual 120, 3) := by decide +kernel
theorem dL_law_41 : decode cL_law 41 = .ok (.bipush 12, 2) := by decide +kernel
theorem dL_law_43 : decode cL_law 43 = .ok (.if_icmp .ne 7, 3) := by decide +kernel
theorem dL_law_46 : decode cL_law 46 = .ok (.iconst 1, 1) := by decide +kernel
theorem dL_law_47 : decode cL_law 47 = .ok (.goto 4, 3) := by decide +kernel
theorem dL_law_51 : decode cL_law 51 = .ok (.istore 5, 2) := by decide +kernel
theorem dL_law_53 : decode cL_law 53 = .ok (.iconst 0, 1) := by decide +kernel
theorem dL_law_54 : decode cL_law 54 = .ok (.istore 6, 2) := by decide +kernel
theorem dL_law_56 : decode cL_law 56 = .ok (.iload 6, 2) := by decide +kernel
theorem dL_law_58 : decode cL_law 58 = .ok (.bipush 110, 2) := by decide +kernel
theorem dL_law_60 : decode cL_law 60 = .ok (.if_icmp .ge 557, 3) := by decide +kernel
theorem dL_law_63 : decode cL_law 63 = .ok (.iload 5, 2) := by decide +kernel
theorem dL_law_65 : decode cL_law 65 = .ok (.ifCond .eq 552, 3) := by decide +kernel
theorem dL_law_68 : decode cL_law 68 = .ok (.aload_n 0, 1) := by decide +kernel
theorem dL_law_69 : decode cL_law 69 = .ok (.iload 6, 2) := by decide +kernel
theorem dL_law_71 : decode cL_law 71 = .ok (.invokestatic 156, 3) := by decide +kernel
theorem dL_law_74 : decode cL_law 74 = .ok (.istore 7, 2) := by decide +kernel
theorem dL_law_76 : decode cL_law 76 = .ok (.iload 7, 2) := by decide +kernel
theorem dL_law_78 : decode cL_law 78 = .ok (.bipush 32, 2) := by decide +kernel
theorem dL_law_80 : decode cL_law 80 = .ok (.idiv, 1) := by decide +kernel
theorem dL_law_81 : decode cL_law 81 = .ok (.istore 8, 2) := by decide +kernel
theorem dL_law_83 : decode cL_law 83 = .ok (.iload 7, 2) := by decide +kernel
theorem dL_law_85 : decode cL_law 85 = .ok (.bipush 32, 2) := by decide +kernel
theorem dL_law_87 : decode cL_law 87 = .ok (.irem, 1) := by decide +kernel
theorem dL_law_88 : decode cL_law 88 = .ok (.istore 9, 2) := by decide +kernel
theorem dL_law_90 : decode cL_law 90 = .ok (.iload 8, 2) := by decide +kernel
theorem dL_law_92 : decode cL_law 92 = .ok (.iconst 5, 1) := by decide +kernel
theorem dL_law_93 : decode cL_law 93 = .ok (.irem, 1) := by decide +kernel
theorem dL_law_94 : decode cL_law 94 = .ok (.istore 10, 2) := by decide +kernel
theorem dL_law_96 : decode cL_law 96 = .ok (.iload 9, 2) := by decide +kernel
theorem dL_law_98 : decode cL_law 98 = .ok (.iconst 3, 1) := by decide +kernel
theorem dL_law_99 : decode cL_law 99 = .ok (.if_icmp .ge 57, 3) := by decide +kernel
theorem dL_law_156 : decode cL_law 156 = .ok (.iload 9, 2) := by decide +kernel
theorem dL_law_158 : decode cL_law 158 = .ok (.iconst 3, 1) := by decide +kernel
theorem dL_law_159 : decode cL_law 159 = .ok (.if_icmp .ne 48, 3) := by decide +kernel
theorem dL_law_207 : decode cL_law 207 = .ok (.iload 9, 2) := by decide +kernel
theorem dL_law_209 : decode cL_law 209 = .ok (.bipush 9, 2) := by decide +kernel
theorem dL_law_211 : decode cL_law 211 = .ok (.if_icmp .ge 33, 3) := by decide +kernel
theorem dL_law_244 : decode cL_law 244 = .ok (.iload 9, 2) := by decide +kernel
theorem dL_law_246 : decode cL_law 246 = .ok (.bipush 9, 2) := by decide +kernel
theorem dL_law_248 : decode cL_law 248 = .ok (.if_icmp .ne 76, 3) := by decide +kernel
theorem dL_law_251 : decode cL_law 251 = .ok (.aload_n 1, 1) := by decide +kernel
theorem dL_law_252 : decode cL_law 252 = .ok (.iload 8, 2) := by decide +kernel
theorem dL_law_254 : decode cL_law 254 = .ok (.bipush 12, 2) := by decide +kernel
theorem dL_law_256 : decode cL_law 256 = .ok (.irem, 1) := by decide +kernel
theorem dL_law_257 : decode cL_law 257 = .ok (.invokevirtual 55, 3) := by decide +kernel
theorem dL_law_260 : decode cL_law 260 = .ok (.ifCond .ge 9, 3) := by decide +kernel
theorem dL_law_263 : decode cL_law 263 = .ok (.sipush (-1213), 3) := by decide +kernel
theorem dL_law_266 : decode cL_law 266 = .ok (.goto 12, 3) := by decide +kernel
theorem dL_law_278 : decode cL_law 278 = .ok (.istore 11, 2) := by decide +kernel
theorem dL_law_280 : decode cL_law 280 = .ok (.aload_n 1, 1) := by decide +kernel
theorem dL_law_281 : decode cL_law 281 = .ok (.iconst 4, 1) := by decide +kernel
theorem dL_law_282 : decode cL_law 282 = .ok (.iload 8, 2) := by decide +kernel
theorem dL_law_284 : decode cL_law 284 = .ok (.bipush 12, 2) := by decide +kernel
theorem dL_law_286 : decode cL_law 286 = .ok (.irem, 1) := by decide +kernel
theorem dL_law_287 : decode cL_law 287 = .ok (.iconst 0, 1) := by decide +kernel
theorem dL_law_288 : decode cL_law 288 = .ok (.invokestatic 131, 3) := by decide +kernel
theorem dL_law_291 : decode cL_law 291 = .ok (.iload 11, 2) := by decide +kernel
theorem dL_law_293 : decode cL_law 293 = .ok (.if_icmp .ne 25, 3) := by decide +kernel
theorem dL_law_296 : decode cL_law 296 = .ok (.iload 11, 2) := by decide +kernel
theorem dL_law_298 : decode cL_law 298 = .ok (.ifCond .lt 16, 3) := by decide +kernel
theorem dL_law_314 : decode cL_law 314 = .ok (.iconst 1, 1) := by decide +kernel
theorem dL_law_315 : decode cL_law 315 = .ok (.goto 4, 3) := by decide +kernel
theorem dL_law_319 : decode cL_law 319 = .ok (.istore 5, 2) := by decide +kernel
theorem dL_law_321 : decode cL_law 321 = .ok (.goto 245, 3) := by decide +kernel
theorem dL_law_566 : decode cL_law 566 = .ok (.iload 5, 2) := by decide +kernel
theorem dL_law_568 : decode cL_law 568 = .ok (.ifCond .eq 40, 3) := by decide +kernel
theorem dL_law_571 : decode cL_law 571 = .ok (.iload 6, 2) := by decide +kernel
theorem dL_law_573 : decode cL_law 573 = .ok (.iconst 2, 1) := by decide +kernel
theorem dL_law_574 : decode cL_law 574 = .ok (.irem, 1) := by decide +kernel
theorem dL_law_575 : decode cL_law 575 = .ok (.ifCond .gt 10, 3) := by decide +kernel
theorem dL_law_578 : decode cL_law 578 = .ok (.aload_n 1, 1) := by decide +kernel
theorem dL_law_579 : decode cL_law 579 = .ok (.invokestatic 172, 3) := by decide +kernel
theorem dL_law_582 : decode cL_law 582 = .ok (.ifCond .eq 26, 3) := by decide +kernel
theorem dL_law_585 : decode cL_law 585 = .ok (.iload 6, 2) := by decide +kernel
theorem dL_law_587 : decode cL_law 587 = .ok (.bipush 22, 2) := by decide +kernel
theorem dL_law_589 : decode cL_law 589 = .ok (.irem, 1) := by decide +kernel
theorem dL_law_590 : decode cL_law 590 = .ok (.ifCond .gt 14, 3) := by decide +kernel
theorem dL_law_593 : decode cL_law 593 = .ok (.aload_n 1, 1) := by decide +kernel
theorem dL_law_594 : decode cL_law 594 = .ok (.iload 7, 2) := by decide +kernel
theorem dL_law_596 : decode cL_law 596 = .ok (.iconst 3, 1) := by decide +kernel
theorem dL_law_597 : decode cL_law 597 = .ok (.idiv, 1) := by decide +kernel
theorem dL_law_598 : decode cL_law 598 = .ok (.invokestatic 152, 3) := by decide +kernel
theorem dL_law_601 : decode cL_law 601 = .ok (.ifCond .eq 7, 3) := by decide +kernel
theorem dL_law_604 : decode cL_law 604 = .ok (.iconst 1, 1) := by decide +kernel
theorem dL_law_605 : decode cL_law 605 = .ok (.goto 4, 3) := by decide +kernel
theorem dL_law_609 : decode cL_law 609 = .ok (.istore 5, 2) := by decide +kernel
theorem dL_law_611 : decode cL_law 611 = .ok (.iinc 6 1, 3) := by decide +kernel
theorem dL_law_614 : decode cL_law 614 = .ok (.goto (-558), 3) := by decide +kernel
theorem dL_law_617 : decode cL_law 617 = .ok (.iload 5, 2) := by decide +kernel
theorem dL_law_619 : decode cL_law 619 = .ok (.ireturn, 1) := by decide +kernel

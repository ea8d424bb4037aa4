/-! AlmsKernelLaw.law -/
def lawR : Room := { frames := 13, cells := 6067, slots := 6 * 6067, locals := 506 }
def FL_law_w56 : Nat → Int32 → Int32 → Int32 → Option RC
  | 0, _, _, _ => none
  | n + 1, x5, x6, st => (if 110 ≤ x6 then gd (oz_bit x5) (some (0, x5, st)) else (if x5 = 0 then none else gd (oz_in x6 110) ((if 3 ≤ ((9 : Int32) - (9 : Int32) / 32 * 32) then (if ((9 : Int32) - (9 : Int32) / 32 * 32) = 3 then none else (if 9 ≤ ((9 : Int32) - (9 : Int32) / 32 * 32) then (if ((9 : Int32) - (9 : Int32) / 32 * 32) = 9 then bnd (FX0_ageN (((9 : Int32) / 32) - ((9 : Int32) / 32) / 12 * 12) st) (fun r9 s9 => (if 0 ≤ r9 then none else bnd (FL_act 4 (((9 : Int32) / 32) - ((9 : Int32) / 32) / 12 * 12) 0 s9) (fun r11 s11 => (if r11 = (-1213) then (if ((-1213) : Int32) < 0 then (if (1 : Int32) = 0 then none else (if 0 < (x6 - x6 / 2 * 2) then (if 0 < (x6 - x6 / 22 * 22) then (FL_law_w56 n 1 (x6 + 1) s11) else bnd (FL_isRefused ((9 : Int32) / 3) s11) (fun r17 s17 => (if r17 = 0 then none else (FL_law_w56 n 1 (x6 + 1) s17)))) else bnd (FL_areFrames s11) (fun r19 s19 => (if r19 = 0 then none else (if 0 < (x6 - x6 / 22 * 22) then (FL_law_w56 n 1 (x6 + 1) s19) else bnd (FL_isRefused ((9 : Int32) / 3) s19) (fun r22 s22 => (if r22 = 0 then none else (FL_law_w56 n 1 (x6 + 1) s22)))))))) else none) else none)))) else none) else none)) else none))))
def FL_law (st : Int32) : Option RC := bnd (FL_isRefused 0 st) (fun r24 s24 => (if r24 = 0 then none else bnd (FL_isRefused 1 s24) (fun r26 s26 => (if r26 = 0 then none else bnd (FX0_freeN s26) (fun r28 s28 => (if r28 = 12 then (FL_law_w56 111 1 0 s28) else none))))))
set_option maxHeartbeats 4000000 in
set_option maxRecDepth 100000 in
theorem mL_lawG {p : Program} {l : Launch} {e : Env} {s : State} {m : MethodId} {b : Nat} {below : List Frame} {meth : Method} {c : Code} {xs : Nat → Int32} {D : va_G} {cI cZ : ClassId} {ad : Nat → Nat} {A : Nat → Prop} {res : RC} {G : Nat → Nat → List (Nat × Value) → List Value → Int32 → Option RC → Prop} (hst : l.stackTraces = false) (hr : meth.sig.returnType = (some .boolean)) (X : oz_E p l e lawR s m #[.ref b] below meth c (vx_MQ below (oz_Qi D cI cZ 0 ad oz_lyX0 res A) (oz_XC D cI cZ 0 ad oz_lyX0 res A) #[.ref b] s 6067 (6 * 6067) A) cL_law 14 wsL_law RX0 RL D cI cZ 0 TX0 19 oz_KSX0 oz_lyX0 ad A res [] G) (hscr : oz_scr s b xs A) (st : Int32) : G 80 21 [(1, .ref (ad 0)), (0, .ref b)] [] st (FL_law st) := by
  have hc56 : ∀ (n k : Nat), k + 53 * n ≤ 6067 → ∀ (x5 : Int32) (x6 : Int32) (st : Int32), G k 56 [(0, .ref b), (1, .ref (ad 0)), (5, .int x5), (6, .int x6)] [] st (FL_law_w56 n x5 x6 st) := by
    intro n
    induction n with
    | zero => intros; exact oz_none X
    | succ n ih =>
      intro k hk x5 x6 st
      rw [FL_law_w56]
      refine oz_iload X dL_law_56 3 rfl ?_
      refine oz_bipush X (v := 110) dL_law_58 (by decide) ?_
      refine oz_icmp_ge X (tgt := 617) dL_law_60 (by decide) (fun q2 => ?_) (fun q2 => ?_)
      · refine oz_iload X dL_law_617 2 rfl ?_
        exact oz_zretG X rfl hr (by omega) dL_law_619
      · refine oz_iload X dL_law_63 2 rfl ?_
        refine oz_if_eq X (tgt := 617) dL_law_65 (by decide) (fun q3 => ?_) (fun q3 => ?_)
        · exact oz_none X
        · refine oz_aload_n X dL_law_68 rfl 0 rfl ?_
          refine oz_iload X dL_law_69 3 rfl ?_
          refine oz_dice X hscr dL_law_71 ⟨by decide, by decide⟩ (Nat.le_of_ble_eq_true rfl) (by show _ ≤ 6067; omega) (by show _ ≤ 6 * 6067; omega) (fun g4 => ?_)
          refine oz_istore X (L2 := [(7, .int 9), (0, .ref b), (1, .ref (ad 0)), (5, .int x5), (6, .int x6)]) dL_law_74 (by decide) rfl ?_
          refine oz_iload X dL_law_76 0 rfl ?_
          refine oz_bipush X (v := 32) dL_law_78 (by decide) ?_
          refine oz_idiv X dL_law_80 (by decide) ?_
          refine oz_istore X (L2 := [(8, .int ((9 : Int32) / 32)), (7, .int 9), (0, .ref b), (1, .ref (ad 0)), (5, .int x5), (6, .int x6)]) dL_law_81 (by decide) rfl ?_
          refine oz_iload X dL_law_83 1 rfl ?_
          refine oz_bipush X (v := 32) dL_law_85 (by decide) ?_
          refine oz_irem X dL_law_87 (by decide) ?_
          refine oz_istore X (L2 := [(9, .int ((9 : Int32) - (9 : Int32) / 32 * 32)), (8, .int ((9 : Int32) / 32)), (7, .int 9), (0, .ref b), (1, .ref (ad 0)), (5, .int x5), (6, .int x6)]) dL_law_88 (by decide) rfl ?_
          refine oz_iload X dL_law_90 1 rfl ?_
          refine oz_iconst X (v := 5) dL_law_92 (by decide) ?_
          refine oz_irem X dL_law_93 (by decide) ?_
          refine oz_istore X (L2 := [(10, .int (((9 : Int32) / 32) - ((9 : Int32) / 32) / 5 * 5)), (9, .int ((9 : Int32) - (9 : Int32) / 32 * 32)), (8, .int ((9 : Int32) / 32)), (7, .int 9), (0, .ref b), (1, .ref (ad 0)), (5, .int x5), (6, .int x6)]) dL_law_94 (by decide) rfl ?_
          refine oz_iload X dL_law_96 1 rfl ?_
          refine oz_iconst X (v := 3) dL_law_98 (by decide) ?_
          refine oz_icmp_ge X (tgt := 156) dL_law_99 (by decide) (fun q5 => ?_) (fun q5 => ?_)
          · refine oz_iload X dL_law_156 1 rfl ?_
            refine oz_iconst X (v := 3) dL_law_158 (by decide) ?_
            refine oz_icmp_ne X (tgt := 207) dL_law_159 (by decide) (fun q6 => ?_) (fun q6 => ?_)
            · refine oz_iload X dL_law_207 1 rfl ?_
              refine oz_bipush X (v := 9) dL_law_209 (by decide) ?_
              refine oz_icmp_ge X (tgt := 244) dL_law_211 (by decide) (fun q7 => ?_) (fun q7 => ?_)
              · refine oz_iload X dL_law_244 1 rfl ?_
                refine oz_bipush X (v := 9) dL_law_246 (by decide) ?_
                refine oz_icmp_ne X (tgt := 324) dL_law_248 (by decide) (fun q8 => ?_) (fun q8 => ?_)
                · exact oz_none X
                · refine oz_aload_n X dL_law_251 rfl 5 rfl ?_
                  refine oz_iload X dL_law_252 2 rfl ?_
                  refine oz_bipush X (v := 12) dL_law_254 (by decide) ?_
                  refine oz_irem X dL_law_256 (by decide) ?_
                  refine oz_callV X rfl (As := [.int (((9 : Int32) / 32) - ((9 : Int32) / 32) / 12 * 12)]) (S := []) (mX0_ageN l hst D cI cZ ad (((9 : Int32) / 32) - ((9 : Int32) / 32) / 12 * 12)) gL_law_X0_age rfl rfl rfl hX0_ageN ⟨by decide, by decide⟩ rfl rfl (Nat.le_of_ble_eq_true rfl) dL_law_257 (by omega) (by decide) (by decide) (fun r9 s9 => ?_)
                  refine oz_if_ge X (tgt := 269) dL_law_260 (by decide) (fun q10 => ?_) (fun q10 => ?_)
                  · exact oz_none X
                  · refine oz_sipush X (v := (-1213)) dL_law_263 (by decide) ?_
                    refine oz_goto X (tgt := 278) dL_law_266 (by decide) ?_
                    refine oz_istore X (L2 := [(11, .int (-1213)), (10, .int (((9 : Int32) / 32) - ((9 : Int32) / 32) / 5 * 5)), (9, .int ((9 : Int32) - (9 : Int32) / 32 * 32)), (8, .int ((9 : Int32) / 32)), (7, .int 9), (0, .ref b), (1, .ref (ad 0)), (5, .int x5), (6, .int x6)]) dL_law_278 (by decide) rfl ?_
                    refine oz_aload_n X dL_law_280 rfl 6 rfl ?_
                    refine oz_iconst X (v := 4) dL_law_281 (by decide) ?_
                    refine oz_iload X dL_law_282 3 rfl ?_
                    refine oz_bipush X (v := 12) dL_law_284 (by decide) ?_
                    refine oz_irem X dL_law_286 (by decide) ?_
                    refine oz_iconst X (v := 0) dL_law_287 (by decide) ?_
                    refine oz_callSX X rfl (As := [.ref (ad 0), .int 4, .int (((9 : Int32) / 32) - ((9 : Int32) / 32) / 12 * 12), .int 0]) (S := []) (mL_act l hst D cI cZ ad 4 (((9 : Int32) / 32) - ((9 : Int32) / 32) / 12 * 12) 0) gL_law_L_act rfl rfl rfl hL_act ⟨by decide, by decide⟩ rfl rfl (Nat.le_of_ble_eq_true rfl) dL_law_288 (by omega) (by decide) (by decide) (fun r11 s11 => ?_)
                    refine oz_iload X dL_law_291 0 rfl ?_
                    refine oz_icmp_ne X (tgt := 318) dL_law_293 (by decide) (fun q12 => ?_) (fun q12 => ?_)
                    · exact oz_none X
                    · refine oz_iload X dL_law_296 0 rfl ?_
                      refine oz_if_lt X (tgt := 314) dL_law_298 (by decide) (fun q13 => ?_) (fun q13 => ?_)
                      · refine oz_iconst X (v := 1) dL_law_314 (by decide) ?_
                        refine oz_goto X (tgt := 319) dL_law_315 (by decide) ?_
                        refine oz_istore X (L2 := [(5, .int 1), (11, .int (-1213)), (10, .int (((9 : Int32) / 32) - ((9 : Int32) / 32) / 5 * 5)), (9, .int ((9 : Int32) - (9 : Int32) / 32 * 32)), (8, .int ((9 : Int32) / 32)), (7, .int 9), (0, .ref b), (1, .ref (ad 0)), (6, .int x6)]) dL_law_319 (by decide) rfl ?_
                        refine oz_goto X (tgt := 566) dL_law_321 (by decide) ?_
                        refine oz_iload X dL_law_566 0 rfl ?_
                        refine oz_if_eq X (tgt := 608) dL_law_568 (by decide) (fun q14 => ?_) (fun q14 => ?_)
                        · exact oz_none X
                        · refine oz_iload X dL_law_571 8 rfl ?_
                          refine oz_iconst X (v := 2) dL_law_573 (by decide) ?_
                          refine oz_irem X dL_law_574 (by decide) ?_
                          refine oz_if_gt X (tgt := 585) dL_law_575 (by decide) (fun q15 => ?_) (fun q15 => ?_)
                          · refine oz_iload X dL_law_585 8 rfl ?_
                            refine oz_bipush X (v := 22) dL_law_587 (by decide) ?_
                            refine oz_irem X dL_law_589 (by decide) ?_
                            refine oz_if_gt X (tgt := 604) dL_law_590 (by decide) (fun q16 => ?_) (fun q16 => ?_)
                            · refine oz_iconst X (v := 1) dL_law_604 (by decide) ?_
                              refine oz_goto X (tgt := 609) dL_law_605 (by decide) ?_
                              refine oz_istore X (L2 := [(5, .int 1), (11, .int (-1213)), (10, .int (((9 : Int32) / 32) - ((9 : Int32) / 32) / 5 * 5)), (9, .int ((9 : Int32) - (9 : Int32) / 32 * 32)), (8, .int ((9 : Int32) / 32)), (7, .int 9), (0, .ref b), (1, .ref (ad 0)), (6, .int x6)]) dL_law_609 (by decide) rfl ?_
                              refine oz_iinc X (q := 8) (v := x6 + 1) (L2 := [(6, .int (x6 + 1)), (5, .int 1), (11, .int (-1213)), (10, .int (((9 : Int32) / 32) - ((9 : Int32) / 32) / 5 * 5)), (9, .int ((9 : Int32) - (9 : Int32) / 32 * 32)), (8, .int ((9 : Int32) / 32)), (7, .int 9), (0, .ref b), (1, .ref (ad 0))]) dL_law_611 rfl rfl (by decide) rfl ?_
                              refine oz_goto X (tgt := 56) dL_law_614 (by decide) ?_
                              exact oz_sub X [7, 8, 1, 0] (L2 := [(0, .ref b), (1, .ref (ad 0)), (5, .int 1), (6, .int (x6 + 1))]) rfl (ih _ (by omega) 1 (x6 + 1) s11)
                            · refine oz_aload_n X dL_law_593 rfl 7 rfl ?_
                              refine oz_iload X dL_law_594 5 rfl ?_
                              refine oz_iconst X (v := 3) dL_law_596 (by decide) ?_
                              refine oz_idiv X dL_law_597 (by decide) ?_
                              refine oz_callS X rfl (As := [.ref (ad 0), .int ((9 : Int32) / 3)]) (S := []) (mL_isRefused l hst D cI cZ ad ((9 : Int32) / 3)) gL_law_L_isRefused rfl rfl rfl hL_isRefused ⟨by decide, by decide⟩ rfl rfl (Nat.le_of_ble_eq_true rfl) dL_law_598 (by omega) (by decide) (by decide) (fun r17 s17 => ?_)
                              refine oz_if_eq X (tgt := 608) dL_law_601 (by decide) (fun q18 => ?_) (fun q18 => ?_)
                              · exact oz_none X
                              · refine oz_iconst X (v := 1) dL_law_604 (by decide) ?_
                                refine oz_goto X (tgt := 609) dL_law_605 (by decide) ?_
                                refine oz_istore X (L2 := [(5, .int 1), (11, .int (-1213)), (10, .int (((9 : Int32) / 32) - ((9 : Int32) / 32) / 5 * 5)), (9, .int ((9 : Int32) - (9 : Int32) / 32 * 32)), (8, .int ((9 : Int32) / 32)), (7, .int 9), (0, .ref b), (1, .ref (ad 0)), (6, .int x6)]) dL_law_609 (by decide) rfl ?_
                                refine oz_iinc X (q := 8) (v := x6 + 1) (L2 := [(6, .int (x6 + 1)), (5, .int 1), (11, .int (-1213)), (10, .int (((9 : Int32) / 32) - ((9 : Int32) / 32) / 5 * 5)), (9, .int ((9 : Int32) - (9 : Int32) / 32 * 32)), (8, .int ((9 : Int32) / 32)), (7, .int 9), (0, .ref b), (1, .ref (ad 0))]) dL_law_611 rfl rfl (by decide) rfl ?_
                                refine oz_goto X (tgt := 56) dL_law_614 (by decide) ?_
                                exact oz_sub X [7, 8, 1, 0] (L2 := [(0, .ref b), (1, .ref (ad 0)), (5, .int 1), (6, .int (x6 + 1))]) rfl (ih _ (by omega) 1 (x6 + 1) s17)
                          · refine oz_aload_n X dL_law_578 rfl 7 rfl ?_
                            refine oz_callS X rfl (As := [.ref (ad 0)]) (S := []) (mL_areFrames l hst D cI cZ ad) gL_law_L_areFrames rfl rfl rfl hL_areFrames ⟨by decide, by decide⟩ rfl rfl (Nat.le_of_ble_eq_true rfl) dL_law_579 (by omega) (by decide) (by decide) (fun r19 s19 => ?_)
                            refine oz_if_eq X (tgt := 608) dL_law_582 (by decide) (fun q20 => ?_) (fun q20 => ?_)
                            · exact oz_none X
                            · refine oz_iload X dL_law_585 8 rfl ?_
                              refine oz_bipush X (v := 22) dL_law_587 (by decide) ?_
                              refine oz_irem X dL_law_589 (by decide) ?_
                              refine oz_if_gt X (tgt := 604) dL_law_590 (by decide) (fun q21 => ?_) (fun q21 => ?_)
                              · refine oz_iconst X (v := 1) dL_law_604 (by decide) ?_
                                refine oz_goto X (tgt := 609) dL_law_605 (by decide) ?_
                                refine oz_istore X (L2 := [(5, .int 1), (11, .int (-1213)), (10, .int (((9 : Int32) / 32) - ((9 : Int32) / 32) / 5 * 5)), (9, .int ((9 : Int32) - (9 : Int32) / 32 * 32)), (8, .int ((9 : Int32) / 32)), (7, .int 9), (0, .ref b), (1, .ref (ad 0)), (6, .int x6)]) dL_law_609 (by decide) rfl ?_
                                refine oz_iinc X (q := 8) (v := x6 + 1) (L2 := [(6, .int (x6 + 1)), (5, .int 1), (11, .int (-1213)), (10, .int (((9 : Int32) / 32) - ((9 : Int32) / 32) / 5 * 5)), (9, .int ((9 : Int32) - (9 : Int32) / 32 * 32)), (8, .int ((9 : Int32) / 32)), (7, .int 9), (0, .ref b), (1, .ref (ad 0))]) dL_law_611 rfl rfl (by decide) rfl ?_
                                refine oz_goto X (tgt := 56) dL_law_614 (by decide) ?_
                                exact oz_sub X [7, 8, 1, 0] (L2 := [(0, .ref b), (1, .ref (ad 0)), (5, .int 1), (6, .int (x6 + 1))]) rfl (ih _ (by omega) 1 (x6 + 1) s19)
                              · refine oz_aload_n X dL_law_593 rfl 7 rfl ?_
                                refine oz_iload X dL_law_594 5 rfl ?_
                                refine oz_iconst X (v := 3) dL_law_596 (by decide) ?_
                                refine oz_idiv X dL_law_597 (by decide) ?_
                                refine oz_callS X rfl (As := [.ref (ad 0), .int ((9 : Int32) / 3)]) (S := []) (mL_isRefused l hst D cI cZ ad ((9 : Int32) / 3)) gL_law_L_isRefused rfl rfl rfl hL_isRefused ⟨by decide, by decide⟩ rfl rfl (Nat.le_of_ble_eq_true rfl) dL_law_598 (by omega) (by decide) (by decide) (fun r22 s22 => ?_)
                                refine oz_if_eq X (tgt := 608) dL_law_601 (by decide) (fun q23 => ?_) (fun q23 => ?_)
                                · exact oz_none X
                                · refine oz_iconst X (v := 1) dL_law_604 (by decide) ?_
                                  refine oz_goto X (tgt := 609) dL_law_605 (by decide) ?_
                                  refine oz_istore X (L2 := [(5, .int 1), (11, .int (-1213)), (10, .int (((9 : Int32) / 32) - ((9 : Int32) / 32) / 5 * 5)), (9, .int ((9 : Int32) - (9 : Int32) / 32 * 32)), (8, .int ((9 : Int32) / 32)), (7, .int 9), (0, .ref b), (1, .ref (ad 0)), (6, .int x6)]) dL_law_609 (by decide) rfl ?_
                                  refine oz_iinc X (q := 8) (v := x6 + 1) (L2 := [(6, .int (x6 + 1)), (5, .int 1), (11, .int (-1213)), (10, .int (((9 : Int32) / 32) - ((9 : Int32) / 32) / 5 * 5)), (9, .int ((9 : Int32) - (9 : Int32) / 32 * 32)), (8, .int ((9 : Int32) / 32)), (7, .int 9), (0, .ref b), (1, .ref (ad 0))]) dL_law_611 rfl rfl (by decide) rfl ?_
                                  refine oz_goto X (tgt := 56) dL_law_614 (by decide) ?_
                                  exact oz_sub X [7, 8, 1, 0] (L2 := [(0, .ref b), (1, .ref (ad 0)), (5, .int 1), (6, .int (x6 + 1))]) rfl (ih _ (by omega) 1 (x6 + 1) s22)
                      · exact oz_none X
              · exact oz_none X
            · exact oz_none X
          · exact oz_none X
  unfold FL_law
  refine oz_aload_n X dL_law_21 rfl 0 rfl ?_
  refine oz_iconst X (v := 0) dL_law_22 (by decide) ?_
  refine oz_callS X rfl (As := [.ref (ad 0), .int 0]) (S := []) (mL_isRefused l hst D cI cZ ad 0) gL_law_L_isRefused rfl rfl rfl hL_isRefused ⟨by decide, by decide⟩ rfl rfl (Nat.le_of_ble_eq_true rfl) dL_law_23 (by omega) (by decide) (by decide) (fun r24 s24 => ?_)
  refine oz_if_eq X (tgt := 50) dL_law_26 (by decide) (fun q25 => ?_) (fun q25 => ?_)
  · exact oz_none X
  · refine oz_aload_n X dL_law_29 rfl 0 rfl ?_
    refine oz_iconst X (v := 1) dL_law_30 (by decide) ?_
    refine oz_callS X rfl (As := [.ref (ad 0), .int 1]) (S := []) (mL_isRefused l hst D cI cZ ad 1) gL_law_L_isRefused rfl rfl rfl hL_isRefused ⟨by decide, by decide⟩ rfl rfl (Nat.le_of_ble_eq_true rfl) dL_law_31 (by omega) (by decide) (by decide) (fun r26 s26 => ?_)
    refine oz_if_eq X (tgt := 50) dL_law_34 (by decide) (fun q27 => ?_) (fun q27 => ?_)
    · exact oz_none X
    · refine oz_aload_n X dL_law_37 rfl 0 rfl ?_
      refine oz_callV X rfl (As := []) (S := []) (mX0_freeN l hst D cI cZ ad) gL_law_X0_free rfl rfl rfl hX0_freeN ⟨by decide, by decide⟩ rfl rfl (Nat.le_of_ble_eq_true rfl) dL_law_38 (by omega) (by decide) (by decide) (fun r28 s28 => ?_)
      refine oz_bipush X (v := 12) dL_law_41 (by decide) ?_
      refine oz_icmp_ne X (tgt := 50) dL_law_43 (by decide) (fun q29 => ?_) (fun q29 => ?_)
      · exact oz_none X
      · refine oz_iconst X (v := 1) dL_law_46 (by decide) ?_
        refine oz_goto X (tgt := 51) dL_law_47 (by decide) ?_
        refine oz_istore X (L2 := [(5, .int 1), (1, .ref (ad 0)), (0, .ref b)]) dL_law_51 (by decide) rfl ?_
        refine oz_iconst X (v := 0) dL_law_53 (by decide) ?_
        refine oz_istore X (L2 := [(6, .int 0), (5, .int 1), (1, .ref (ad 0)), (0, .ref b)]) dL_law_54 (by decide) rfl ?_
        exact oz_sub X [3, 2, 1, 0] (L2 := [(0, .ref b), (1, .ref (ad 0)), (5, .int 1), (6, .int 0)]) rfl (hc56 111 _ (by omega) 1 0 s28)

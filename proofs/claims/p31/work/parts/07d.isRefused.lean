/-! AlmsKernelLaw.isRefused -/
def FL_isRefused_w511 : Nat → Int64 → Int32 → Int32 → Int32 → Option RC
  | 0, _, _, _, _ => none
  | n + 1, x6, x8, x9, st => (if 5 ≤ x9 then bnd (FX0_loansN st) (fun r3 s3 => (if r3 ≤ 0 then (if x8 = 0 then none else bndL (FL_all s3) (fun r6 s6 => (if lg_cmp r6 x6 = 0 then some (0, 1, s6) else none))) else none)) else (if x8 = 0 then none else bnd (FX0_stateOfN x9 st) (fun r9 s9 => (if r9 = 2 then none else bnd (FX0_purseN x9 s9) (fun r11 s11 => (if r11 < 8 then none else bnd (FX0_freeN s11) (fun r13 s13 => (if r13 ≤ 0 then none else (if (1 : Int32) = 0 then none else bnd (FX0_stateOfN x9 s13) (fun r16 s16 => (if r16 = 0 then (FL_isRefused_w511 n x6 1 (x9 + 1) s16) else none)))))))))))
def FL_isRefused_w387 : Nat → Int64 → Int32 → Int32 → Int32 → Option RC
  | 0, _, _, _, _ => none
  | n + 1, x6, x8, x9, st => (if 12 ≤ x9 then (FL_isRefused_w511 62 x6 x8 0 st) else (if x8 = 0 then none else bnd (FX0_ownerN x9 st) (fun r21 s21 => (if r21 < 0 then (if (0 : Int32) = 0 then bnd (FL_act 3 x9 0 s21) (fun r24 s24 => (if r24 = (-1213) then bnd (FX0_ageN x9 s24) (fun r26 s26 => (if 0 ≤ r26 then none else bnd (FL_act 4 x9 0 s26) (fun r28 s28 => (if r28 = (-1213) then (FL_isRefused_w387 n x6 1 (x9 + 1) s28) else none)))) else none)) else none) else none))))
def FL_isRefused_w323 : Nat → Int32 → Int32 → Int32 → Int64 → Int32 → Int32 → Int32 → Option RC
  | 0, _, _, _, _, _, _, _ => none
  | n + 1, x3, x4, x5, x6, x8, x9, st => (if 14 ≤ x9 then (FL_isRefused_w387 13 x6 x8 0 st) else (if x8 = 0 then none else (if 5 ≤ x9 then (if 11 ≤ x9 then bnd (FL_of x9 x5 st) (fun r35 s35 => (if r35 = (-1211) then (FL_isRefused_w323 n x3 x4 x5 x6 1 (x9 + 1) s35) else none)) else bnd (FL_of x9 x3 st) (fun r37 s37 => (if r37 = (-1211) then (FL_isRefused_w323 n x3 x4 x5 x6 1 (x9 + 1) s37) else none))) else bnd (FL_of x9 x4 st) (fun r39 s39 => (if r39 = (-1211) then (FL_isRefused_w323 n x3 x4 x5 x6 1 (x9 + 1) s39) else none)))))
def FL_isRefused_j285 (x1 : Int32) (x3 : Int32) (x4 : Int32) (x5 : Int32) (x6 : Int64) (y0 : Int32) (y1 : Int32) (st : Int32) : Option RC := bnd (FL_act y1 y0 0 st) (fun r42 s42 => (if r42 = (-1212) then bnd (FL_of 14 ((-1) - (x1 - x1 / 30 * 30)) s42) (fun r44 s44 => (if r44 = (-1211) then (FL_isRefused_w323 15 x3 x4 x5 x6 1 0 s44) else none)) else none))
def FL_isRefused_j237 (x1 : Int32) (x2 : Int32) (x3 : Int32) (x4 : Int32) (x5 : Int32) (x6 : Int64) (y0 : Int32) (y1 : Int32) (y2 : Int32) (st : Int32) : Option RC := bnd (FL_act y2 y1 y0 st) (fun r47 s47 => (if r47 = (-1211) then bnd (FL_act 6 x5 0 s47) (fun r49 s49 => (if r49 = (-1211) then (if x2 = 0 then (FL_isRefused_j285 x1 x3 x4 x5 x6 (201 + (x1 - x1 / 30 * 30)) 7 s49) else (FL_isRefused_j285 x1 x3 x4 x5 x6 (0 - (x1 - x1 / 30 * 30)) 7 s49)) else none)) else none))
def FL_isRefused_j148 (x1 : Int32) (x2 : Int32) (x3 : Int32) (x4 : Int32) (x5 : Int32) (x6 : Int64) (y0 : Int32) (y1 : Int32) (st : Int32) : Option RC := bnd (FL_act y1 y0 0 st) (fun r53 s53 => (if r53 = (-1212) then bnd (FL_act 2 x3 0 s53) (fun r55 s55 => (if r55 = (-1211) then bnd (FL_act 3 x4 0 s55) (fun r57 s57 => (if r57 = (-1211) then bnd (FL_act 4 x4 0 s57) (fun r59 s59 => (if r59 = (-1211) then bnd (FL_act 5 x3 0 s59) (fun r61 s61 => (if r61 = (-1211) then (if x2 = 0 then (FL_isRefused_j237 x1 x2 x3 x4 x5 x6 (8 + (x1 - x1 / 30 * 30)) (x1 - x1 / 5 * 5) 5 s61) else (FL_isRefused_j237 x1 x2 x3 x4 x5 x6 ((-1) - (x1 - x1 / 30 * 30)) (x1 - x1 / 5 * 5) 5 s61)) else none)) else none)) else none)) else none)) else none))
def FL_isRefused_j117 (x1 : Int32) (x2 : Int32) (x3 : Int32) (x4 : Int32) (x5 : Int32) (x6 : Int64) (y0 : Int32) (y1 : Int32) (y2 : Int32) (st : Int32) : Option RC := bnd (FL_act y2 y1 y0 st) (fun r65 s65 => (if r65 = (-1212) then (if x2 = 0 then (FL_isRefused_j148 x1 x2 x3 x4 x5 x6 (10 + (x1 - x1 / 30 * 30)) 1 s65) else (FL_isRefused_j148 x1 x2 x3 x4 x5 x6 ((-1) - (x1 - x1 / 30 * 30)) 1 s65)) else none))
def FL_isRefused_j76 (x1 : Int32) (x2 : Int32) (x3 : Int32) (x4 : Int32) (y0 : Int32) (st : Int32) : Option RC := bndL (FL_all st) (fun r69 s69 => bnd (FL_act 0 x3 (-1) s69) (fun r70 s70 => (if r70 = (-1211) then (if x2 = 0 then (FL_isRefused_j117 x1 x2 x3 x4 y0 r69 10 (x1 - x1 / 5 * 5) 0 s70) else (FL_isRefused_j117 x1 x2 x3 x4 y0 r69 ((-1) - (x1 - x1 / 30 * 30)) (x1 - x1 / 5 * 5) 0 s70)) else none)))
def FL_isRefused_j52 (x1 : Int32) (x2 : Int32) (x3 : Int32) (y0 : Int32) (st : Int32) : Option RC := (if x2 = 0 then bnd (FX0_loansN st) (fun r75 s75 => (FL_isRefused_j76 x1 x2 x3 y0 (r75 + (x1 - x1 / 30 * 30)) s75)) else (FL_isRefused_j76 x1 x2 x3 y0 ((-1) - (x1 - x1 / 30 * 30)) st))
def FL_isRefused_j31 (x1 : Int32) (x2 : Int32) (y0 : Int32) (st : Int32) : Option RC := (if x2 = 0 then (FL_isRefused_j52 x1 x2 y0 (12 + (x1 - x1 / 30 * 30)) st) else (FL_isRefused_j52 x1 x2 y0 ((-1) - (x1 - x1 / 30 * 30)) st))
def FL_isRefused_j11 (x1 : Int32) (y0 : Int32) (st : Int32) : Option RC := (if y0 = 0 then (FL_isRefused_j31 x1 y0 (5 + (x1 - x1 / 30 * 30)) st) else (FL_isRefused_j31 x1 y0 ((-1) - (x1 - x1 / 30 * 30)) st))
def FL_isRefused (a1 : Int32) (st : Int32) : Option RC := (if (a1 - a1 / 2 * 2) = 0 then (FL_isRefused_j11 a1 1 st) else (FL_isRefused_j11 a1 0 st))
def rmL_isRefused : Room := { frames := 8, cells := 52, slots := 312, locals := 134 }
theorem hL_isRefused : yL_isRefused.cls ≠ "java/lang/invoke/MethodHandle" ∧ yL_isRefused.cls ≠ "java/lang/invoke/VarHandle" ∧ (parseMethodDescriptor yL_isRefused.desc).map (fun d => d.parameters.length) = some 2 := by decide +kernel
set_option maxHeartbeats 4000000 in
set_option maxRecDepth 100000 in
theorem mL_isRefused (l : Launch) (hst : l.stackTraces = false) (D : va_G) (cI cZ : ClassId) (ad : Nat → Nat) (a1 : Int32) : oz_MI l yL_isRefused wsL_isRefused rmL_isRefused D cI cZ RX0 0 oz_KSX0 ad oz_lyX0 52 [.ref (ad 0), .int a1] (FL_isRefused a1) := by
  refine oz_ofI (wn := RL) (bytes := cL_isRefused) (maxL := 12) (ret := (some .boolean)) (T := TX0) (N := 19) (by decide) rfl rfl oz_CX0 hst (Nat.le_of_ble_eq_true rfl) ?_
  intro p e s m below meth c st A res G hr X
  have hc511 : ∀ (n k : Nat), k ≤ 52 → ∀ (x6 : Int64) (x8 : Int32) (x9 : Int32) (st : Int32), G k 511 [(0, .ref (ad 0)), (6, .long x6), (8, .int x8), (9, .int x9)] [] st (FL_isRefused_w511 n x6 x8 x9 st) := by
    intro n
    induction n with
    | zero => intros; exact oz_none X
    | succ n ih =>
      intro k hk x6 x8 x9 st
      rw [FL_isRefused_w511]
      refine oz_iload X dL_isRefused_511 3 rfl ?_
      refine oz_iconst X (v := 5) dL_isRefused_513 (by decide) ?_
      refine oz_icmp_ge X (tgt := 617) dL_isRefused_514 (by decide) (fun q2 => ?_) (fun q2 => ?_)
      · refine oz_iconst X (v := 0) dL_isRefused_617 (by decide) ?_
        refine oz_istore X (L2 := [(9, .int 0), (0, .ref (ad 0)), (6, .long x6), (8, .int x8)]) dL_isRefused_618 (by decide) rfl ?_
        refine oz_iload X dL_isRefused_620 0 rfl ?_
        refine oz_aload_n X dL_isRefused_622 rfl 1 rfl ?_
        refine oz_callV X rfl (As := []) (S := [.int 0]) (mX0_loansN l hst D cI cZ ad) gL_isRefused_X0_loans rfl rfl rfl hX0_loansN ⟨by decide, by decide⟩ rfl rfl (Nat.le_of_ble_eq_true rfl) dL_isRefused_623 (by omega) (by decide) (by decide) (fun r3 s3 => ?_)
        refine oz_icmp_ge X (tgt := 712) dL_isRefused_626 (by decide) (fun q4 => ?_) (fun q4 => ?_)
        · refine oz_iload X dL_isRefused_712 3 rfl ?_
          refine oz_if_eq X (tgt := 731) dL_isRefused_714 (by decide) (fun q5 => ?_) (fun q5 => ?_)
          · exact oz_none X
          · refine oz_aload_n X dL_isRefused_717 rfl 1 rfl ?_
            refine oz_callSL X rfl (As := [.ref (ad 0)]) (S := []) (mL_all l hst D cI cZ ad) gL_isRefused_L_all rfl rfl rfl hL_all ⟨by decide, by decide⟩ rfl rfl (Nat.le_of_ble_eq_true rfl) dL_isRefused_718 (by omega) (by decide) (by decide) (fun r6 s6 => ?_)
            refine oz_lload X dL_isRefused_721 2 rfl ?_
            refine oz_lcmp X dL_isRefused_723 ?_
            refine oz_if_ne X (tgt := 731) dL_isRefused_724 (by decide) (fun q7 => ?_) (fun q7 => ?_)
            · exact oz_none X
            · refine oz_iconst X (v := 1) dL_isRefused_727 (by decide) ?_
              refine oz_goto X (tgt := 732) dL_isRefused_728 (by decide) ?_
              exact oz_zret X rfl hr rfl (by omega) dL_isRefused_732
        · exact oz_none X
      · refine oz_iload X dL_isRefused_517 2 rfl ?_
        refine oz_if_eq X (tgt := 617) dL_isRefused_519 (by decide) (fun q8 => ?_) (fun q8 => ?_)
        · exact oz_none X
        · refine oz_aload_n X dL_isRefused_522 rfl 0 rfl ?_
          refine oz_iload X dL_isRefused_523 3 rfl ?_
          refine oz_callV X rfl (As := [.int x9]) (S := []) (mX0_stateOfN l hst D cI cZ ad x9) gL_isRefused_X0_stateOf rfl rfl rfl hX0_stateOfN ⟨by decide, by decide⟩ rfl rfl (Nat.le_of_ble_eq_true rfl) dL_isRefused_525 (by omega) (by decide) (by decide) (fun r9 s9 => ?_)
          refine oz_iconst X (v := 2) dL_isRefused_528 (by decide) ?_
          refine oz_icmp_eq X (tgt := 554) dL_isRefused_529 (by decide) (fun q10 => ?_) (fun q10 => ?_)
          · exact oz_none X
          · refine oz_aload_n X dL_isRefused_532 rfl 0 rfl ?_
            refine oz_iload X dL_isRefused_533 3 rfl ?_
            refine oz_callV X rfl (As := [.int x9]) (S := []) (mX0_purseN l hst D cI cZ ad x9) gL_isRefused_X0_purse rfl rfl rfl hX0_purseN ⟨by decide, by decide⟩ rfl rfl (Nat.le_of_ble_eq_true rfl) dL_isRefused_535 (by omega) (by decide) (by decide) (fun r11 s11 => ?_)
            refine oz_bipush X (v := 8) dL_isRefused_538 (by decide) ?_
            refine oz_icmp_lt X (tgt := 554) dL_isRefused_540 (by decide) (fun q12 => ?_) (fun q12 => ?_)
            · exact oz_none X
            · refine oz_aload_n X dL_isRefused_543 rfl 0 rfl ?_
              refine oz_callV X rfl (As := []) (S := []) (mX0_freeN l hst D cI cZ ad) gL_isRefused_X0_free rfl rfl rfl hX0_freeN ⟨by decide, by decide⟩ rfl rfl (Nat.le_of_ble_eq_true rfl) dL_isRefused_544 (by omega) (by decide) (by decide) (fun r13 s13 => ?_)
              refine oz_if_le X (tgt := 554) dL_isRefused_547 (by decide) (fun q14 => ?_) (fun q14 => ?_)
              · exact oz_none X
              · refine oz_iconst X (v := 1) dL_isRefused_550 (by decide) ?_
                refine oz_goto X (tgt := 555) dL_isRefused_551 (by decide) ?_
                refine oz_istore X (L2 := [(10, .int 1), (0, .ref (ad 0)), (6, .long x6), (8, .int x8), (9, .int x9)]) dL_isRefused_555 (by decide) rfl ?_
                refine oz_iload X dL_isRefused_557 0 rfl ?_
                refine oz_if_ne X (tgt := 576) dL_isRefused_559 (by decide) (fun q15 => ?_) (fun q15 => ?_)
                · refine oz_aload_n X dL_isRefused_576 rfl 1 rfl ?_
                  refine oz_iload X dL_isRefused_577 4 rfl ?_
                  refine oz_callV X rfl (As := [.int x9]) (S := []) (mX0_stateOfN l hst D cI cZ ad x9) gL_isRefused_X0_stateOf rfl rfl rfl hX0_stateOfN ⟨by decide, by decide⟩ rfl rfl (Nat.le_of_ble_eq_true rfl) dL_isRefused_579 (by omega) (by decide) (by decide) (fun r16 s16 => ?_)
                  refine oz_if_eq X (tgt := 604) dL_isRefused_582 (by decide) (fun q17 => ?_) (fun q17 => ?_)
                  · refine oz_iconst X (v := 1) dL_isRefused_604 (by decide) ?_
                    refine oz_goto X (tgt := 609) dL_isRefused_605 (by decide) ?_
                    refine oz_istore X (L2 := [(8, .int 1), (10, .int 1), (0, .ref (ad 0)), (6, .long x6), (9, .int x9)]) dL_isRefused_609 (by decide) rfl ?_
                    refine oz_iinc X (q := 4) (v := x9 + 1) (L2 := [(9, .int (x9 + 1)), (8, .int 1), (10, .int 1), (0, .ref (ad 0)), (6, .long x6)]) dL_isRefused_611 rfl rfl (by decide) rfl ?_
                    refine oz_goto X (tgt := 511) dL_isRefused_614 (by decide) ?_
                    exact oz_sub X [3, 4, 1, 0] (L2 := [(0, .ref (ad 0)), (6, .long x6), (8, .int 1), (9, .int (x9 + 1))]) rfl (ih _ (by omega) x6 1 (x9 + 1) s16)
                  · exact oz_none X
                · exact oz_none X
  have hc387 : ∀ (n k : Nat), k + 2 * n ≤ 52 → ∀ (x6 : Int64) (x8 : Int32) (x9 : Int32) (st : Int32), G k 387 [(0, .ref (ad 0)), (6, .long x6), (8, .int x8), (9, .int x9)] [] st (FL_isRefused_w387 n x6 x8 x9 st) := by
    intro n
    induction n with
    | zero => intros; exact oz_none X
    | succ n ih =>
      intro k hk x6 x8 x9 st
      rw [FL_isRefused_w387]
      refine oz_iload X dL_isRefused_387 3 rfl ?_
      refine oz_bipush X (v := 12) dL_isRefused_389 (by decide) ?_
      refine oz_icmp_ge X (tgt := 508) dL_isRefused_391 (by decide) (fun q19 => ?_) (fun q19 => ?_)
      · refine oz_iconst X (v := 0) dL_isRefused_508 (by decide) ?_
        refine oz_istore X (L2 := [(9, .int 0), (0, .ref (ad 0)), (6, .long x6), (8, .int x8)]) dL_isRefused_509 (by decide) rfl ?_
        exact oz_sub X [1, 2, 3, 0] (L2 := [(0, .ref (ad 0)), (6, .long x6), (8, .int x8), (9, .int 0)]) rfl (hc511 62 _ (by omega) x6 x8 0 st)
      · refine oz_iload X dL_isRefused_394 2 rfl ?_
        refine oz_if_eq X (tgt := 508) dL_isRefused_396 (by decide) (fun q20 => ?_) (fun q20 => ?_)
        · exact oz_none X
        · refine oz_aload_n X dL_isRefused_399 rfl 0 rfl ?_
          refine oz_iload X dL_isRefused_400 3 rfl ?_
          refine oz_callV X rfl (As := [.int x9]) (S := []) (mX0_ownerN l hst D cI cZ ad x9) gL_isRefused_X0_owner rfl rfl rfl hX0_ownerN ⟨by decide, by decide⟩ rfl rfl (Nat.le_of_ble_eq_true rfl) dL_isRefused_402 (by omega) (by decide) (by decide) (fun r21 s21 => ?_)
          refine oz_if_lt X (tgt := 450) dL_isRefused_405 (by decide) (fun q22 => ?_) (fun q22 => ?_)
          · refine oz_iconst X (v := 0) dL_isRefused_450 (by decide) ?_
            refine oz_istore X (L2 := [(10, .int 0), (0, .ref (ad 0)), (6, .long x6), (8, .int x8), (9, .int x9)]) dL_isRefused_451 (by decide) rfl ?_
            refine oz_iload X dL_isRefused_453 0 rfl ?_
            refine oz_if_ne X (tgt := 472) dL_isRefused_455 (by decide) (fun q23 => ?_) (fun q23 => ?_)
            · exact oz_none X
            · refine oz_aload_n X dL_isRefused_458 rfl 1 rfl ?_
              refine oz_iconst X (v := 3) dL_isRefused_459 (by decide) ?_
              refine oz_iload X dL_isRefused_460 4 rfl ?_
              refine oz_iconst X (v := 0) dL_isRefused_462 (by decide) ?_
              refine oz_callSX X rfl (As := [.ref (ad 0), .int 3, .int x9, .int 0]) (S := []) (mL_act l hst D cI cZ ad 3 x9 0) gL_isRefused_L_act rfl rfl rfl hL_act ⟨by decide, by decide⟩ rfl rfl (Nat.le_of_ble_eq_true rfl) dL_isRefused_463 (by omega) (by decide) (by decide) (fun r24 s24 => ?_)
              refine oz_sipush X (v := (-1213)) dL_isRefused_466 (by decide) ?_
              refine oz_icmp_ne X (tgt := 499) dL_isRefused_469 (by decide) (fun q25 => ?_) (fun q25 => ?_)
              · exact oz_none X
              · refine oz_aload_n X dL_isRefused_472 rfl 1 rfl ?_
                refine oz_iload X dL_isRefused_473 4 rfl ?_
                refine oz_callV X rfl (As := [.int x9]) (S := []) (mX0_ageN l hst D cI cZ ad x9) gL_isRefused_X0_age rfl rfl rfl hX0_ageN ⟨by decide, by decide⟩ rfl rfl (Nat.le_of_ble_eq_true rfl) dL_isRefused_475 (by omega) (by decide) (by decide) (fun r26 s26 => ?_)
                refine oz_if_ge X (tgt := 495) dL_isRefused_478 (by decide) (fun q27 => ?_) (fun q27 => ?_)
                · exact oz_none X
                · refine oz_aload_n X dL_isRefused_481 rfl 1 rfl ?_
                  refine oz_iconst X (v := 4) dL_isRefused_482 (by decide) ?_
                  refine oz_iload X dL_isRefused_483 4 rfl ?_
                  refine oz_iconst X (v := 0) dL_isRefused_485 (by decide) ?_
                  refine oz_callSX X rfl (As := [.ref (ad 0), .int 4, .int x9, .int 0]) (S := []) (mL_act l hst D cI cZ ad 4 x9 0) gL_isRefused_L_act rfl rfl rfl hL_act ⟨by decide, by decide⟩ rfl rfl (Nat.le_of_ble_eq_true rfl) dL_isRefused_486 (by omega) (by decide) (by decide) (fun r28 s28 => ?_)
                  refine oz_sipush X (v := (-1213)) dL_isRefused_489 (by decide) ?_
                  refine oz_icmp_ne X (tgt := 499) dL_isRefused_492 (by decide) (fun q29 => ?_) (fun q29 => ?_)
                  · exact oz_none X
                  · refine oz_iconst X (v := 1) dL_isRefused_495 (by decide) ?_
                    refine oz_goto X (tgt := 500) dL_isRefused_496 (by decide) ?_
                    refine oz_istore X (L2 := [(8, .int 1), (10, .int 0), (0, .ref (ad 0)), (6, .long x6), (9, .int x9)]) dL_isRefused_500 (by decide) rfl ?_
                    refine oz_iinc X (q := 4) (v := x9 + 1) (L2 := [(9, .int (x9 + 1)), (8, .int 1), (10, .int 0), (0, .ref (ad 0)), (6, .long x6)]) dL_isRefused_502 rfl rfl (by decide) rfl ?_
                    refine oz_goto X (tgt := 387) dL_isRefused_505 (by decide) ?_
                    exact oz_sub X [3, 4, 1, 0] (L2 := [(0, .ref (ad 0)), (6, .long x6), (8, .int 1), (9, .int (x9 + 1))]) rfl (ih _ (by omega) x6 1 (x9 + 1) s28)
          · exact oz_none X
  have hc323 : ∀ (n k : Nat), k + 1 * n ≤ 26 → ∀ (x3 : Int32) (x4 : Int32) (x5 : Int32) (x6 : Int64) (x8 : Int32) (x9 : Int32) (st : Int32), G k 323 [(0, .ref (ad 0)), (3, .int x3), (4, .int x4), (5, .int x5), (6, .long x6), (8, .int x8), (9, .int x9)] [] st (FL_isRefused_w323 n x3 x4 x5 x6 x8 x9 st) := by
    intro n
    induction n with
    | zero => intros; exact oz_none X
    | succ n ih =>
      intro k hk x3 x4 x5 x6 x8 x9 st
      rw [FL_isRefused_w323]
      refine oz_iload X dL_isRefused_323 6 rfl ?_
      refine oz_bipush X (v := 14) dL_isRefused_325 (by decide) ?_
      refine oz_icmp_ge X (tgt := 384) dL_isRefused_327 (by decide) (fun q31 => ?_) (fun q31 => ?_)
      · refine oz_iconst X (v := 0) dL_isRefused_384 (by decide) ?_
        refine oz_istore X (L2 := [(9, .int 0), (0, .ref (ad 0)), (3, .int x3), (4, .int x4), (5, .int x5), (6, .long x6), (8, .int x8)]) dL_isRefused_385 (by decide) rfl ?_
        exact oz_sub X [1, 5, 6, 0] (L2 := [(0, .ref (ad 0)), (6, .long x6), (8, .int x8), (9, .int 0)]) rfl (hc387 13 _ (by omega) x6 x8 0 st)
      · refine oz_iload X dL_isRefused_330 5 rfl ?_
        refine oz_if_eq X (tgt := 384) dL_isRefused_332 (by decide) (fun q32 => ?_) (fun q32 => ?_)
        · exact oz_none X
        · refine oz_aload_n X dL_isRefused_335 rfl 0 rfl ?_
          refine oz_iload X dL_isRefused_336 6 rfl ?_
          refine oz_iload X dL_isRefused_338 6 rfl ?_
          refine oz_iconst X (v := 5) dL_isRefused_340 (by decide) ?_
          refine oz_icmp_ge X (tgt := 349) dL_isRefused_341 (by decide) (fun q33 => ?_) (fun q33 => ?_)
          · refine oz_iload X dL_isRefused_349 6 rfl ?_
            refine oz_bipush X (v := 11) dL_isRefused_351 (by decide) ?_
            refine oz_icmp_ge X (tgt := 360) dL_isRefused_353 (by decide) (fun q34 => ?_) (fun q34 => ?_)
            · refine oz_iload X dL_isRefused_360 3 rfl ?_
              refine oz_callSX X rfl (As := [.ref (ad 0), .int x9, .int x5]) (S := []) (mL_of l hst D cI cZ ad x9 x5) gL_isRefused_L_of rfl rfl rfl hL_of ⟨by decide, by decide⟩ rfl rfl (Nat.le_of_ble_eq_true rfl) dL_isRefused_362 (by omega) (by decide) (by decide) (fun r35 s35 => ?_)
              refine oz_sipush X (v := (-1211)) dL_isRefused_365 (by decide) ?_
              refine oz_icmp_ne X (tgt := 375) dL_isRefused_368 (by decide) (fun q36 => ?_) (fun q36 => ?_)
              · exact oz_none X
              · refine oz_iconst X (v := 1) dL_isRefused_371 (by decide) ?_
                refine oz_goto X (tgt := 376) dL_isRefused_372 (by decide) ?_
                refine oz_istore X (L2 := [(8, .int 1), (0, .ref (ad 0)), (3, .int x3), (4, .int x4), (5, .int x5), (6, .long x6), (9, .int x9)]) dL_isRefused_376 (by decide) rfl ?_
                refine oz_iinc X (q := 6) (v := x9 + 1) (L2 := [(9, .int (x9 + 1)), (8, .int 1), (0, .ref (ad 0)), (3, .int x3), (4, .int x4), (5, .int x5), (6, .long x6)]) dL_isRefused_378 rfl rfl (by decide) rfl ?_
                refine oz_goto X (tgt := 323) dL_isRefused_381 (by decide) ?_
                exact oz_sub X [2, 3, 4, 5, 6, 1, 0] (L2 := [(0, .ref (ad 0)), (3, .int x3), (4, .int x4), (5, .int x5), (6, .long x6), (8, .int 1), (9, .int (x9 + 1))]) rfl (ih _ (by omega) x3 x4 x5 x6 1 (x9 + 1) s35)
            · refine oz_iload_n X dL_isRefused_356 rfl 1 rfl ?_
              refine oz_goto X (tgt := 362) dL_isRefused_357 (by decide) ?_
              refine oz_callSX X rfl (As := [.ref (ad 0), .int x9, .int x3]) (S := []) (mL_of l hst D cI cZ ad x9 x3) gL_isRefused_L_of rfl rfl rfl hL_of ⟨by decide, by decide⟩ rfl rfl (Nat.le_of_ble_eq_true rfl) dL_isRefused_362 (by omega) (by decide) (by decide) (fun r37 s37 => ?_)
              refine oz_sipush X (v := (-1211)) dL_isRefused_365 (by decide) ?_
              refine oz_icmp_ne X (tgt := 375) dL_isRefused_368 (by decide) (fun q38 => ?_) (fun q38 => ?_)
              · exact oz_none X
              · refine oz_iconst X (v := 1) dL_isRefused_371 (by decide) ?_
                refine oz_goto X (tgt := 376) dL_isRefused_372 (by decide) ?_
                refine oz_istore X (L2 := [(8, .int 1), (0, .ref (ad 0)), (3, .int x3), (4, .int x4), (5, .int x5), (6, .long x6), (9, .int x9)]) dL_isRefused_376 (by decide) rfl ?_
                refine oz_iinc X (q := 6) (v := x9 + 1) (L2 := [(9, .int (x9 + 1)), (8, .int 1), (0, .ref (ad 0)), (3, .int x3), (4, .int x4), (5, .int x5), (6, .long x6)]) dL_isRefused_378 rfl rfl (by decide) rfl ?_
                refine oz_goto X (tgt := 323) dL_isRefused_381 (by decide) ?_
                exact oz_sub X [2, 3, 4, 5, 6, 1, 0] (L2 := [(0, .ref (ad 0)), (3, .int x3), (4, .int x4), (5, .int x5), (6, .long x6), (8, .int 1), (9, .int (x9 + 1))]) rfl (ih _ (by omega) x3 x4 x5 x6 1 (x9 + 1) s37)
          · refine oz_iload X dL_isRefused_344 2 rfl ?_
            refine oz_goto X (tgt := 362) dL_isRefused_346 (by decide) ?_
            refine oz_callSX X rfl (As := [.ref (ad 0), .int x9, .int x4]) (S := []) (mL_of l hst D cI cZ ad x9 x4) gL_isRefused_L_of rfl rfl rfl hL_of ⟨by decide, by decide⟩ rfl rfl (Nat.le_of_ble_eq_true rfl) dL_isRefused_362 (by omega) (by decide) (by decide) (fun r39 s39 => ?_)
            refine oz_sipush X (v := (-1211)) dL_isRefused_365 (by decide) ?_
            refine oz_icmp_ne X (tgt := 375) dL_isRefused_368 (by decide) (fun q40 => ?_) (fun q40 => ?_)
            · exact oz_none X
            · refine oz_iconst X (v := 1) dL_isRefused_371 (by decide) ?_
              refine oz_goto X (tgt := 376) dL_isRefused_372 (by decide) ?_
              refine oz_istore X (L2 := [(8, .int 1), (0, .ref (ad 0)), (3, .int x3), (4, .int x4), (5, .int x5), (6, .long x6), (9, .int x9)]) dL_isRefused_376 (by decide) rfl ?_
              refine oz_iinc X (q := 6) (v := x9 + 1) (L2 := [(9, .int (x9 + 1)), (8, .int 1), (0, .ref (ad 0)), (3, .int x3), (4, .int x4), (5, .int x5), (6, .long x6)]) dL_isRefused_378 rfl rfl (by decide) rfl ?_
              refine oz_goto X (tgt := 323) dL_isRefused_381 (by decide) ?_
              exact oz_sub X [2, 3, 4, 5, 6, 1, 0] (L2 := [(0, .ref (ad 0)), (3, .int x3), (4, .int x4), (5, .int x5), (6, .long x6), (8, .int 1), (9, .int (x9 + 1))]) rfl (ih _ (by omega) x3 x4 x5 x6 1 (x9 + 1) s39)
  have hc285 : ∀ (k : Nat), k ≤ 9 → ∀ (x1 : Int32) (x3 : Int32) (x4 : Int32) (x5 : Int32) (x6 : Int64) (y0 : Int32) (y1 : Int32) (st : Int32), G k 285 [(0, .ref (ad 0)), (1, .int x1), (3, .int x3), (4, .int x4), (5, .int x5), (6, .long x6)] [.int y0, .int y1, .ref (ad 0)] st (FL_isRefused_j285 x1 x3 x4 x5 x6 y0 y1 st) := by
    intro k hk x1 x3 x4 x5 x6 y0 y1 st
    unfold FL_isRefused_j285
    refine oz_iconst X (v := 0) dL_isRefused_285 (by decide) ?_
    refine oz_callSX X rfl (As := [.ref (ad 0), .int y1, .int y0, .int 0]) (S := []) (mL_act l hst D cI cZ ad y1 y0 0) gL_isRefused_L_act rfl rfl rfl hL_act ⟨by decide, by decide⟩ rfl rfl (Nat.le_of_ble_eq_true rfl) dL_isRefused_286 (by omega) (by decide) (by decide) (fun r42 s42 => ?_)
    refine oz_sipush X (v := (-1212)) dL_isRefused_289 (by decide) ?_
    refine oz_icmp_ne X (tgt := 317) dL_isRefused_292 (by decide) (fun q43 => ?_) (fun q43 => ?_)
    · exact oz_none X
    · refine oz_aload_n X dL_isRefused_295 rfl 0 rfl ?_
      refine oz_bipush X (v := 14) dL_isRefused_296 (by decide) ?_
      refine oz_iconst X (v := (-1)) dL_isRefused_298 (by decide) ?_
      refine oz_iload_n X dL_isRefused_299 rfl 1 rfl ?_
      refine oz_bipush X (v := 30) dL_isRefused_300 (by decide) ?_
      refine oz_irem X dL_isRefused_302 (by decide) ?_
      refine oz_isub X dL_isRefused_303 ?_
      refine oz_callSX X rfl (As := [.ref (ad 0), .int 14, .int ((-1) - (x1 - x1 / 30 * 30))]) (S := []) (mL_of l hst D cI cZ ad 14 ((-1) - (x1 - x1 / 30 * 30))) gL_isRefused_L_of rfl rfl rfl hL_of ⟨by decide, by decide⟩ rfl rfl (Nat.le_of_ble_eq_true rfl) dL_isRefused_304 (by omega) (by decide) (by decide) (fun r44 s44 => ?_)
      refine oz_sipush X (v := (-1211)) dL_isRefused_307 (by decide) ?_
      refine oz_icmp_ne X (tgt := 317) dL_isRefused_310 (by decide) (fun q45 => ?_) (fun q45 => ?_)
      · exact oz_none X
      · refine oz_iconst X (v := 1) dL_isRefused_313 (by decide) ?_
        refine oz_goto X (tgt := 318) dL_isRefused_314 (by decide) ?_
        refine oz_istore X (L2 := [(8, .int 1), (0, .ref (ad 0)), (1, .int x1), (3, .int x3), (4, .int x4), (5, .int x5), (6, .long x6)]) dL_isRefused_318 (by decide) rfl ?_
        refine oz_iconst X (v := 0) dL_isRefused_320 (by decide) ?_
        refine oz_istore X (L2 := [(9, .int 0), (8, .int 1), (0, .ref (ad 0)), (1, .int x1), (3, .int x3), (4, .int x4), (5, .int x5), (6, .long x6)]) dL_isRefused_321 (by decide) rfl ?_
        exact oz_sub X [2, 4, 5, 6, 7, 1, 0] (L2 := [(0, .ref (ad 0)), (3, .int x3), (4, .int x4), (5, .int x5), (6, .long x6), (8, .int 1), (9, .int 0)]) rfl (hc323 15 _ (by omega) x3 x4 x5 x6 1 0 s44)
  have hc237 : ∀ (k : Nat), k ≤ 7 → ∀ (x1 : Int32) (x2 : Int32) (x3 : Int32) (x4 : Int32) (x5 : Int32) (x6 : Int64) (y0 : Int32) (y1 : Int32) (y2 : Int32) (st : Int32), G k 237 [(0, .ref (ad 0)), (1, .int x1), (2, .int x2), (3, .int x3), (4, .int x4), (5, .int x5), (6, .long x6)] [.int y0, .int y1, .int y2, .ref (ad 0)] st (FL_isRefused_j237 x1 x2 x3 x4 x5 x6 y0 y1 y2 st) := by
    intro k hk x1 x2 x3 x4 x5 x6 y0 y1 y2 st
    unfold FL_isRefused_j237
    refine oz_callSX X rfl (As := [.ref (ad 0), .int y2, .int y1, .int y0]) (S := []) (mL_act l hst D cI cZ ad y2 y1 y0) gL_isRefused_L_act rfl rfl rfl hL_act ⟨by decide, by decide⟩ rfl rfl (Nat.le_of_ble_eq_true rfl) dL_isRefused_237 (by omega) (by decide) (by decide) (fun r47 s47 => ?_)
    refine oz_sipush X (v := (-1211)) dL_isRefused_240 (by decide) ?_
    refine oz_icmp_ne X (tgt := 317) dL_isRefused_243 (by decide) (fun q48 => ?_) (fun q48 => ?_)
    · exact oz_none X
    · refine oz_aload_n X dL_isRefused_246 rfl 0 rfl ?_
      refine oz_bipush X (v := 6) dL_isRefused_247 (by decide) ?_
      refine oz_iload X dL_isRefused_249 5 rfl ?_
      refine oz_iconst X (v := 0) dL_isRefused_251 (by decide) ?_
      refine oz_callSX X rfl (As := [.ref (ad 0), .int 6, .int x5, .int 0]) (S := []) (mL_act l hst D cI cZ ad 6 x5 0) gL_isRefused_L_act rfl rfl rfl hL_act ⟨by decide, by decide⟩ rfl rfl (Nat.le_of_ble_eq_true rfl) dL_isRefused_252 (by omega) (by decide) (by decide) (fun r49 s49 => ?_)
      refine oz_sipush X (v := (-1211)) dL_isRefused_255 (by decide) ?_
      refine oz_icmp_ne X (tgt := 317) dL_isRefused_258 (by decide) (fun q50 => ?_) (fun q50 => ?_)
      · exact oz_none X
      · refine oz_aload_n X dL_isRefused_261 rfl 0 rfl ?_
        refine oz_bipush X (v := 7) dL_isRefused_262 (by decide) ?_
        refine oz_iload_n X dL_isRefused_264 rfl 2 rfl ?_
        refine oz_if_eq X (tgt := 277) dL_isRefused_265 (by decide) (fun q51 => ?_) (fun q51 => ?_)
        · refine oz_sipush X (v := 201) dL_isRefused_277 (by decide) ?_
          refine oz_iload_n X dL_isRefused_280 rfl 1 rfl ?_
          refine oz_bipush X (v := 30) dL_isRefused_281 (by decide) ?_
          refine oz_irem X dL_isRefused_283 (by decide) ?_
          refine oz_iadd X dL_isRefused_284 ?_
          exact oz_sub X [0, 1, 3, 4, 5, 6] (L2 := [(0, .ref (ad 0)), (1, .int x1), (3, .int x3), (4, .int x4), (5, .int x5), (6, .long x6)]) rfl (hc285 _ (by omega) x1 x3 x4 x5 x6 (201 + (x1 - x1 / 30 * 30)) 7 s49)
        · refine oz_iconst X (v := 0) dL_isRefused_268 (by decide) ?_
          refine oz_iload_n X dL_isRefused_269 rfl 1 rfl ?_
          refine oz_bipush X (v := 30) dL_isRefused_270 (by decide) ?_
          refine oz_irem X dL_isRefused_272 (by decide) ?_
          refine oz_isub X dL_isRefused_273 ?_
          refine oz_goto X (tgt := 285) dL_isRefused_274 (by decide) ?_
          exact oz_sub X [0, 1, 3, 4, 5, 6] (L2 := [(0, .ref (ad 0)), (1, .int x1), (3, .int x3), (4, .int x4), (5, .int x5), (6, .long x6)]) rfl (hc285 _ (by omega) x1 x3 x4 x5 x6 (0 - (x1 - x1 / 30 * 30)) 7 s49)
  have hc148 : ∀ (k : Nat), k ≤ 2 → ∀ (x1 : Int32) (x2 : Int32) (x3 : Int32) (x4 : Int32) (x5 : Int32) (x6 : Int64) (y0 : Int32) (y1 : Int32) (st : Int32), G k 148 [(0, .ref (ad 0)), (1, .int x1), (2, .int x2), (3, .int x3), (4, .int x4), (5, .int x5), (6, .long x6)] [.int y0, .int y1, .ref (ad 0)] st (FL_isRefused_j148 x1 x2 x3 x4 x5 x6 y0 y1 st) := by
    intro k hk x1 x2 x3 x4 x5 x6 y0 y1 st
    unfold FL_isRefused_j148
    refine oz_iconst X (v := 0) dL_isRefused_148 (by decide) ?_
    refine oz_callSX X rfl (As := [.ref (ad 0), .int y1, .int y0, .int 0]) (S := []) (mL_act l hst D cI cZ ad y1 y0 0) gL_isRefused_L_act rfl rfl rfl hL_act ⟨by decide, by decide⟩ rfl rfl (Nat.le_of_ble_eq_true rfl) dL_isRefused_149 (by omega) (by decide) (by decide) (fun r53 s53 => ?_)
    refine oz_sipush X (v := (-1212)) dL_isRefused_152 (by decide) ?_
    refine oz_icmp_ne X (tgt := 317) dL_isRefused_155 (by decide) (fun q54 => ?_) (fun q54 => ?_)
    · exact oz_none X
    · refine oz_aload_n X dL_isRefused_158 rfl 0 rfl ?_
      refine oz_iconst X (v := 2) dL_isRefused_159 (by decide) ?_
      refine oz_iload_n X dL_isRefused_160 rfl 3 rfl ?_
      refine oz_iconst X (v := 0) dL_isRefused_161 (by decide) ?_
      refine oz_callSX X rfl (As := [.ref (ad 0), .int 2, .int x3, .int 0]) (S := []) (mL_act l hst D cI cZ ad 2 x3 0) gL_isRefused_L_act rfl rfl rfl hL_act ⟨by decide, by decide⟩ rfl rfl (Nat.le_of_ble_eq_true rfl) dL_isRefused_162 (by omega) (by decide) (by decide) (fun r55 s55 => ?_)
      refine oz_sipush X (v := (-1211)) dL_isRefused_165 (by decide) ?_
      refine oz_icmp_ne X (tgt := 317) dL_isRefused_168 (by decide) (fun q56 => ?_) (fun q56 => ?_)
      · exact oz_none X
      · refine oz_aload_n X dL_isRefused_171 rfl 0 rfl ?_
        refine oz_iconst X (v := 3) dL_isRefused_172 (by decide) ?_
        refine oz_iload X dL_isRefused_173 4 rfl ?_
        refine oz_iconst X (v := 0) dL_isRefused_175 (by decide) ?_
        refine oz_callSX X rfl (As := [.ref (ad 0), .int 3, .int x4, .int 0]) (S := []) (mL_act l hst D cI cZ ad 3 x4 0) gL_isRefused_L_act rfl rfl rfl hL_act ⟨by decide, by decide⟩ rfl rfl (Nat.le_of_ble_eq_true rfl) dL_isRefused_176 (by omega) (by decide) (by decide) (fun r57 s57 => ?_)
        refine oz_sipush X (v := (-1211)) dL_isRefused_179 (by decide) ?_
        refine oz_icmp_ne X (tgt := 317) dL_isRefused_182 (by decide) (fun q58 => ?_) (fun q58 => ?_)
        · exact oz_none X
        · refine oz_aload_n X dL_isRefused_185 rfl 0 rfl ?_
          refine oz_iconst X (v := 4) dL_isRefused_186 (by decide) ?_
          refine oz_iload X dL_isRefused_187 4 rfl ?_
          refine oz_iconst X (v := 0) dL_isRefused_189 (by decide) ?_
          refine oz_callSX X rfl (As := [.ref (ad 0), .int 4, .int x4, .int 0]) (S := []) (mL_act l hst D cI cZ ad 4 x4 0) gL_isRefused_L_act rfl rfl rfl hL_act ⟨by decide, by decide⟩ rfl rfl (Nat.le_of_ble_eq_true rfl) dL_isRefused_190 (by omega) (by decide) (by decide) (fun r59 s59 => ?_)
          refine oz_sipush X (v := (-1211)) dL_isRefused_193 (by decide) ?_
          refine oz_icmp_ne X (tgt := 317) dL_isRefused_196 (by decide) (fun q60 => ?_) (fun q60 => ?_)
          · exact oz_none X
          · refine oz_aload_n X dL_isRefused_199 rfl 0 rfl ?_
            refine oz_iconst X (v := 5) dL_isRefused_200 (by decide) ?_
            refine oz_iload_n X dL_isRefused_201 rfl 3 rfl ?_
            refine oz_iconst X (v := 0) dL_isRefused_202 (by decide) ?_
            refine oz_callSX X rfl (As := [.ref (ad 0), .int 5, .int x3, .int 0]) (S := []) (mL_act l hst D cI cZ ad 5 x3 0) gL_isRefused_L_act rfl rfl rfl hL_act ⟨by decide, by decide⟩ rfl rfl (Nat.le_of_ble_eq_true rfl) dL_isRefused_203 (by omega) (by decide) (by decide) (fun r61 s61 => ?_)
            refine oz_sipush X (v := (-1211)) dL_isRefused_206 (by decide) ?_
            refine oz_icmp_ne X (tgt := 317) dL_isRefused_209 (by decide) (fun q62 => ?_) (fun q62 => ?_)
            · exact oz_none X
            · refine oz_aload_n X dL_isRefused_212 rfl 0 rfl ?_
              refine oz_iconst X (v := 5) dL_isRefused_213 (by decide) ?_
              refine oz_iload_n X dL_isRefused_214 rfl 1 rfl ?_
              refine oz_iconst X (v := 5) dL_isRefused_215 (by decide) ?_
              refine oz_irem X dL_isRefused_216 (by decide) ?_
              refine oz_iload_n X dL_isRefused_217 rfl 2 rfl ?_
              refine oz_if_eq X (tgt := 230) dL_isRefused_218 (by decide) (fun q63 => ?_) (fun q63 => ?_)
              · refine oz_bipush X (v := 8) dL_isRefused_230 (by decide) ?_
                refine oz_iload_n X dL_isRefused_232 rfl 1 rfl ?_
                refine oz_bipush X (v := 30) dL_isRefused_233 (by decide) ?_
                refine oz_irem X dL_isRefused_235 (by decide) ?_
                refine oz_iadd X dL_isRefused_236 ?_
                exact oz_sub X [0, 1, 2, 3, 4, 5, 6] (L2 := [(0, .ref (ad 0)), (1, .int x1), (2, .int x2), (3, .int x3), (4, .int x4), (5, .int x5), (6, .long x6)]) rfl (hc237 _ (by omega) x1 x2 x3 x4 x5 x6 (8 + (x1 - x1 / 30 * 30)) (x1 - x1 / 5 * 5) 5 s61)
              · refine oz_iconst X (v := (-1)) dL_isRefused_221 (by decide) ?_
                refine oz_iload_n X dL_isRefused_222 rfl 1 rfl ?_
                refine oz_bipush X (v := 30) dL_isRefused_223 (by decide) ?_
                refine oz_irem X dL_isRefused_225 (by decide) ?_
                refine oz_isub X dL_isRefused_226 ?_
                refine oz_goto X (tgt := 237) dL_isRefused_227 (by decide) ?_
                exact oz_sub X [0, 1, 2, 3, 4, 5, 6] (L2 := [(0, .ref (ad 0)), (1, .int x1), (2, .int x2), (3, .int x3), (4, .int x4), (5, .int x5), (6, .long x6)]) rfl (hc237 _ (by omega) x1 x2 x3 x4 x5 x6 ((-1) - (x1 - x1 / 30 * 30)) (x1 - x1 / 5 * 5) 5 s61)
  have hc117 : ∀ (k : Nat), k ≤ 1 → ∀ (x1 : Int32) (x2 : Int32) (x3 : Int32) (x4 : Int32) (x5 : Int32) (x6 : Int64) (y0 : Int32) (y1 : Int32) (y2 : Int32) (st : Int32), G k 117 [(0, .ref (ad 0)), (1, .int x1), (2, .int x2), (3, .int x3), (4, .int x4), (5, .int x5), (6, .long x6)] [.int y0, .int y1, .int y2, .ref (ad 0)] st (FL_isRefused_j117 x1 x2 x3 x4 x5 x6 y0 y1 y2 st) := by
    intro k hk x1 x2 x3 x4 x5 x6 y0 y1 y2 st
    unfold FL_isRefused_j117
    refine oz_callSX X rfl (As := [.ref (ad 0), .int y2, .int y1, .int y0]) (S := []) (mL_act l hst D cI cZ ad y2 y1 y0) gL_isRefused_L_act rfl rfl rfl hL_act ⟨by decide, by decide⟩ rfl rfl (Nat.le_of_ble_eq_true rfl) dL_isRefused_117 (by omega) (by decide) (by decide) (fun r65 s65 => ?_)
    refine oz_sipush X (v := (-1212)) dL_isRefused_120 (by decide) ?_
    refine oz_icmp_ne X (tgt := 317) dL_isRefused_123 (by decide) (fun q66 => ?_) (fun q66 => ?_)
    · exact oz_none X
    · refine oz_aload_n X dL_isRefused_126 rfl 0 rfl ?_
      refine oz_iconst X (v := 1) dL_isRefused_127 (by decide) ?_
      refine oz_iload_n X dL_isRefused_128 rfl 2 rfl ?_
      refine oz_if_eq X (tgt := 141) dL_isRefused_129 (by decide) (fun q67 => ?_) (fun q67 => ?_)
      · refine oz_bipush X (v := 10) dL_isRefused_141 (by decide) ?_
        refine oz_iload_n X dL_isRefused_143 rfl 1 rfl ?_
        refine oz_bipush X (v := 30) dL_isRefused_144 (by decide) ?_
        refine oz_irem X dL_isRefused_146 (by decide) ?_
        refine oz_iadd X dL_isRefused_147 ?_
        exact oz_sub X [0, 1, 2, 3, 4, 5, 6] (L2 := [(0, .ref (ad 0)), (1, .int x1), (2, .int x2), (3, .int x3), (4, .int x4), (5, .int x5), (6, .long x6)]) rfl (hc148 _ (by omega) x1 x2 x3 x4 x5 x6 (10 + (x1 - x1 / 30 * 30)) 1 s65)
      · refine oz_iconst X (v := (-1)) dL_isRefused_132 (by decide) ?_
        refine oz_iload_n X dL_isRefused_133 rfl 1 rfl ?_
        refine oz_bipush X (v := 30) dL_isRefused_134 (by decide) ?_
        refine oz_irem X dL_isRefused_136 (by decide) ?_
        refine oz_isub X dL_isRefused_137 ?_
        refine oz_goto X (tgt := 148) dL_isRefused_138 (by decide) ?_
        exact oz_sub X [0, 1, 2, 3, 4, 5, 6] (L2 := [(0, .ref (ad 0)), (1, .int x1), (2, .int x2), (3, .int x3), (4, .int x4), (5, .int x5), (6, .long x6)]) rfl (hc148 _ (by omega) x1 x2 x3 x4 x5 x6 ((-1) - (x1 - x1 / 30 * 30)) 1 s65)
  have hc76 : ∀ (k : Nat), k ≤ 0 → ∀ (x1 : Int32) (x2 : Int32) (x3 : Int32) (x4 : Int32) (y0 : Int32) (st : Int32), G k 76 [(0, .ref (ad 0)), (1, .int x1), (2, .int x2), (3, .int x3), (4, .int x4)] [.int y0] st (FL_isRefused_j76 x1 x2 x3 x4 y0 st) := by
    intro k hk x1 x2 x3 x4 y0 st
    unfold FL_isRefused_j76
    refine oz_istore X (L2 := [(5, .int y0), (0, .ref (ad 0)), (1, .int x1), (2, .int x2), (3, .int x3), (4, .int x4)]) dL_isRefused_76 (by decide) rfl ?_
    refine oz_aload_n X dL_isRefused_78 rfl 1 rfl ?_
    refine oz_callSL X rfl (As := [.ref (ad 0)]) (S := []) (mL_all l hst D cI cZ ad) gL_isRefused_L_all rfl rfl rfl hL_all ⟨by decide, by decide⟩ rfl rfl (Nat.le_of_ble_eq_true rfl) dL_isRefused_79 (by omega) (by decide) (by decide) (fun r69 s69 => ?_)
    refine oz_lstore X (L2 := [(6, .long r69), (5, .int y0), (0, .ref (ad 0)), (1, .int x1), (2, .int x2), (3, .int x3), (4, .int x4)]) dL_isRefused_82 (by decide) rfl ?_
    refine oz_aload_n X dL_isRefused_84 rfl 2 rfl ?_
    refine oz_iconst X (v := 0) dL_isRefused_85 (by decide) ?_
    refine oz_iload_n X dL_isRefused_86 rfl 5 rfl ?_
    refine oz_iconst X (v := (-1)) dL_isRefused_87 (by decide) ?_
    refine oz_callSX X rfl (As := [.ref (ad 0), .int 0, .int x3, .int (-1)]) (S := []) (mL_act l hst D cI cZ ad 0 x3 (-1)) gL_isRefused_L_act rfl rfl rfl hL_act ⟨by decide, by decide⟩ rfl rfl (Nat.le_of_ble_eq_true rfl) dL_isRefused_88 (by omega) (by decide) (by decide) (fun r70 s70 => ?_)
    refine oz_sipush X (v := (-1211)) dL_isRefused_91 (by decide) ?_
    refine oz_icmp_ne X (tgt := 317) dL_isRefused_94 (by decide) (fun q71 => ?_) (fun q71 => ?_)
    · exact oz_none X
    · refine oz_aload_n X dL_isRefused_97 rfl 2 rfl ?_
      refine oz_iconst X (v := 0) dL_isRefused_98 (by decide) ?_
      refine oz_iload_n X dL_isRefused_99 rfl 3 rfl ?_
      refine oz_iconst X (v := 5) dL_isRefused_100 (by decide) ?_
      refine oz_irem X dL_isRefused_101 (by decide) ?_
      refine oz_iload_n X dL_isRefused_102 rfl 4 rfl ?_
      refine oz_if_eq X (tgt := 115) dL_isRefused_103 (by decide) (fun q72 => ?_) (fun q72 => ?_)
      · refine oz_bipush X (v := 10) dL_isRefused_115 (by decide) ?_
        exact oz_sub X [2, 3, 4, 5, 6, 1, 0] (L2 := [(0, .ref (ad 0)), (1, .int x1), (2, .int x2), (3, .int x3), (4, .int x4), (5, .int y0), (6, .long r69)]) rfl (hc117 _ (by omega) x1 x2 x3 x4 y0 r69 10 (x1 - x1 / 5 * 5) 0 s70)
      · refine oz_iconst X (v := (-1)) dL_isRefused_106 (by decide) ?_
        refine oz_iload_n X dL_isRefused_107 rfl 3 rfl ?_
        refine oz_bipush X (v := 30) dL_isRefused_108 (by decide) ?_
        refine oz_irem X dL_isRefused_110 (by decide) ?_
        refine oz_isub X dL_isRefused_111 ?_
        refine oz_goto X (tgt := 117) dL_isRefused_112 (by decide) ?_
        exact oz_sub X [2, 3, 4, 5, 6, 1, 0] (L2 := [(0, .ref (ad 0)), (1, .int x1), (2, .int x2), (3, .int x3), (4, .int x4), (5, .int y0), (6, .long r69)]) rfl (hc117 _ (by omega) x1 x2 x3 x4 y0 r69 ((-1) - (x1 - x1 / 30 * 30)) (x1 - x1 / 5 * 5) 0 s70)
  have hc52 : ∀ (k : Nat), k ≤ 0 → ∀ (x1 : Int32) (x2 : Int32) (x3 : Int32) (y0 : Int32) (st : Int32), G k 52 [(0, .ref (ad 0)), (1, .int x1), (2, .int x2), (3, .int x3)] [.int y0] st (FL_isRefused_j52 x1 x2 x3 y0 st) := by
    intro k hk x1 x2 x3 y0 st
    unfold FL_isRefused_j52
    refine oz_istore X (L2 := [(4, .int y0), (0, .ref (ad 0)), (1, .int x1), (2, .int x2), (3, .int x3)]) dL_isRefused_52 (by decide) rfl ?_
    refine oz_iload_n X dL_isRefused_54 rfl 3 rfl ?_
    refine oz_if_eq X (tgt := 67) dL_isRefused_55 (by decide) (fun q74 => ?_) (fun q74 => ?_)
    · refine oz_aload_n X dL_isRefused_67 rfl 1 rfl ?_
      refine oz_callV X rfl (As := []) (S := []) (mX0_loansN l hst D cI cZ ad) gL_isRefused_X0_loans rfl rfl rfl hX0_loansN ⟨by decide, by decide⟩ rfl rfl (Nat.le_of_ble_eq_true rfl) dL_isRefused_68 (by omega) (by decide) (by decide) (fun r75 s75 => ?_)
      refine oz_iload_n X dL_isRefused_71 rfl 2 rfl ?_
      refine oz_bipush X (v := 30) dL_isRefused_72 (by decide) ?_
      refine oz_irem X dL_isRefused_74 (by decide) ?_
      refine oz_iadd X dL_isRefused_75 ?_
      exact oz_sub X [1, 2, 3, 4, 0] (L2 := [(0, .ref (ad 0)), (1, .int x1), (2, .int x2), (3, .int x3), (4, .int y0)]) rfl (hc76 _ (by omega) x1 x2 x3 y0 (r75 + (x1 - x1 / 30 * 30)) s75)
    · refine oz_iconst X (v := (-1)) dL_isRefused_58 (by decide) ?_
      refine oz_iload_n X dL_isRefused_59 rfl 2 rfl ?_
      refine oz_bipush X (v := 30) dL_isRefused_60 (by decide) ?_
      refine oz_irem X dL_isRefused_62 (by decide) ?_
      refine oz_isub X dL_isRefused_63 ?_
      refine oz_goto X (tgt := 76) dL_isRefused_64 (by decide) ?_
      exact oz_sub X [1, 2, 3, 4, 0] (L2 := [(0, .ref (ad 0)), (1, .int x1), (2, .int x2), (3, .int x3), (4, .int y0)]) rfl (hc76 _ (by omega) x1 x2 x3 y0 ((-1) - (x1 - x1 / 30 * 30)) st)
  have hc31 : ∀ (k : Nat), k ≤ 0 → ∀ (x1 : Int32) (x2 : Int32) (y0 : Int32) (st : Int32), G k 31 [(0, .ref (ad 0)), (1, .int x1), (2, .int x2)] [.int y0] st (FL_isRefused_j31 x1 x2 y0 st) := by
    intro k hk x1 x2 y0 st
    unfold FL_isRefused_j31
    refine oz_istore_n X (L2 := [(3, .int y0), (0, .ref (ad 0)), (1, .int x1), (2, .int x2)]) dL_isRefused_31 rfl (by decide) rfl ?_
    refine oz_iload_n X dL_isRefused_32 rfl 3 rfl ?_
    refine oz_if_eq X (tgt := 45) dL_isRefused_33 (by decide) (fun q77 => ?_) (fun q77 => ?_)
    · refine oz_bipush X (v := 12) dL_isRefused_45 (by decide) ?_
      refine oz_iload_n X dL_isRefused_47 rfl 2 rfl ?_
      refine oz_bipush X (v := 30) dL_isRefused_48 (by decide) ?_
      refine oz_irem X dL_isRefused_50 (by decide) ?_
      refine oz_iadd X dL_isRefused_51 ?_
      exact oz_sub X [1, 2, 3, 0] (L2 := [(0, .ref (ad 0)), (1, .int x1), (2, .int x2), (3, .int y0)]) rfl (hc52 _ (by omega) x1 x2 y0 (12 + (x1 - x1 / 30 * 30)) st)
    · refine oz_iconst X (v := (-1)) dL_isRefused_36 (by decide) ?_
      refine oz_iload_n X dL_isRefused_37 rfl 2 rfl ?_
      refine oz_bipush X (v := 30) dL_isRefused_38 (by decide) ?_
      refine oz_irem X dL_isRefused_40 (by decide) ?_
      refine oz_isub X dL_isRefused_41 ?_
      refine oz_goto X (tgt := 52) dL_isRefused_42 (by decide) ?_
      exact oz_sub X [1, 2, 3, 0] (L2 := [(0, .ref (ad 0)), (1, .int x1), (2, .int x2), (3, .int y0)]) rfl (hc52 _ (by omega) x1 x2 y0 ((-1) - (x1 - x1 / 30 * 30)) st)
  have hc11 : ∀ (k : Nat), k ≤ 0 → ∀ (x1 : Int32) (y0 : Int32) (st : Int32), G k 11 [(0, .ref (ad 0)), (1, .int x1)] [.int y0] st (FL_isRefused_j11 x1 y0 st) := by
    intro k hk x1 y0 st
    unfold FL_isRefused_j11
    refine oz_istore_n X (L2 := [(2, .int y0), (0, .ref (ad 0)), (1, .int x1)]) dL_isRefused_11 rfl (by decide) rfl ?_
    refine oz_iload_n X dL_isRefused_12 rfl 0 rfl ?_
    refine oz_if_eq X (tgt := 25) dL_isRefused_13 (by decide) (fun q79 => ?_) (fun q79 => ?_)
    · refine oz_iconst X (v := 5) dL_isRefused_25 (by decide) ?_
      refine oz_iload_n X dL_isRefused_26 rfl 2 rfl ?_
      refine oz_bipush X (v := 30) dL_isRefused_27 (by decide) ?_
      refine oz_irem X dL_isRefused_29 (by decide) ?_
      refine oz_iadd X dL_isRefused_30 ?_
      exact oz_sub X [1, 2, 0] (L2 := [(0, .ref (ad 0)), (1, .int x1), (2, .int y0)]) rfl (hc31 _ (by omega) x1 y0 (5 + (x1 - x1 / 30 * 30)) st)
    · refine oz_iconst X (v := (-1)) dL_isRefused_16 (by decide) ?_
      refine oz_iload_n X dL_isRefused_17 rfl 2 rfl ?_
      refine oz_bipush X (v := 30) dL_isRefused_18 (by decide) ?_
      refine oz_irem X dL_isRefused_20 (by decide) ?_
      refine oz_isub X dL_isRefused_21 ?_
      refine oz_goto X (tgt := 31) dL_isRefused_22 (by decide) ?_
      exact oz_sub X [1, 2, 0] (L2 := [(0, .ref (ad 0)), (1, .int x1), (2, .int y0)]) rfl (hc31 _ (by omega) x1 y0 ((-1) - (x1 - x1 / 30 * 30)) st)
  show G 0 0 [(0, .ref (ad 0)), (1, .int a1)] [] st (FL_isRefused a1 st)
  unfold FL_isRefused
  refine oz_iload_n X dL_isRefused_0 rfl 1 rfl ?_
  refine oz_iconst X (v := 2) dL_isRefused_1 (by decide) ?_
  refine oz_irem X dL_isRefused_2 (by decide) ?_
  refine oz_if_ne X (tgt := 10) dL_isRefused_3 (by decide) (fun q80 => ?_) (fun q80 => ?_)
  · refine oz_iconst X (v := 0) dL_isRefused_10 (by decide) ?_
    exact oz_sub X [0, 1] (L2 := [(0, .ref (ad 0)), (1, .int a1)]) rfl (hc11 _ (by omega) a1 0 st)
  · refine oz_iconst X (v := 1) dL_isRefused_6 (by decide) ?_
    refine oz_goto X (tgt := 11) dL_isRefused_7 (by decide) ?_
    exact oz_sub X [0, 1] (L2 := [(0, .ref (ad 0)), (1, .int a1)]) rfl (hc11 _ (by omega) a1 1 st)

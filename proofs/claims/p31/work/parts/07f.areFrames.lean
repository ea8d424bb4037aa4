/-! AlmsKernelLaw.areFrames -/
def FL_areFrames_w365 (k340 : Int32 → Int32 → Int32 → Int32 → Int32 → Option RC) : Nat → Int32 → Int32 → Int32 → Int32 → Int32 → Int32 → Int32 → Int32 → Int32 → Int32 → Option RC
  | 0, _, _, _, _, _, _, _, _, _, _ => none
  | n + 1, x1, x2, x3, x4, x5, x6, x7, x8, x9, st => (if 12 ≤ x9 then (if x1 = 0 then none else bnd (FX0_ownsN x4 st) (fun r4 s4 => (if r4 = x5 then bnd (FX0_borrowedN x4 s4) (fun r6 s6 => (if r6 = x6 then bnd (FX0_lentN x4 s6) (fun r8 s8 => (if r8 = x7 then (if 3 < x6 then none else bnd (FX0_purseN x4 s8) (fun r11 s11 => (if r11 < 0 then none else bnd (FX0_stateOfN x4 s11) (fun r13 s13 => (if r13 = 2 then none else (k340 1 x2 x3 (x4 + 1) s13)))))) else none)) else none)) else none))) else bnd (FX0_ownerN x9 st) (fun r15 s15 => (if r15 = x4 then none else bnd (FX0_holderN x9 s15) (fun r17 s17 => (if r17 = x4 then none else (if (0 : Int32) = 0 then (if (0 : Int32) = 0 then (if (0 : Int32) = 0 then (if x1 = 0 then none else (if (0 : Int32) = 0 then (if (0 : Int32) = 0 then (FL_areFrames_w365 k340 n 1 x2 x3 x4 (x5 + 0) (x6 + 0) (x7 + 0) (x8 ||| 0) (x9 + 1) s17) else none) else none)) else none) else none) else none))))))
def FL_areFrames_w340 : Nat → Int32 → Int32 → Int32 → Int32 → Int32 → Option RC
  | 0, _, _, _, _, _ => none
  | n + 1, x1, x2, x3, x4, st => (if 5 ≤ x4 then (if x1 = 0 then none else bnd (FX0_freeN st) (fun r28 s28 => (if r28 = x2 then bnd (FX0_requestsN s28) (fun r30 s30 => (if r30 = x3 then bnd (FX0_requestAtN x3 s30) (fun r32 s32 => (if r32 = (-1) then some (0, 1, s32) else none)) else none)) else none))) else (if x1 = 0 then none else (FL_areFrames_w365 (FL_areFrames_w340 n) 62 x1 x2 x3 x4 0 0 0 0 0 st)))
def FL_areFrames_w20 : Nat → Int32 → Int32 → Int32 → Int32 → Int32 → Option RC
  | 0, _, _, _, _, _ => none
  | n + 1, x1, x2, x3, x4, st => (if 12 ≤ x4 then (FL_areFrames_w340 62 x1 x2 x3 0 st) else (if x1 = 0 then none else bnd (FX0_ownerN x4 st) (fun r38 s38 => bnd (FL_loanOf x4 s38) (fun r39 s39 => (if 0 ≤ r39 then none else bnd (FX0_holderN x4 s39) (fun r41 s41 => (if r41 = r38 then bnd (FX0_holderByLogN x4 s41) (fun r43 s43 => (if r43 = r38 then (if r39 < 0 then (if 0 ≤ r38 then none else bnd (FX0_pageInN x4 s43) (fun r47 s47 => (if r47 = (-1) then bnd (FX0_pageInN x4 s47) (fun r49 s49 => (if 0 ≤ r49 then none else bnd (FX0_ageN x4 s49) (fun r51 s51 => (if r51 = (-1) then (if 0 ≤ r38 then none else (if (1 : Int32) = 0 then none else bnd (FX0_pageInN x4 s51) (fun r55 s55 => (if r55 < 0 then (FL_areFrames_w20 n 1 (x2 + 1) x3 (x4 + 1) s55) else none)))) else none)))) else none))) else none) else none)) else none)))))))
def FL_areFrames (st : Int32) : Option RC := bnd (FX0_tickN st) (fun r57 s57 => (if r57 < 0 then none else (FL_areFrames_w20 62 1 0 0 0 s57)))
def rmL_areFrames : Room := { frames := 4, cells := 0, slots := 0, locals := 86 }
theorem hL_areFrames : yL_areFrames.cls ≠ "java/lang/invoke/MethodHandle" ∧ yL_areFrames.cls ≠ "java/lang/invoke/VarHandle" ∧ (parseMethodDescriptor yL_areFrames.desc).map (fun d => d.parameters.length) = some 1 := by decide +kernel
set_option maxHeartbeats 4000000 in
set_option maxRecDepth 100000 in
theorem mL_areFrames (l : Launch) (hst : l.stackTraces = false) (D : va_G) (cI cZ : ClassId) (ad : Nat → Nat) : oz_MI l yL_areFrames wsL_areFrames rmL_areFrames D cI cZ RX0 0 oz_KSX0 ad oz_lyX0 0 [.ref (ad 0)] (FL_areFrames) := by
  refine oz_ofI (wn := RL) (bytes := cL_areFrames) (maxL := 12) (ret := (some .boolean)) (T := TX0) (N := 19) (by decide) rfl rfl oz_CX0 hst (Nat.le_of_ble_eq_true rfl) ?_
  intro p e s m below meth c st A res G hr X
  have hc365 : ∀ (k340 : Int32 → Int32 → Int32 → Int32 → Int32 → Option RC) (hk340 : ∀ (k : Nat), k ≤ 0 → ∀ (x1 : Int32) (x2 : Int32) (x3 : Int32) (x4 : Int32) (st : Int32), G k 340 [(0, .ref (ad 0)), (1, .int x1), (2, .int x2), (3, .int x3), (4, .int x4)] [] st (k340 x1 x2 x3 x4 st)) (n k : Nat), k ≤ 0 → ∀ (x1 : Int32) (x2 : Int32) (x3 : Int32) (x4 : Int32) (x5 : Int32) (x6 : Int32) (x7 : Int32) (x8 : Int32) (x9 : Int32) (st : Int32), G k 365 [(0, .ref (ad 0)), (1, .int x1), (2, .int x2), (3, .int x3), (4, .int x4), (5, .int x5), (6, .int x6), (7, .int x7), (8, .int x8), (9, .int x9)] [] st (FL_areFrames_w365 k340 n x1 x2 x3 x4 x5 x6 x7 x8 x9 st) := by
    intro k340 hk340 n
    induction n with
    | zero => intros; exact oz_none X
    | succ n ih =>
      intro k hk x1 x2 x3 x4 x5 x6 x7 x8 x9 st
      rw [FL_areFrames_w365]
      refine oz_iload X dL_areFrames_365 9 rfl ?_
      refine oz_bipush X (v := 12) dL_areFrames_367 (by decide) ?_
      refine oz_icmp_ge X (tgt := 538) dL_areFrames_369 (by decide) (fun q2 => ?_) (fun q2 => ?_)
      · refine oz_iload_n X dL_areFrames_538 rfl 1 rfl ?_
        refine oz_if_eq X (tgt := 609) dL_areFrames_539 (by decide) (fun q3 => ?_) (fun q3 => ?_)
        · exact oz_none X
        · refine oz_aload_n X dL_areFrames_542 rfl 0 rfl ?_
          refine oz_iload X dL_areFrames_543 4 rfl ?_
          refine oz_callV X rfl (As := [.int x4]) (S := []) (mX0_ownsN l hst D cI cZ ad x4) gL_areFrames_X0_owns rfl rfl rfl hX0_ownsN ⟨by decide, by decide⟩ rfl rfl (Nat.le_of_ble_eq_true rfl) dL_areFrames_545 (by omega) (by decide) (by decide) (fun r4 s4 => ?_)
          refine oz_iload X dL_areFrames_548 5 rfl ?_
          refine oz_icmp_ne X (tgt := 609) dL_areFrames_550 (by decide) (fun q5 => ?_) (fun q5 => ?_)
          · exact oz_none X
          · refine oz_aload_n X dL_areFrames_553 rfl 0 rfl ?_
            refine oz_iload X dL_areFrames_554 4 rfl ?_
            refine oz_callV X rfl (As := [.int x4]) (S := []) (mX0_borrowedN l hst D cI cZ ad x4) gL_areFrames_X0_borrowed rfl rfl rfl hX0_borrowedN ⟨by decide, by decide⟩ rfl rfl (Nat.le_of_ble_eq_true rfl) dL_areFrames_556 (by omega) (by decide) (by decide) (fun r6 s6 => ?_)
            refine oz_iload X dL_areFrames_559 6 rfl ?_
            refine oz_icmp_ne X (tgt := 609) dL_areFrames_561 (by decide) (fun q7 => ?_) (fun q7 => ?_)
            · exact oz_none X
            · refine oz_aload_n X dL_areFrames_564 rfl 0 rfl ?_
              refine oz_iload X dL_areFrames_565 4 rfl ?_
              refine oz_callV X rfl (As := [.int x4]) (S := []) (mX0_lentN l hst D cI cZ ad x4) gL_areFrames_X0_lent rfl rfl rfl hX0_lentN ⟨by decide, by decide⟩ rfl rfl (Nat.le_of_ble_eq_true rfl) dL_areFrames_567 (by omega) (by decide) (by decide) (fun r8 s8 => ?_)
              refine oz_iload X dL_areFrames_570 7 rfl ?_
              refine oz_icmp_ne X (tgt := 609) dL_areFrames_572 (by decide) (fun q9 => ?_) (fun q9 => ?_)
              · exact oz_none X
              · refine oz_iload X dL_areFrames_575 6 rfl ?_
                refine oz_iconst X (v := 3) dL_areFrames_577 (by decide) ?_
                refine oz_icmp_gt X (tgt := 609) dL_areFrames_578 (by decide) (fun q10 => ?_) (fun q10 => ?_)
                · exact oz_none X
                · refine oz_aload_n X dL_areFrames_581 rfl 0 rfl ?_
                  refine oz_iload X dL_areFrames_582 4 rfl ?_
                  refine oz_callV X rfl (As := [.int x4]) (S := []) (mX0_purseN l hst D cI cZ ad x4) gL_areFrames_X0_purse rfl rfl rfl hX0_purseN ⟨by decide, by decide⟩ rfl rfl (Nat.le_of_ble_eq_true rfl) dL_areFrames_584 (by omega) (by decide) (by decide) (fun r11 s11 => ?_)
                  refine oz_if_lt X (tgt := 609) dL_areFrames_587 (by decide) (fun q12 => ?_) (fun q12 => ?_)
                  · exact oz_none X
                  · refine oz_aload_n X dL_areFrames_590 rfl 0 rfl ?_
                    refine oz_iload X dL_areFrames_591 4 rfl ?_
                    refine oz_callV X rfl (As := [.int x4]) (S := []) (mX0_stateOfN l hst D cI cZ ad x4) gL_areFrames_X0_stateOf rfl rfl rfl hX0_stateOfN ⟨by decide, by decide⟩ rfl rfl (Nat.le_of_ble_eq_true rfl) dL_areFrames_593 (by omega) (by decide) (by decide) (fun r13 s13 => ?_)
                    refine oz_iconst X (v := 2) dL_areFrames_596 (by decide) ?_
                    refine oz_icmp_ne X (tgt := 605) dL_areFrames_597 (by decide) (fun q14 => ?_) (fun q14 => ?_)
                    · refine oz_iconst X (v := 1) dL_areFrames_605 (by decide) ?_
                      refine oz_goto X (tgt := 610) dL_areFrames_606 (by decide) ?_
                      refine oz_istore_n X (L2 := [(1, .int 1), (0, .ref (ad 0)), (2, .int x2), (3, .int x3), (4, .int x4), (5, .int x5), (6, .int x6), (7, .int x7), (8, .int x8), (9, .int x9)]) dL_areFrames_610 rfl (by decide) rfl ?_
                      refine oz_iinc X (q := 4) (v := x4 + 1) (L2 := [(4, .int (x4 + 1)), (1, .int 1), (0, .ref (ad 0)), (2, .int x2), (3, .int x3), (5, .int x5), (6, .int x6), (7, .int x7), (8, .int x8), (9, .int x9)]) dL_areFrames_611 rfl rfl (by decide) rfl ?_
                      refine oz_goto X (tgt := 340) dL_areFrames_614 (by decide) ?_
                      exact oz_sub X [2, 1, 3, 4, 0] (L2 := [(0, .ref (ad 0)), (1, .int 1), (2, .int x2), (3, .int x3), (4, .int (x4 + 1))]) rfl (hk340 _ (by omega) 1 x2 x3 (x4 + 1) s13)
                    · exact oz_none X
      · refine oz_aload_n X dL_areFrames_372 rfl 0 rfl ?_
        refine oz_iload X dL_areFrames_373 9 rfl ?_
        refine oz_callV X rfl (As := [.int x9]) (S := []) (mX0_ownerN l hst D cI cZ ad x9) gL_areFrames_X0_owner rfl rfl rfl hX0_ownerN ⟨by decide, by decide⟩ rfl rfl (Nat.le_of_ble_eq_true rfl) dL_areFrames_375 (by omega) (by decide) (by decide) (fun r15 s15 => ?_)
        refine oz_iload X dL_areFrames_378 4 rfl ?_
        refine oz_icmp_ne X (tgt := 387) dL_areFrames_380 (by decide) (fun q16 => ?_) (fun q16 => ?_)
        · refine oz_iconst X (v := 0) dL_areFrames_387 (by decide) ?_
          refine oz_istore X (L2 := [(10, .int 0), (0, .ref (ad 0)), (1, .int x1), (2, .int x2), (3, .int x3), (4, .int x4), (5, .int x5), (6, .int x6), (7, .int x7), (8, .int x8), (9, .int x9)]) dL_areFrames_388 (by decide) rfl ?_
          refine oz_aload_n X dL_areFrames_390 rfl 1 rfl ?_
          refine oz_iload X dL_areFrames_391 10 rfl ?_
          refine oz_callV X rfl (As := [.int x9]) (S := []) (mX0_holderN l hst D cI cZ ad x9) gL_areFrames_X0_holder rfl rfl rfl hX0_holderN ⟨by decide, by decide⟩ rfl rfl (Nat.le_of_ble_eq_true rfl) dL_areFrames_393 (by omega) (by decide) (by decide) (fun r17 s17 => ?_)
          refine oz_iload X dL_areFrames_396 5 rfl ?_
          refine oz_icmp_ne X (tgt := 405) dL_areFrames_398 (by decide) (fun q18 => ?_) (fun q18 => ?_)
          · refine oz_iconst X (v := 0) dL_areFrames_405 (by decide) ?_
            refine oz_istore X (L2 := [(11, .int 0), (10, .int 0), (0, .ref (ad 0)), (1, .int x1), (2, .int x2), (3, .int x3), (4, .int x4), (5, .int x5), (6, .int x6), (7, .int x7), (8, .int x8), (9, .int x9)]) dL_areFrames_406 (by decide) rfl ?_
            refine oz_iload X dL_areFrames_408 7 rfl ?_
            refine oz_iload X dL_areFrames_410 1 rfl ?_
            refine oz_if_eq X (tgt := 419) dL_areFrames_412 (by decide) (fun q19 => ?_) (fun q19 => ?_)
            · refine oz_iconst X (v := 0) dL_areFrames_419 (by decide) ?_
              refine oz_iadd X dL_areFrames_420 ?_
              refine oz_istore X (L2 := [(5, .int (x5 + 0)), (11, .int 0), (10, .int 0), (0, .ref (ad 0)), (1, .int x1), (2, .int x2), (3, .int x3), (4, .int x4), (6, .int x6), (7, .int x7), (8, .int x8), (9, .int x9)]) dL_areFrames_421 (by decide) rfl ?_
              refine oz_iload X dL_areFrames_423 9 rfl ?_
              refine oz_iload X dL_areFrames_425 2 rfl ?_
              refine oz_if_eq X (tgt := 439) dL_areFrames_427 (by decide) (fun q20 => ?_) (fun q20 => ?_)
              · refine oz_iconst X (v := 0) dL_areFrames_439 (by decide) ?_
                refine oz_iadd X dL_areFrames_440 ?_
                refine oz_istore X (L2 := [(7, .int (x7 + 0)), (5, .int (x5 + 0)), (11, .int 0), (10, .int 0), (0, .ref (ad 0)), (1, .int x1), (2, .int x2), (3, .int x3), (4, .int x4), (6, .int x6), (8, .int x8), (9, .int x9)]) dL_areFrames_441 (by decide) rfl ?_
                refine oz_iload X dL_areFrames_443 9 rfl ?_
                refine oz_iload X dL_areFrames_445 2 rfl ?_
                refine oz_if_eq X (tgt := 459) dL_areFrames_447 (by decide) (fun q21 => ?_) (fun q21 => ?_)
                · refine oz_iconst X (v := 0) dL_areFrames_459 (by decide) ?_
                  refine oz_iadd X dL_areFrames_460 ?_
                  refine oz_istore X (L2 := [(6, .int (x6 + 0)), (7, .int (x7 + 0)), (5, .int (x5 + 0)), (11, .int 0), (10, .int 0), (0, .ref (ad 0)), (1, .int x1), (2, .int x2), (3, .int x3), (4, .int x4), (8, .int x8), (9, .int x9)]) dL_areFrames_461 (by decide) rfl ?_
                  refine oz_iload_n X dL_areFrames_463 rfl 6 rfl ?_
                  refine oz_if_eq X (tgt := 499) dL_areFrames_464 (by decide) (fun q22 => ?_) (fun q22 => ?_)
                  · exact oz_none X
                  · refine oz_iload X dL_areFrames_467 3 rfl ?_
                    refine oz_if_eq X (tgt := 495) dL_areFrames_469 (by decide) (fun q23 => ?_) (fun q23 => ?_)
                    · refine oz_iconst X (v := 1) dL_areFrames_495 (by decide) ?_
                      refine oz_goto X (tgt := 500) dL_areFrames_496 (by decide) ?_
                      refine oz_istore_n X (L2 := [(1, .int 1), (6, .int (x6 + 0)), (7, .int (x7 + 0)), (5, .int (x5 + 0)), (11, .int 0), (10, .int 0), (0, .ref (ad 0)), (2, .int x2), (3, .int x3), (4, .int x4), (8, .int x8), (9, .int x9)]) dL_areFrames_500 rfl (by decide) rfl ?_
                      refine oz_iload X dL_areFrames_501 10 rfl ?_
                      refine oz_iload X dL_areFrames_503 4 rfl ?_
                      refine oz_if_eq X (tgt := 528) dL_areFrames_505 (by decide) (fun q24 => ?_) (fun q24 => ?_)
                      · refine oz_iconst X (v := 0) dL_areFrames_528 (by decide) ?_
                        refine oz_ior X dL_areFrames_529 ?_
                        refine oz_istore X (L2 := [(8, .int (x8 ||| 0)), (1, .int 1), (6, .int (x6 + 0)), (7, .int (x7 + 0)), (5, .int (x5 + 0)), (11, .int 0), (10, .int 0), (0, .ref (ad 0)), (2, .int x2), (3, .int x3), (4, .int x4), (9, .int x9)]) dL_areFrames_530 (by decide) rfl ?_
                        refine oz_iinc X (q := 11) (v := x9 + 1) (L2 := [(9, .int (x9 + 1)), (8, .int (x8 ||| 0)), (1, .int 1), (6, .int (x6 + 0)), (7, .int (x7 + 0)), (5, .int (x5 + 0)), (11, .int 0), (10, .int 0), (0, .ref (ad 0)), (2, .int x2), (3, .int x3), (4, .int x4)]) dL_areFrames_532 rfl rfl (by decide) rfl ?_
                        refine oz_goto X (tgt := 365) dL_areFrames_535 (by decide) ?_
                        exact oz_sub X [8, 2, 9, 10, 11, 5, 3, 4, 1, 0] (L2 := [(0, .ref (ad 0)), (1, .int 1), (2, .int x2), (3, .int x3), (4, .int x4), (5, .int (x5 + 0)), (6, .int (x6 + 0)), (7, .int (x7 + 0)), (8, .int (x8 ||| 0)), (9, .int (x9 + 1))]) rfl (ih _ (by omega) 1 x2 x3 x4 (x5 + 0) (x6 + 0) (x7 + 0) (x8 ||| 0) (x9 + 1) s17)
                      · exact oz_none X
                    · exact oz_none X
                · exact oz_none X
              · exact oz_none X
            · exact oz_none X
          · exact oz_none X
        · exact oz_none X
  have hc340 : ∀ (n k : Nat), k ≤ 0 → ∀ (x1 : Int32) (x2 : Int32) (x3 : Int32) (x4 : Int32) (st : Int32), G k 340 [(0, .ref (ad 0)), (1, .int x1), (2, .int x2), (3, .int x3), (4, .int x4)] [] st (FL_areFrames_w340 n x1 x2 x3 x4 st) := by
    intro n
    induction n with
    | zero => intros; exact oz_none X
    | succ n ih =>
      intro k hk x1 x2 x3 x4 st
      rw [FL_areFrames_w340]
      refine oz_iload X dL_areFrames_340 4 rfl ?_
      refine oz_iconst X (v := 5) dL_areFrames_342 (by decide) ?_
      refine oz_icmp_ge X (tgt := 617) dL_areFrames_343 (by decide) (fun q26 => ?_) (fun q26 => ?_)
      · refine oz_iload_n X dL_areFrames_617 rfl 1 rfl ?_
        refine oz_if_eq X (tgt := 650) dL_areFrames_618 (by decide) (fun q27 => ?_) (fun q27 => ?_)
        · exact oz_none X
        · refine oz_aload_n X dL_areFrames_621 rfl 0 rfl ?_
          refine oz_callV X rfl (As := []) (S := []) (mX0_freeN l hst D cI cZ ad) gL_areFrames_X0_free rfl rfl rfl hX0_freeN ⟨by decide, by decide⟩ rfl rfl (Nat.le_of_ble_eq_true rfl) dL_areFrames_622 (by omega) (by decide) (by decide) (fun r28 s28 => ?_)
          refine oz_iload_n X dL_areFrames_625 rfl 2 rfl ?_
          refine oz_icmp_ne X (tgt := 650) dL_areFrames_626 (by decide) (fun q29 => ?_) (fun q29 => ?_)
          · exact oz_none X
          · refine oz_aload_n X dL_areFrames_629 rfl 0 rfl ?_
            refine oz_callV X rfl (As := []) (S := []) (mX0_requestsN l hst D cI cZ ad) gL_areFrames_X0_requests rfl rfl rfl hX0_requestsN ⟨by decide, by decide⟩ rfl rfl (Nat.le_of_ble_eq_true rfl) dL_areFrames_630 (by omega) (by decide) (by decide) (fun r30 s30 => ?_)
            refine oz_iload_n X dL_areFrames_633 rfl 3 rfl ?_
            refine oz_icmp_ne X (tgt := 650) dL_areFrames_634 (by decide) (fun q31 => ?_) (fun q31 => ?_)
            · exact oz_none X
            · refine oz_aload_n X dL_areFrames_637 rfl 0 rfl ?_
              refine oz_iload_n X dL_areFrames_638 rfl 3 rfl ?_
              refine oz_callV X rfl (As := [.int x3]) (S := []) (mX0_requestAtN l hst D cI cZ ad x3) gL_areFrames_X0_requestAt rfl rfl rfl hX0_requestAtN ⟨by decide, by decide⟩ rfl rfl (Nat.le_of_ble_eq_true rfl) dL_areFrames_639 (by omega) (by decide) (by decide) (fun r32 s32 => ?_)
              refine oz_iconst X (v := (-1)) dL_areFrames_642 (by decide) ?_
              refine oz_icmp_ne X (tgt := 650) dL_areFrames_643 (by decide) (fun q33 => ?_) (fun q33 => ?_)
              · exact oz_none X
              · refine oz_iconst X (v := 1) dL_areFrames_646 (by decide) ?_
                refine oz_goto X (tgt := 651) dL_areFrames_647 (by decide) ?_
                exact oz_zret X rfl hr rfl (by omega) dL_areFrames_651
      · refine oz_iload_n X dL_areFrames_346 rfl 1 rfl ?_
        refine oz_if_eq X (tgt := 617) dL_areFrames_347 (by decide) (fun q34 => ?_) (fun q34 => ?_)
        · exact oz_none X
        · refine oz_iconst X (v := 0) dL_areFrames_350 (by decide) ?_
          refine oz_istore X (L2 := [(5, .int 0), (0, .ref (ad 0)), (1, .int x1), (2, .int x2), (3, .int x3), (4, .int x4)]) dL_areFrames_351 (by decide) rfl ?_
          refine oz_iconst X (v := 0) dL_areFrames_353 (by decide) ?_
          refine oz_istore X (L2 := [(6, .int 0), (5, .int 0), (0, .ref (ad 0)), (1, .int x1), (2, .int x2), (3, .int x3), (4, .int x4)]) dL_areFrames_354 (by decide) rfl ?_
          refine oz_iconst X (v := 0) dL_areFrames_356 (by decide) ?_
          refine oz_istore X (L2 := [(7, .int 0), (6, .int 0), (5, .int 0), (0, .ref (ad 0)), (1, .int x1), (2, .int x2), (3, .int x3), (4, .int x4)]) dL_areFrames_357 (by decide) rfl ?_
          refine oz_iconst X (v := 0) dL_areFrames_359 (by decide) ?_
          refine oz_istore X (L2 := [(8, .int 0), (7, .int 0), (6, .int 0), (5, .int 0), (0, .ref (ad 0)), (1, .int x1), (2, .int x2), (3, .int x3), (4, .int x4)]) dL_areFrames_360 (by decide) rfl ?_
          refine oz_iconst X (v := 0) dL_areFrames_362 (by decide) ?_
          refine oz_istore X (L2 := [(9, .int 0), (8, .int 0), (7, .int 0), (6, .int 0), (5, .int 0), (0, .ref (ad 0)), (1, .int x1), (2, .int x2), (3, .int x3), (4, .int x4)]) dL_areFrames_363 (by decide) rfl ?_
          exact oz_sub X [5, 6, 7, 8, 9, 4, 3, 2, 1, 0] (L2 := [(0, .ref (ad 0)), (1, .int x1), (2, .int x2), (3, .int x3), (4, .int x4), (5, .int 0), (6, .int 0), (7, .int 0), (8, .int 0), (9, .int 0)]) rfl (hc365 (FL_areFrames_w340 n) ih 62 _ (by omega) x1 x2 x3 x4 0 0 0 0 0 st)
  have hc20 : ∀ (n k : Nat), k ≤ 0 → ∀ (x1 : Int32) (x2 : Int32) (x3 : Int32) (x4 : Int32) (st : Int32), G k 20 [(0, .ref (ad 0)), (1, .int x1), (2, .int x2), (3, .int x3), (4, .int x4)] [] st (FL_areFrames_w20 n x1 x2 x3 x4 st) := by
    intro n
    induction n with
    | zero => intros; exact oz_none X
    | succ n ih =>
      intro k hk x1 x2 x3 x4 st
      rw [FL_areFrames_w20]
      refine oz_iload X dL_areFrames_20 4 rfl ?_
      refine oz_bipush X (v := 12) dL_areFrames_22 (by decide) ?_
      refine oz_icmp_ge X (tgt := 337) dL_areFrames_24 (by decide) (fun q36 => ?_) (fun q36 => ?_)
      · refine oz_iconst X (v := 0) dL_areFrames_337 (by decide) ?_
        refine oz_istore X (L2 := [(4, .int 0), (0, .ref (ad 0)), (1, .int x1), (2, .int x2), (3, .int x3)]) dL_areFrames_338 (by decide) rfl ?_
        exact oz_sub X [1, 2, 3, 4, 0] (L2 := [(0, .ref (ad 0)), (1, .int x1), (2, .int x2), (3, .int x3), (4, .int 0)]) rfl (hc340 62 _ (by omega) x1 x2 x3 0 st)
      · refine oz_iload_n X dL_areFrames_27 rfl 1 rfl ?_
        refine oz_if_eq X (tgt := 337) dL_areFrames_28 (by decide) (fun q37 => ?_) (fun q37 => ?_)
        · exact oz_none X
        · refine oz_aload_n X dL_areFrames_31 rfl 0 rfl ?_
          refine oz_iload X dL_areFrames_32 4 rfl ?_
          refine oz_callV X rfl (As := [.int x4]) (S := []) (mX0_ownerN l hst D cI cZ ad x4) gL_areFrames_X0_owner rfl rfl rfl hX0_ownerN ⟨by decide, by decide⟩ rfl rfl (Nat.le_of_ble_eq_true rfl) dL_areFrames_34 (by omega) (by decide) (by decide) (fun r38 s38 => ?_)
          refine oz_istore X (L2 := [(5, .int r38), (0, .ref (ad 0)), (1, .int x1), (2, .int x2), (3, .int x3), (4, .int x4)]) dL_areFrames_37 (by decide) rfl ?_
          refine oz_aload_n X dL_areFrames_39 rfl 1 rfl ?_
          refine oz_iload X dL_areFrames_40 5 rfl ?_
          refine oz_callS X rfl (As := [.ref (ad 0), .int x4]) (S := []) (mL_loanOf l hst D cI cZ ad x4) gL_areFrames_L_loanOf rfl rfl rfl hL_loanOf ⟨by decide, by decide⟩ rfl rfl (Nat.le_of_ble_eq_true rfl) dL_areFrames_42 (by omega) (by decide) (by decide) (fun r39 s39 => ?_)
          refine oz_istore X (L2 := [(6, .int r39), (5, .int r38), (0, .ref (ad 0)), (1, .int x1), (2, .int x2), (3, .int x3), (4, .int x4)]) dL_areFrames_45 (by decide) rfl ?_
          refine oz_iload X dL_areFrames_47 0 rfl ?_
          refine oz_if_ge X (tgt := 57) dL_areFrames_49 (by decide) (fun q40 => ?_) (fun q40 => ?_)
          · exact oz_none X
          · refine oz_iload X dL_areFrames_52 1 rfl ?_
            refine oz_goto X (tgt := 66) dL_areFrames_54 (by decide) ?_
            refine oz_istore X (L2 := [(7, .int r38), (6, .int r39), (5, .int r38), (0, .ref (ad 0)), (1, .int x1), (2, .int x2), (3, .int x3), (4, .int x4)]) dL_areFrames_66 (by decide) rfl ?_
            refine oz_aload_n X dL_areFrames_68 rfl 3 rfl ?_
            refine oz_iload X dL_areFrames_69 7 rfl ?_
            refine oz_callV X rfl (As := [.int x4]) (S := []) (mX0_holderN l hst D cI cZ ad x4) gL_areFrames_X0_holder rfl rfl rfl hX0_holderN ⟨by decide, by decide⟩ rfl rfl (Nat.le_of_ble_eq_true rfl) dL_areFrames_71 (by omega) (by decide) (by decide) (fun r41 s41 => ?_)
            refine oz_iload X dL_areFrames_74 0 rfl ?_
            refine oz_icmp_ne X (tgt := 167) dL_areFrames_76 (by decide) (fun q42 => ?_) (fun q42 => ?_)
            · exact oz_none X
            · refine oz_aload_n X dL_areFrames_79 rfl 3 rfl ?_
              refine oz_iload X dL_areFrames_80 7 rfl ?_
              refine oz_callV X rfl (As := [.int x4]) (S := []) (mX0_holderByLogN l hst D cI cZ ad x4) gL_areFrames_X0_holderByLog rfl rfl rfl hX0_holderByLogN ⟨by decide, by decide⟩ rfl rfl (Nat.le_of_ble_eq_true rfl) dL_areFrames_82 (by omega) (by decide) (by decide) (fun r43 s43 => ?_)
              refine oz_iload X dL_areFrames_85 0 rfl ?_
              refine oz_icmp_ne X (tgt := 167) dL_areFrames_87 (by decide) (fun q44 => ?_) (fun q44 => ?_)
              · exact oz_none X
              · refine oz_iload X dL_areFrames_90 1 rfl ?_
                refine oz_if_lt X (tgt := 129) dL_areFrames_92 (by decide) (fun q45 => ?_) (fun q45 => ?_)
                · refine oz_iload X dL_areFrames_129 2 rfl ?_
                  refine oz_if_ge X (tgt := 144) dL_areFrames_131 (by decide) (fun q46 => ?_) (fun q46 => ?_)
                  · exact oz_none X
                  · refine oz_aload_n X dL_areFrames_134 rfl 3 rfl ?_
                    refine oz_iload X dL_areFrames_135 7 rfl ?_
                    refine oz_callV X rfl (As := [.int x4]) (S := []) (mX0_pageInN l hst D cI cZ ad x4) gL_areFrames_X0_pageIn rfl rfl rfl hX0_pageInN ⟨by decide, by decide⟩ rfl rfl (Nat.le_of_ble_eq_true rfl) dL_areFrames_137 (by omega) (by decide) (by decide) (fun r47 s47 => ?_)
                    refine oz_iconst X (v := (-1)) dL_areFrames_140 (by decide) ?_
                    refine oz_icmp_ne X (tgt := 167) dL_areFrames_141 (by decide) (fun q48 => ?_) (fun q48 => ?_)
                    · exact oz_none X
                    · refine oz_aload_n X dL_areFrames_144 rfl 3 rfl ?_
                      refine oz_iload X dL_areFrames_145 7 rfl ?_
                      refine oz_callV X rfl (As := [.int x4]) (S := []) (mX0_pageInN l hst D cI cZ ad x4) gL_areFrames_X0_pageIn rfl rfl rfl hX0_pageInN ⟨by decide, by decide⟩ rfl rfl (Nat.le_of_ble_eq_true rfl) dL_areFrames_147 (by omega) (by decide) (by decide) (fun r49 s49 => ?_)
                      refine oz_if_ge X (tgt := 163) dL_areFrames_150 (by decide) (fun q50 => ?_) (fun q50 => ?_)
                      · exact oz_none X
                      · refine oz_aload_n X dL_areFrames_153 rfl 3 rfl ?_
                        refine oz_iload X dL_areFrames_154 7 rfl ?_
                        refine oz_callV X rfl (As := [.int x4]) (S := []) (mX0_ageN l hst D cI cZ ad x4) gL_areFrames_X0_age rfl rfl rfl hX0_ageN ⟨by decide, by decide⟩ rfl rfl (Nat.le_of_ble_eq_true rfl) dL_areFrames_156 (by omega) (by decide) (by decide) (fun r51 s51 => ?_)
                        refine oz_iconst X (v := (-1)) dL_areFrames_159 (by decide) ?_
                        refine oz_icmp_ne X (tgt := 167) dL_areFrames_160 (by decide) (fun q52 => ?_) (fun q52 => ?_)
                        · exact oz_none X
                        · refine oz_iconst X (v := 1) dL_areFrames_163 (by decide) ?_
                          refine oz_goto X (tgt := 168) dL_areFrames_164 (by decide) ?_
                          refine oz_istore_n X (L2 := [(1, .int 1), (7, .int r38), (6, .int r39), (5, .int r38), (0, .ref (ad 0)), (2, .int x2), (3, .int x3), (4, .int x4)]) dL_areFrames_168 rfl (by decide) rfl ?_
                          refine oz_iload_n X dL_areFrames_169 rfl 5 rfl ?_
                          refine oz_iload X dL_areFrames_170 3 rfl ?_
                          refine oz_if_ge X (tgt := 179) dL_areFrames_172 (by decide) (fun q53 => ?_) (fun q53 => ?_)
                          · exact oz_none X
                          · refine oz_iconst X (v := 1) dL_areFrames_175 (by decide) ?_
                            refine oz_goto X (tgt := 180) dL_areFrames_176 (by decide) ?_
                            refine oz_iadd X dL_areFrames_180 ?_
                            refine oz_istore_n X (L2 := [(2, .int (x2 + 1)), (1, .int 1), (7, .int r38), (6, .int r39), (5, .int r38), (0, .ref (ad 0)), (3, .int x3), (4, .int x4)]) dL_areFrames_181 rfl (by decide) rfl ?_
                            refine oz_iload_n X dL_areFrames_182 rfl 1 rfl ?_
                            refine oz_if_eq X (tgt := 331) dL_areFrames_183 (by decide) (fun q54 => ?_) (fun q54 => ?_)
                            · exact oz_none X
                            · refine oz_aload_n X dL_areFrames_186 rfl 5 rfl ?_
                              refine oz_iload X dL_areFrames_187 7 rfl ?_
                              refine oz_callV X rfl (As := [.int x4]) (S := []) (mX0_pageInN l hst D cI cZ ad x4) gL_areFrames_X0_pageIn rfl rfl rfl hX0_pageInN ⟨by decide, by decide⟩ rfl rfl (Nat.le_of_ble_eq_true rfl) dL_areFrames_189 (by omega) (by decide) (by decide) (fun r55 s55 => ?_)
                              refine oz_if_lt X (tgt := 331) dL_areFrames_192 (by decide) (fun q56 => ?_) (fun q56 => ?_)
                              · refine oz_iinc X (q := 7) (v := x4 + 1) (L2 := [(4, .int (x4 + 1)), (2, .int (x2 + 1)), (1, .int 1), (7, .int r38), (6, .int r39), (5, .int r38), (0, .ref (ad 0)), (3, .int x3)]) dL_areFrames_331 rfl rfl (by decide) rfl ?_
                                refine oz_goto X (tgt := 20) dL_areFrames_334 (by decide) ?_
                                exact oz_sub X [6, 2, 1, 7, 0] (L2 := [(0, .ref (ad 0)), (1, .int 1), (2, .int (x2 + 1)), (3, .int x3), (4, .int (x4 + 1))]) rfl (ih _ (by omega) 1 (x2 + 1) x3 (x4 + 1) s55)
                              · exact oz_none X
                · exact oz_none X
  show G 0 0 [(0, .ref (ad 0))] [] st (FL_areFrames st)
  unfold FL_areFrames
  refine oz_aload_n X dL_areFrames_0 rfl 0 rfl ?_
  refine oz_callV X rfl (As := []) (S := []) (mX0_tickN l hst D cI cZ ad) gL_areFrames_X0_tick rfl rfl rfl hX0_tickN ⟨by decide, by decide⟩ rfl rfl (Nat.le_of_ble_eq_true rfl) dL_areFrames_1 (by omega) (by decide) (by decide) (fun r57 s57 => ?_)
  refine oz_if_lt X (tgt := 11) dL_areFrames_4 (by decide) (fun q58 => ?_) (fun q58 => ?_)
  · exact oz_none X
  · refine oz_iconst X (v := 1) dL_areFrames_7 (by decide) ?_
    refine oz_goto X (tgt := 12) dL_areFrames_8 (by decide) ?_
    refine oz_istore_n X (L2 := [(1, .int 1), (0, .ref (ad 0))]) dL_areFrames_12 rfl (by decide) rfl ?_
    refine oz_iconst X (v := 0) dL_areFrames_13 (by decide) ?_
    refine oz_istore_n X (L2 := [(2, .int 0), (1, .int 1), (0, .ref (ad 0))]) dL_areFrames_14 rfl (by decide) rfl ?_
    refine oz_iconst X (v := 0) dL_areFrames_15 (by decide) ?_
    refine oz_istore_n X (L2 := [(3, .int 0), (2, .int 0), (1, .int 1), (0, .ref (ad 0))]) dL_areFrames_16 rfl (by decide) rfl ?_
    refine oz_iconst X (v := 0) dL_areFrames_17 (by decide) ?_
    refine oz_istore X (L2 := [(4, .int 0), (3, .int 0), (2, .int 0), (1, .int 1), (0, .ref (ad 0))]) dL_areFrames_18 (by decide) rfl ?_
    exact oz_sub X [4, 3, 2, 1, 0] (L2 := [(0, .ref (ad 0)), (1, .int 1), (2, .int 0), (3, .int 0), (4, .int 0)]) rfl (hc20 62 _ (by omega) 1 0 0 0 s57)

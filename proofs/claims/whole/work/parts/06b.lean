/-! AlmsKernel.ageOf -/
def FX0_ageOf (a1 : Int32) (st : ST) : Option Res := gd (oz_in a1 12) ((if st 8 a1.toNatClampNeg = 0 then some (0, (-1), st) else gd (oz_in a1 12) (some (0, (st 0 16) - (st 9 a1.toNatClampNeg), st))))
def rmX0_ageOf : Room := { frames := 0, cells := 0, slots := 0, locals := 0 }
theorem hX0_ageOf : yX0_ageOf.cls = RX0 ∧ yX0_ageOf.cls ≠ "java/lang/invoke/MethodHandle" ∧ yX0_ageOf.cls ≠ "java/lang/invoke/VarHandle" ∧ (parseMethodDescriptor yX0_ageOf.desc).map (fun d => d.parameters.length) = some 1 := by decide +kernel
theorem lkX0_ageOf_31 : Cond.fieldLink RX0 31 RX0 (TX0 7).2.1 (TX0 7).2.2.1 ∈ wsX0_ageOf := by decide +kernel
theorem lkX0_ageOf_35 : Cond.fieldLink RX0 35 RX0 (TX0 8).2.1 (TX0 8).2.2.1 ∈ wsX0_ageOf := by decide +kernel
theorem lkX0_ageOf_60 : Cond.fieldLink RX0 60 RX0 (TX0 16).2.1 (TX0 16).2.2.1 ∈ wsX0_ageOf := by decide +kernel
set_option maxHeartbeats 4000000 in
set_option maxRecDepth 100000 in
theorem mX0_ageOf (l : Launch) (hst : l.stackTraces = false) (D : va_G) (cI cZ : ClassId) (ad : Nat → Nat) (a1 : Int32) : oz_MI l yX0_ageOf wsX0_ageOf rmX0_ageOf D cI cZ RX0 0 oz_KSX0 ad oz_lyX0 0 [.ref (ad 0), .int a1] (FX0_ageOf a1) := by
  refine oz_ofI (bytes := cX0_ageOf) (maxL := 2) (ret := (some .int)) (T := TX0) (N := 19) (by decide) rfl rfl oz_CX0 hst (Nat.le_of_ble_eq_true rfl) ?_
  intro p e s m below meth c st A res G hr X
  have hin : ∀ w ∈ u_ws RX0 TX0 19, w ∈ wsX0_ageOf := fun w h => List.mem_cons_of_mem _ (List.mem_append_right _ h)
  have lk31 := lkX0_ageOf_31
  have lk35 := lkX0_ageOf_35
  have lk60 := lkX0_ageOf_60
  show G 0 0 [(0, .ref (ad 0)), (1, .int a1)] [] st (FX0_ageOf a1 st)
  unfold FX0_ageOf
  refine oz_aload_n X dX0_ageOf_0 rfl 0 rfl ?_
  refine oz_getA X hin (j := 7) rfl lk31 dX0_ageOf_1 ?_
  refine oz_iload_n X dX0_ageOf_4 rfl 1 rfl ?_
  refine oz_zald X (j := 7) rfl (by decide) dX0_ageOf_5 (fun g1 => ?_)
  refine oz_if_eq X (tgt := 23) dX0_ageOf_6 (by decide) (fun q2 => ?_) (fun q2 => ?_)
  · refine oz_iconst X (v := (-1)) dX0_ageOf_23 (by decide) ?_
    exact oz_iret X rfl hr (by omega) dX0_ageOf_24
  · refine oz_aload_n X dX0_ageOf_9 rfl 0 rfl ?_
    refine oz_getS X hin (j := 16) rfl lk60 dX0_ageOf_10 ?_
    refine oz_aload_n X dX0_ageOf_13 rfl 0 rfl ?_
    refine oz_getA X hin (j := 8) rfl lk35 dX0_ageOf_14 ?_
    refine oz_iload_n X dX0_ageOf_17 rfl 1 rfl ?_
    refine oz_iald X (j := 8) rfl (by decide) dX0_ageOf_18 (fun g3 => ?_)
    refine oz_isub X dX0_ageOf_19 ?_
    refine oz_goto X (tgt := 24) dX0_ageOf_20 (by decide) ?_
    exact oz_iret X rfl hr (by omega) dX0_ageOf_24

/-! AlmsKernel.frameToLend -/
def FX0_frameToLend_w7 : Nat → Int32 → Int32 → Int32 → Int32 → ST → Option Res
  | 0, _, _, _, _, _ => none
  | n + 1, x1, x2, x3, x4, st => (if 12 ≤ x4 then some (0, x2, st) else gd (oz_in x4 12) ((if st 5 x4.toNatClampNeg = x1 then gd (oz_in x4 12) ((if st 6 x4.toNatClampNeg = x1 then gd (oz_in x4 12) ((if st 7 x4.toNatClampNeg = (-1) then some (0, x4, st) else bnd (FX0_ageOf x4 st) (fun r9 s9 => (if r9 ≤ x3 then (FX0_frameToLend_w7 n x1 x2 x3 (x4 + 1) s9) else bnd (FX0_ageOf x4 s9) (fun r11 s11 => (FX0_frameToLend_w7 n x1 x4 r11 (x4 + 1) s11)))))) else (FX0_frameToLend_w7 n x1 x2 x3 (x4 + 1) st))) else (FX0_frameToLend_w7 n x1 x2 x3 (x4 + 1) st))))
def FX0_frameToLend (a1 : Int32) (st : ST) : Option Res := (FX0_frameToLend_w7 300 a1 (-1) 4 0 st)
def rmX0_frameToLend : Room := { frames := 1, cells := 0, slots := 0, locals := 21 }
theorem hX0_frameToLend : yX0_frameToLend.cls = RX0 ∧ yX0_frameToLend.cls ≠ "java/lang/invoke/MethodHandle" ∧ yX0_frameToLend.cls ≠ "java/lang/invoke/VarHandle" ∧ (parseMethodDescriptor yX0_frameToLend.desc).map (fun d => d.parameters.length) = some 1 := by decide +kernel
theorem lkX0_frameToLend_22 : Cond.fieldLink RX0 22 RX0 (TX0 4).2.1 (TX0 4).2.2.1 ∈ wsX0_frameToLend := by decide +kernel
theorem lkX0_frameToLend_25 : Cond.fieldLink RX0 25 RX0 (TX0 5).2.1 (TX0 5).2.2.1 ∈ wsX0_frameToLend := by decide +kernel
theorem lkX0_frameToLend_28 : Cond.fieldLink RX0 28 RX0 (TX0 6).2.1 (TX0 6).2.2.1 ∈ wsX0_frameToLend := by decide +kernel
set_option maxHeartbeats 4000000 in
set_option maxRecDepth 100000 in
theorem mX0_frameToLend (l : Launch) (hst : l.stackTraces = false) (D : va_G) (cI cZ : ClassId) (ad : Nat → Nat) (a1 : Int32) : oz_MI l yX0_frameToLend wsX0_frameToLend rmX0_frameToLend D cI cZ RX0 0 oz_KSX0 ad oz_lyX0 0 [.ref (ad 0), .int a1] (FX0_frameToLend a1) := by
  refine oz_ofI (bytes := cX0_frameToLend) (maxL := 5) (ret := (some .int)) (T := TX0) (N := 19) (by decide) rfl rfl oz_CX0 hst (Nat.le_of_ble_eq_true rfl) ?_
  intro p e s m below meth c st A res G hr X
  have hin : ∀ w ∈ u_ws RX0 TX0 19, w ∈ wsX0_frameToLend := fun w h => List.mem_cons_of_mem _ (List.mem_append_right _ h)
  have lk22 := lkX0_frameToLend_22
  have lk25 := lkX0_frameToLend_25
  have lk28 := lkX0_frameToLend_28
  have hc7 : ∀ (n k : Nat), k ≤ 0 → ∀ (x1 x2 x3 x4 : Int32) (st : ST), G k 7 [(0, .ref (ad 0)), (1, .int x1), (2, .int x2), (3, .int x3), (4, .int x4)] [] st (FX0_frameToLend_w7 n x1 x2 x3 x4 st) := by
    intro n
    induction n with
    | zero => intros; exact oz_none X
    | succ n ih =>
      intro k hk x1 x2 x3 x4 st
      rw [FX0_frameToLend_w7]
      refine oz_iload X dX0_frameToLend_7 4 rfl ?_
      refine oz_bipush X (v := 12) dX0_frameToLend_9 (by decide) ?_
      refine oz_icmp_ge X (tgt := 76) dX0_frameToLend_11 (by decide) (fun q2 => ?_) (fun q2 => ?_)
      · refine oz_iload_n X dX0_frameToLend_76 rfl 2 rfl ?_
        exact oz_iret X rfl hr (by omega) dX0_frameToLend_77
      · refine oz_aload_n X dX0_frameToLend_14 rfl 0 rfl ?_
        refine oz_getA X hin (j := 4) rfl lk22 dX0_frameToLend_15 ?_
        refine oz_iload X dX0_frameToLend_18 4 rfl ?_
        refine oz_iald X (j := 4) rfl (by decide) dX0_frameToLend_20 (fun g3 => ?_)
        refine oz_iload_n X dX0_frameToLend_21 rfl 1 rfl ?_
        refine oz_icmp_ne X (tgt := 70) dX0_frameToLend_22 (by decide) (fun q4 => ?_) (fun q4 => ?_)
        · refine oz_iinc X (q := 4) (v := x4 + 1) (L2 := [(4, .int (x4 + 1)), (0, .ref (ad 0)), (1, .int x1), (2, .int x2), (3, .int x3)]) dX0_frameToLend_70 rfl rfl (by decide) rfl ?_
          refine oz_goto X (tgt := 7) dX0_frameToLend_73 (by decide) ?_
          exact oz_sub X [1, 2, 3, 4, 0] (L2 := [(0, .ref (ad 0)), (1, .int x1), (2, .int x2), (3, .int x3), (4, .int (x4 + 1))]) rfl (ih _ (by omega) x1 x2 x3 (x4 + 1) st)
        · refine oz_aload_n X dX0_frameToLend_25 rfl 0 rfl ?_
          refine oz_getA X hin (j := 5) rfl lk25 dX0_frameToLend_26 ?_
          refine oz_iload X dX0_frameToLend_29 4 rfl ?_
          refine oz_iald X (j := 5) rfl (by decide) dX0_frameToLend_31 (fun g5 => ?_)
          refine oz_iload_n X dX0_frameToLend_32 rfl 1 rfl ?_
          refine oz_icmp_ne X (tgt := 70) dX0_frameToLend_33 (by decide) (fun q6 => ?_) (fun q6 => ?_)
          · refine oz_iinc X (q := 4) (v := x4 + 1) (L2 := [(4, .int (x4 + 1)), (0, .ref (ad 0)), (1, .int x1), (2, .int x2), (3, .int x3)]) dX0_frameToLend_70 rfl rfl (by decide) rfl ?_
            refine oz_goto X (tgt := 7) dX0_frameToLend_73 (by decide) ?_
            exact oz_sub X [1, 2, 3, 4, 0] (L2 := [(0, .ref (ad 0)), (1, .int x1), (2, .int x2), (3, .int x3), (4, .int (x4 + 1))]) rfl (ih _ (by omega) x1 x2 x3 (x4 + 1) st)
          · refine oz_aload_n X dX0_frameToLend_36 rfl 0 rfl ?_
            refine oz_getA X hin (j := 6) rfl lk28 dX0_frameToLend_37 ?_
            refine oz_iload X dX0_frameToLend_40 4 rfl ?_
            refine oz_iald X (j := 6) rfl (by decide) dX0_frameToLend_42 (fun g7 => ?_)
            refine oz_iconst X (v := (-1)) dX0_frameToLend_43 (by decide) ?_
            refine oz_icmp_ne X (tgt := 50) dX0_frameToLend_44 (by decide) (fun q8 => ?_) (fun q8 => ?_)
            · refine oz_aload_n X dX0_frameToLend_50 rfl 0 rfl ?_
              refine oz_iload X dX0_frameToLend_51 4 rfl ?_
              refine oz_callV X rfl (As := [.int x4]) (S := []) (mX0_ageOf l hst D cI cZ ad x4) gX0_frameToLend_X0_ageOf rfl rfl rfl hX0_ageOf ⟨by decide, by decide⟩ rfl rfl (Nat.le_of_ble_eq_true rfl) dX0_frameToLend_53 (by omega) (by decide) (by decide) (fun r9 s9 => ?_)
              refine oz_iload_n X dX0_frameToLend_56 rfl 3 rfl ?_
              refine oz_icmp_le X (tgt := 70) dX0_frameToLend_57 (by decide) (fun q10 => ?_) (fun q10 => ?_)
              · refine oz_iinc X (q := 4) (v := x4 + 1) (L2 := [(4, .int (x4 + 1)), (0, .ref (ad 0)), (1, .int x1), (2, .int x2), (3, .int x3)]) dX0_frameToLend_70 rfl rfl (by decide) rfl ?_
                refine oz_goto X (tgt := 7) dX0_frameToLend_73 (by decide) ?_
                exact oz_sub X [1, 2, 3, 4, 0] (L2 := [(0, .ref (ad 0)), (1, .int x1), (2, .int x2), (3, .int x3), (4, .int (x4 + 1))]) rfl (ih _ (by omega) x1 x2 x3 (x4 + 1) s9)
              · refine oz_iload X dX0_frameToLend_60 4 rfl ?_
                refine oz_istore_n X (L2 := [(2, .int x4), (0, .ref (ad 0)), (1, .int x1), (3, .int x3), (4, .int x4)]) dX0_frameToLend_62 rfl (by decide) rfl ?_
                refine oz_aload_n X dX0_frameToLend_63 rfl 1 rfl ?_
                refine oz_iload X dX0_frameToLend_64 4 rfl ?_
                refine oz_callV X rfl (As := [.int x4]) (S := []) (mX0_ageOf l hst D cI cZ ad x4) gX0_frameToLend_X0_ageOf rfl rfl rfl hX0_ageOf ⟨by decide, by decide⟩ rfl rfl (Nat.le_of_ble_eq_true rfl) dX0_frameToLend_66 (by omega) (by decide) (by decide) (fun r11 s11 => ?_)
                refine oz_istore_n X (L2 := [(3, .int r11), (2, .int x4), (0, .ref (ad 0)), (1, .int x1), (4, .int x4)]) dX0_frameToLend_69 rfl (by decide) rfl ?_
                refine oz_iinc X (q := 4) (v := x4 + 1) (L2 := [(4, .int (x4 + 1)), (3, .int r11), (2, .int x4), (0, .ref (ad 0)), (1, .int x1)]) dX0_frameToLend_70 rfl rfl (by decide) rfl ?_
                refine oz_goto X (tgt := 7) dX0_frameToLend_73 (by decide) ?_
                exact oz_sub X [3, 4, 2, 1, 0] (L2 := [(0, .ref (ad 0)), (1, .int x1), (2, .int x4), (3, .int r11), (4, .int (x4 + 1))]) rfl (ih _ (by omega) x1 x4 r11 (x4 + 1) s11)
            · refine oz_iload X dX0_frameToLend_47 4 rfl ?_
              exact oz_iret X rfl hr (by omega) dX0_frameToLend_49
  show G 0 0 [(0, .ref (ad 0)), (1, .int a1)] [] st (FX0_frameToLend a1 st)
  unfold FX0_frameToLend
  refine oz_iconst X (v := (-1)) dX0_frameToLend_0 (by decide) ?_
  refine oz_istore_n X (L2 := [(2, .int (-1)), (0, .ref (ad 0)), (1, .int a1)]) dX0_frameToLend_1 rfl (by decide) rfl ?_
  refine oz_iconst X (v := 4) dX0_frameToLend_2 (by decide) ?_
  refine oz_istore_n X (L2 := [(3, .int 4), (2, .int (-1)), (0, .ref (ad 0)), (1, .int a1)]) dX0_frameToLend_3 rfl (by decide) rfl ?_
  refine oz_iconst X (v := 0) dX0_frameToLend_4 (by decide) ?_
  refine oz_istore X (L2 := [(4, .int 0), (3, .int 4), (2, .int (-1)), (0, .ref (ad 0)), (1, .int a1)]) dX0_frameToLend_5 (by decide) rfl ?_
  exact oz_sub X [3, 4, 2, 1, 0] (L2 := [(0, .ref (ad 0)), (1, .int a1), (2, .int (-1)), (3, .int 4), (4, .int 0)]) rfl (hc7 300 _ (by omega) a1 (-1) 4 0 st)

/-! AlmsKernel.richestLender -/
def FX0_richestLender_w7 : Nat → Int32 → Int32 → Int32 → Int32 → ST → Option Res
  | 0, _, _, _, _, _ => none
  | n + 1, x1, x2, x3, x4, st => (if 5 ≤ x4 then some (0, x2, st) else (if x4 = x1 then (FX0_richestLender_w7 n x1 x2 x3 (x4 + 1) st) else gd (oz_in x4 5) ((if st 2 x4.toNatClampNeg ≤ x3 then (FX0_richestLender_w7 n x1 x2 x3 (x4 + 1) st) else bnd (FX0_frameToLend x4 st) (fun r6 s6 => (if r6 = (-1) then (FX0_richestLender_w7 n x1 x2 x3 (x4 + 1) s6) else gd (oz_in x4 5) ((FX0_richestLender_w7 n x1 x4 (s6 2 x4.toNatClampNeg) (x4 + 1) s6))))))))
def FX0_richestLender (a1 : Int32) (st : ST) : Option Res := (FX0_richestLender_w7 300 a1 (-1) (-1) 0 st)
def rmX0_richestLender : Room := { frames := 2, cells := 0, slots := 0, locals := 45 }
theorem hX0_richestLender : yX0_richestLender.cls = RX0 ∧ yX0_richestLender.cls ≠ "java/lang/invoke/MethodHandle" ∧ yX0_richestLender.cls ≠ "java/lang/invoke/VarHandle" ∧ (parseMethodDescriptor yX0_richestLender.desc).map (fun d => d.parameters.length) = some 1 := by decide +kernel
theorem lkX0_richestLender_13 : Cond.fieldLink RX0 13 RX0 (TX0 1).2.1 (TX0 1).2.2.1 ∈ wsX0_richestLender := by decide +kernel
set_option maxHeartbeats 4000000 in
set_option maxRecDepth 100000 in
theorem mX0_richestLender (l : Launch) (hst : l.stackTraces = false) (D : va_G) (cI cZ : ClassId) (ad : Nat → Nat) (a1 : Int32) : oz_MI l yX0_richestLender wsX0_richestLender rmX0_richestLender D cI cZ RX0 0 oz_KSX0 ad oz_lyX0 0 [.ref (ad 0), .int a1] (FX0_richestLender a1) := by
  refine oz_ofI (bytes := cX0_richestLender) (maxL := 5) (ret := (some .int)) (T := TX0) (N := 19) (by decide) rfl rfl oz_CX0 hst (Nat.le_of_ble_eq_true rfl) ?_
  intro p e s m below meth c st A res G hr X
  have hin : ∀ w ∈ u_ws RX0 TX0 19, w ∈ wsX0_richestLender := fun w h => List.mem_cons_of_mem _ (List.mem_append_right _ h)
  have lk13 := lkX0_richestLender_13
  have hc7 : ∀ (n k : Nat), k ≤ 0 → ∀ (x1 x2 x3 x4 : Int32) (st : ST), G k 7 [(0, .ref (ad 0)), (1, .int x1), (2, .int x2), (3, .int x3), (4, .int x4)] [] st (FX0_richestLender_w7 n x1 x2 x3 x4 st) := by
    intro n
    induction n with
    | zero => intros; exact oz_none X
    | succ n ih =>
      intro k hk x1 x2 x3 x4 st
      rw [FX0_richestLender_w7]
      refine oz_iload X dX0_richestLender_7 4 rfl ?_
      refine oz_iconst X (v := 5) dX0_richestLender_9 (by decide) ?_
      refine oz_icmp_ge X (tgt := 57) dX0_richestLender_10 (by decide) (fun q2 => ?_) (fun q2 => ?_)
      · refine oz_iload_n X dX0_richestLender_57 rfl 2 rfl ?_
        exact oz_iret X rfl hr (by omega) dX0_richestLender_58
      · refine oz_iload X dX0_richestLender_13 4 rfl ?_
        refine oz_iload_n X dX0_richestLender_15 rfl 1 rfl ?_
        refine oz_icmp_eq X (tgt := 51) dX0_richestLender_16 (by decide) (fun q3 => ?_) (fun q3 => ?_)
        · refine oz_iinc X (q := 4) (v := x4 + 1) (L2 := [(4, .int (x4 + 1)), (0, .ref (ad 0)), (1, .int x1), (2, .int x2), (3, .int x3)]) dX0_richestLender_51 rfl rfl (by decide) rfl ?_
          refine oz_goto X (tgt := 7) dX0_richestLender_54 (by decide) ?_
          exact oz_sub X [1, 2, 3, 4, 0] (L2 := [(0, .ref (ad 0)), (1, .int x1), (2, .int x2), (3, .int x3), (4, .int (x4 + 1))]) rfl (ih _ (by omega) x1 x2 x3 (x4 + 1) st)
        · refine oz_aload_n X dX0_richestLender_19 rfl 0 rfl ?_
          refine oz_getA X hin (j := 1) rfl lk13 dX0_richestLender_20 ?_
          refine oz_iload X dX0_richestLender_23 4 rfl ?_
          refine oz_iald X (j := 1) rfl (by decide) dX0_richestLender_25 (fun g4 => ?_)
          refine oz_iload_n X dX0_richestLender_26 rfl 3 rfl ?_
          refine oz_icmp_le X (tgt := 51) dX0_richestLender_27 (by decide) (fun q5 => ?_) (fun q5 => ?_)
          · refine oz_iinc X (q := 4) (v := x4 + 1) (L2 := [(4, .int (x4 + 1)), (0, .ref (ad 0)), (1, .int x1), (2, .int x2), (3, .int x3)]) dX0_richestLender_51 rfl rfl (by decide) rfl ?_
            refine oz_goto X (tgt := 7) dX0_richestLender_54 (by decide) ?_
            exact oz_sub X [1, 2, 3, 4, 0] (L2 := [(0, .ref (ad 0)), (1, .int x1), (2, .int x2), (3, .int x3), (4, .int (x4 + 1))]) rfl (ih _ (by omega) x1 x2 x3 (x4 + 1) st)
          · refine oz_aload_n X dX0_richestLender_30 rfl 0 rfl ?_
            refine oz_iload X dX0_richestLender_31 4 rfl ?_
            refine oz_callV X rfl (As := [.int x4]) (S := []) (mX0_frameToLend l hst D cI cZ ad x4) gX0_richestLender_X0_frameToLend rfl rfl rfl hX0_frameToLend ⟨by decide, by decide⟩ rfl rfl (Nat.le_of_ble_eq_true rfl) dX0_richestLender_33 (by omega) (by decide) (by decide) (fun r6 s6 => ?_)
            refine oz_iconst X (v := (-1)) dX0_richestLender_36 (by decide) ?_
            refine oz_icmp_eq X (tgt := 51) dX0_richestLender_37 (by decide) (fun q7 => ?_) (fun q7 => ?_)
            · refine oz_iinc X (q := 4) (v := x4 + 1) (L2 := [(4, .int (x4 + 1)), (0, .ref (ad 0)), (1, .int x1), (2, .int x2), (3, .int x3)]) dX0_richestLender_51 rfl rfl (by decide) rfl ?_
              refine oz_goto X (tgt := 7) dX0_richestLender_54 (by decide) ?_
              exact oz_sub X [1, 2, 3, 4, 0] (L2 := [(0, .ref (ad 0)), (1, .int x1), (2, .int x2), (3, .int x3), (4, .int (x4 + 1))]) rfl (ih _ (by omega) x1 x2 x3 (x4 + 1) s6)
            · refine oz_iload X dX0_richestLender_40 4 rfl ?_
              refine oz_istore_n X (L2 := [(2, .int x4), (0, .ref (ad 0)), (1, .int x1), (3, .int x3), (4, .int x4)]) dX0_richestLender_42 rfl (by decide) rfl ?_
              refine oz_aload_n X dX0_richestLender_43 rfl 1 rfl ?_
              refine oz_getA X hin (j := 1) rfl lk13 dX0_richestLender_44 ?_
              refine oz_iload X dX0_richestLender_47 4 rfl ?_
              refine oz_iald X (j := 1) rfl (by decide) dX0_richestLender_49 (fun g8 => ?_)
              refine oz_istore_n X (L2 := [(3, .int (s6 2 x4.toNatClampNeg)), (2, .int x4), (0, .ref (ad 0)), (1, .int x1), (4, .int x4)]) dX0_richestLender_50 rfl (by decide) rfl ?_
              refine oz_iinc X (q := 4) (v := x4 + 1) (L2 := [(4, .int (x4 + 1)), (3, .int (s6 2 x4.toNatClampNeg)), (2, .int x4), (0, .ref (ad 0)), (1, .int x1)]) dX0_richestLender_51 rfl rfl (by decide) rfl ?_
              refine oz_goto X (tgt := 7) dX0_richestLender_54 (by decide) ?_
              exact oz_sub X [3, 4, 2, 1, 0] (L2 := [(0, .ref (ad 0)), (1, .int x1), (2, .int x4), (3, .int (s6 2 x4.toNatClampNeg)), (4, .int (x4 + 1))]) rfl (ih _ (by omega) x1 x4 (s6 2 x4.toNatClampNeg) (x4 + 1) s6)
  show G 0 0 [(0, .ref (ad 0)), (1, .int a1)] [] st (FX0_richestLender a1 st)
  unfold FX0_richestLender
  refine oz_iconst X (v := (-1)) dX0_richestLender_0 (by decide) ?_
  refine oz_istore_n X (L2 := [(2, .int (-1)), (0, .ref (ad 0)), (1, .int a1)]) dX0_richestLender_1 rfl (by decide) rfl ?_
  refine oz_iconst X (v := (-1)) dX0_richestLender_2 (by decide) ?_
  refine oz_istore_n X (L2 := [(3, .int (-1)), (2, .int (-1)), (0, .ref (ad 0)), (1, .int a1)]) dX0_richestLender_3 rfl (by decide) rfl ?_
  refine oz_iconst X (v := 0) dX0_richestLender_4 (by decide) ?_
  refine oz_istore X (L2 := [(4, .int 0), (3, .int (-1)), (2, .int (-1)), (0, .ref (ad 0)), (1, .int a1)]) dX0_richestLender_5 (by decide) rfl ?_
  exact oz_sub X [3, 4, 2, 1, 0] (L2 := [(0, .ref (ad 0)), (1, .int a1), (2, .int (-1)), (3, .int (-1)), (4, .int 0)]) rfl (hc7 300 _ (by omega) a1 (-1) (-1) 0 st)

/-! AlmsKernel.borrow -/
def FX0_borrow_j46 (x1 x2 y0 : Int32) (st : ST) : Option Res := bnd (FX0_isFrame y0 st) (fun r2 s2 => (if r2 = 0 then some (0, (-1), s2) else (if s2 0 14 < 60 then gd (oz_in y0 12) (stp (oz_se s2 6 y0.toNatClampNeg x1) (fun s5 => gd (oz_in (s5 0 14) 60) (stp (oz_se s5 10 (s5 0 14).toNatClampNeg y0) (fun s6 => gd (oz_in (s6 0 14) 60) (stp (oz_se s6 11 (s6 0 14).toNatClampNeg x2) (fun s7 => gd (oz_in (s7 0 14) 60) (stp (oz_se s7 12 (s7 0 14).toNatClampNeg x1) (fun s8 => gd (oz_in (s8 0 14) 60) (stp (oz_se s8 13 (s8 0 14).toNatClampNeg 1) (fun s9 => stp (oz_se s9 0 14 ((s9 0 14) + 1)) (fun s10 => some (0, y0, s10)))))))))))) else some (2, 0, s2))))
def FX0_borrow (a1 : Int32) (st : ST) : Option Res := gd (oz_in a1 5) ((if st 2 a1.toNatClampNeg < st 0 15 then some (0, (-1), st) else bnd (FX0_countBorrowed a1 st) (fun r13 s13 => (if r13 < 3 then bnd (FX0_richestLender a1 s13) (fun r15 s15 => bnd (FX0_isProcess r15 s15) (fun r16 s16 => (if r16 = 0 then (FX0_borrow_j46 a1 r15 (-1) s16) else bnd (FX0_frameToLend r15 s16) (fun r18 s18 => (FX0_borrow_j46 a1 r15 r18 s18))))) else some (0, (-1), s13)))))
def rmX0_borrow : Room := { frames := 6, cells := 1, slots := 6, locals := 82 }
theorem hX0_borrow : yX0_borrow.cls = RX0 ∧ yX0_borrow.cls ≠ "java/lang/invoke/MethodHandle" ∧ yX0_borrow.cls ≠ "java/lang/invoke/VarHandle" ∧ (parseMethodDescriptor yX0_borrow.desc).map (fun d => d.parameters.length) = some 1 := by decide +kernel
theorem lkX0_borrow_13 : Cond.fieldLink RX0 13 RX0 (TX0 1).2.1 (TX0 1).2.2.1 ∈ wsX0_borrow := by decide +kernel
theorem lkX0_borrow_25 : Cond.fieldLink RX0 25 RX0 (TX0 5).2.1 (TX0 5).2.2.1 ∈ wsX0_borrow := by decide +kernel
theorem lkX0_borrow_38 : Cond.fieldLink RX0 38 RX0 (TX0 9).2.1 (TX0 9).2.2.1 ∈ wsX0_borrow := by decide +kernel
theorem lkX0_borrow_41 : Cond.fieldLink RX0 41 RX0 (TX0 10).2.1 (TX0 10).2.2.1 ∈ wsX0_borrow := by decide +kernel
theorem lkX0_borrow_44 : Cond.fieldLink RX0 44 RX0 (TX0 11).2.1 (TX0 11).2.2.1 ∈ wsX0_borrow := by decide +kernel
theorem lkX0_borrow_47 : Cond.fieldLink RX0 47 RX0 (TX0 12).2.1 (TX0 12).2.2.1 ∈ wsX0_borrow := by decide +kernel
theorem lkX0_borrow_53 : Cond.fieldLink RX0 53 RX0 (TX0 14).2.1 (TX0 14).2.2.1 ∈ wsX0_borrow := by decide +kernel
theorem lkX0_borrow_57 : Cond.fieldLink RX0 57 RX0 (TX0 15).2.1 (TX0 15).2.2.1 ∈ wsX0_borrow := by decide +kernel
set_option maxHeartbeats 4000000 in
set_option maxRecDepth 100000 in
theorem mX0_borrow (l : Launch) (hst : l.stackTraces = false) (D : va_G) (cI cZ : ClassId) (ad : Nat → Nat) (a1 : Int32) : oz_MI l yX0_borrow wsX0_borrow rmX0_borrow D cI cZ RX0 0 oz_KSX0 ad oz_lyX0 1 [.ref (ad 0), .int a1] (FX0_borrow a1) := by
  refine oz_ofI (bytes := cX0_borrow) (maxL := 4) (ret := (some .int)) (T := TX0) (N := 19) (by decide) rfl rfl oz_CX0 hst (Nat.le_of_ble_eq_true rfl) ?_
  intro p e s m below meth c st A res G hr X
  have hin : ∀ w ∈ u_ws RX0 TX0 19, w ∈ wsX0_borrow := fun w h => List.mem_cons_of_mem _ (List.mem_append_left _ (List.mem_append_right _ h))
  have lk13 := lkX0_borrow_13
  have lk25 := lkX0_borrow_25
  have lk38 := lkX0_borrow_38
  have lk41 := lkX0_borrow_41
  have lk44 := lkX0_borrow_44
  have lk47 := lkX0_borrow_47
  have lk53 := lkX0_borrow_53
  have lk57 := lkX0_borrow_57
  have tk2 : Cond.classLink RX0 93 (oz_exn 2) ∈ wsX0_borrow := by decide +kernel
  have ti2 : Cond.initialized (oz_exn 2) ∈ wsX0_borrow := by decide +kernel
  have tg2 : ∀ w ∈ (vx_atS RX0 97 (oz_exn 2) oz_names).filter goodWord, w ∈ wsX0_borrow := fun w h => List.mem_cons_of_mem _ (List.mem_append_right _ h)
  have hc46 : ∀ (k : Nat), k ≤ 0 → ∀ (x1 x2 y0 : Int32) (st : ST), G k 46 [(0, .ref (ad 0)), (1, .int x1), (2, .int x2)] [.int y0] st (FX0_borrow_j46 x1 x2 y0 st) := by
    intro k hk x1 x2 y0 st
    unfold FX0_borrow_j46
    refine oz_istore_n X (L2 := [(3, .int y0), (0, .ref (ad 0)), (1, .int x1), (2, .int x2)]) dX0_borrow_46 rfl (by decide) rfl ?_
    refine oz_iload_n X dX0_borrow_47 rfl 0 rfl ?_
    refine oz_callS X rfl (As := [.int y0]) (S := []) (mX0_isFrame l hst D cI cZ ad y0) gX0_borrow_X0_isFrame rfl rfl rfl hX0_isFrame ⟨by decide, by decide⟩ rfl rfl (Nat.le_of_ble_eq_true rfl) dX0_borrow_48 (by omega) (by decide) (by decide) (fun r2 s2 => ?_)
    refine oz_if_ne X (tgt := 56) dX0_borrow_51 (by decide) (fun q3 => ?_) (fun q3 => ?_)
    · refine oz_aload_n X dX0_borrow_56 rfl 1 rfl ?_
      refine oz_getS X hin (j := 14) rfl lk53 dX0_borrow_57 ?_
      refine oz_bipush X (v := 60) dX0_borrow_60 (by decide) ?_
      refine oz_icmp_lt X (tgt := 75) dX0_borrow_62 (by decide) (fun q4 => ?_) (fun q4 => ?_)
      · refine oz_aload_n X dX0_borrow_75 rfl 1 rfl ?_
        refine oz_getA X hin (j := 5) rfl lk25 dX0_borrow_76 ?_
        refine oz_iload_n X dX0_borrow_79 rfl 0 rfl ?_
        refine oz_iload_n X dX0_borrow_80 rfl 2 rfl ?_
        refine oz_iast X (j := 5) rfl (by decide) dX0_borrow_81 (fun s5 e5 g5 => ?_)
        refine oz_aload_n X dX0_borrow_82 rfl 1 rfl ?_
        refine oz_getA X hin (j := 9) rfl lk38 dX0_borrow_83 ?_
        refine oz_aload_n X dX0_borrow_86 rfl 1 rfl ?_
        refine oz_getS X hin (j := 14) rfl lk53 dX0_borrow_87 ?_
        refine oz_iload_n X dX0_borrow_90 rfl 0 rfl ?_
        refine oz_iast X (j := 9) rfl (by decide) dX0_borrow_91 (fun s6 e6 g6 => ?_)
        refine oz_aload_n X dX0_borrow_92 rfl 1 rfl ?_
        refine oz_getA X hin (j := 10) rfl lk41 dX0_borrow_93 ?_
        refine oz_aload_n X dX0_borrow_96 rfl 1 rfl ?_
        refine oz_getS X hin (j := 14) rfl lk53 dX0_borrow_97 ?_
        refine oz_iload_n X dX0_borrow_100 rfl 3 rfl ?_
        refine oz_iast X (j := 10) rfl (by decide) dX0_borrow_101 (fun s7 e7 g7 => ?_)
        refine oz_aload_n X dX0_borrow_102 rfl 1 rfl ?_
        refine oz_getA X hin (j := 11) rfl lk44 dX0_borrow_103 ?_
        refine oz_aload_n X dX0_borrow_106 rfl 1 rfl ?_
        refine oz_getS X hin (j := 14) rfl lk53 dX0_borrow_107 ?_
        refine oz_iload_n X dX0_borrow_110 rfl 2 rfl ?_
        refine oz_iast X (j := 11) rfl (by decide) dX0_borrow_111 (fun s8 e8 g8 => ?_)
        refine oz_aload_n X dX0_borrow_112 rfl 1 rfl ?_
        refine oz_getA X hin (j := 12) rfl lk47 dX0_borrow_113 ?_
        refine oz_aload_n X dX0_borrow_116 rfl 1 rfl ?_
        refine oz_getS X hin (j := 14) rfl lk53 dX0_borrow_117 ?_
        refine oz_iconst X (v := 1) dX0_borrow_120 (by decide) ?_
        refine oz_zast X (j := 12) (v2 := 1) rfl (by decide) rfl dX0_borrow_121 (fun s9 e9 g9 => ?_)
        refine oz_aload_n X dX0_borrow_122 rfl 1 rfl ?_
        refine oz_dup X dX0_borrow_123 rfl ?_
        refine oz_getS X hin (j := 14) rfl lk53 dX0_borrow_124 ?_
        refine oz_iconst X (v := 1) dX0_borrow_127 (by decide) ?_
        refine oz_iadd X dX0_borrow_128 ?_
        refine oz_putS X hin (j := 14) rfl lk53 dX0_borrow_129 (fun s10 e10 => ?_)
        refine oz_iload_n X dX0_borrow_132 rfl 0 rfl ?_
        exact oz_iret X rfl hr (by omega) dX0_borrow_133
      · exact oz_throw X rfl 2 (text := "there were 60 loans") (by decide) (oz_KSX0_182) (by decide +kernel) tk2 ti2 tg2 oz_tbX0_2 oz_twX0_2 dX0_borrow_65 dX0_borrow_68 dX0_borrow_69 dX0_borrow_71 dX0_borrow_74 (by decide) (by decide) (by omega) (by decide) (by decide)
    · refine oz_iconst X (v := (-1)) dX0_borrow_54 (by decide) ?_
      exact oz_iret X rfl hr (by omega) dX0_borrow_55
  show G 0 0 [(0, .ref (ad 0)), (1, .int a1)] [] st (FX0_borrow a1 st)
  unfold FX0_borrow
  refine oz_aload_n X dX0_borrow_0 rfl 0 rfl ?_
  refine oz_getA X hin (j := 1) rfl lk13 dX0_borrow_1 ?_
  refine oz_iload_n X dX0_borrow_4 rfl 1 rfl ?_
  refine oz_iald X (j := 1) rfl (by decide) dX0_borrow_5 (fun g11 => ?_)
  refine oz_aload_n X dX0_borrow_6 rfl 0 rfl ?_
  refine oz_getS X hin (j := 15) rfl lk57 dX0_borrow_7 ?_
  refine oz_icmp_lt X (tgt := 22) dX0_borrow_10 (by decide) (fun q12 => ?_) (fun q12 => ?_)
  · refine oz_iconst X (v := (-1)) dX0_borrow_22 (by decide) ?_
    exact oz_iret X rfl hr (by omega) dX0_borrow_23
  · refine oz_aload_n X dX0_borrow_13 rfl 0 rfl ?_
    refine oz_iload_n X dX0_borrow_14 rfl 1 rfl ?_
    refine oz_callV X rfl (As := [.int a1]) (S := []) (mX0_countBorrowed l hst D cI cZ ad a1) gX0_borrow_X0_countBorrowed rfl rfl rfl hX0_countBorrowed ⟨by decide, by decide⟩ rfl rfl (Nat.le_of_ble_eq_true rfl) dX0_borrow_15 (by omega) (by decide) (by decide) (fun r13 s13 => ?_)
    refine oz_iconst X (v := 3) dX0_borrow_18 (by decide) ?_
    refine oz_icmp_lt X (tgt := 24) dX0_borrow_19 (by decide) (fun q14 => ?_) (fun q14 => ?_)
    · refine oz_aload_n X dX0_borrow_24 rfl 0 rfl ?_
      refine oz_iload_n X dX0_borrow_25 rfl 1 rfl ?_
      refine oz_callV X rfl (As := [.int a1]) (S := []) (mX0_richestLender l hst D cI cZ ad a1) gX0_borrow_X0_richestLender rfl rfl rfl hX0_richestLender ⟨by decide, by decide⟩ rfl rfl (Nat.le_of_ble_eq_true rfl) dX0_borrow_26 (by omega) (by decide) (by decide) (fun r15 s15 => ?_)
      refine oz_istore_n X (L2 := [(2, .int r15), (0, .ref (ad 0)), (1, .int a1)]) dX0_borrow_29 rfl (by decide) rfl ?_
      refine oz_iload_n X dX0_borrow_30 rfl 0 rfl ?_
      refine oz_callS X rfl (As := [.int r15]) (S := []) (mX0_isProcess l hst D cI cZ ad r15) gX0_borrow_X0_isProcess rfl rfl rfl hX0_isProcess ⟨by decide, by decide⟩ rfl rfl (Nat.le_of_ble_eq_true rfl) dX0_borrow_31 (by omega) (by decide) (by decide) (fun r16 s16 => ?_)
      refine oz_if_eq X (tgt := 45) dX0_borrow_34 (by decide) (fun q17 => ?_) (fun q17 => ?_)
      · refine oz_iconst X (v := (-1)) dX0_borrow_45 (by decide) ?_
        exact oz_sub X [1, 2, 0] (L2 := [(0, .ref (ad 0)), (1, .int a1), (2, .int r15)]) rfl (hc46 _ (by omega) a1 r15 (-1) s16)
      · refine oz_aload_n X dX0_borrow_37 rfl 1 rfl ?_
        refine oz_iload_n X dX0_borrow_38 rfl 0 rfl ?_
        refine oz_callV X rfl (As := [.int r15]) (S := []) (mX0_frameToLend l hst D cI cZ ad r15) gX0_borrow_X0_frameToLend rfl rfl rfl hX0_frameToLend ⟨by decide, by decide⟩ rfl rfl (Nat.le_of_ble_eq_true rfl) dX0_borrow_39 (by omega) (by decide) (by decide) (fun r18 s18 => ?_)
        refine oz_goto X (tgt := 46) dX0_borrow_42 (by decide) ?_
        exact oz_sub X [1, 2, 0] (L2 := [(0, .ref (ad 0)), (1, .int a1), (2, .int r15)]) rfl (hc46 _ (by omega) a1 r15 r18 s18)
    · refine oz_iconst X (v := (-1)) dX0_borrow_22 (by decide) ?_
      exact oz_iret X rfl hr (by omega) dX0_borrow_23

/-! AlmsKernel.oldestFrame -/
def FX0_oldestFrame_w7 : Nat → Int32 → Int32 → Int32 → Int32 → ST → Option Res
  | 0, _, _, _, _, _ => none
  | n + 1, x1, x2, x3, x4, st => (if 12 ≤ x4 then some (0, x2, st) else gd (oz_in x4 12) ((if st 6 x4.toNatClampNeg = x1 then bnd (FX0_ageOf x4 st) (fun r5 s5 => (if r5 ≤ x3 then (FX0_oldestFrame_w7 n x1 x2 x3 (x4 + 1) s5) else bnd (FX0_ageOf x4 s5) (fun r7 s7 => (FX0_oldestFrame_w7 n x1 x4 r7 (x4 + 1) s7)))) else (FX0_oldestFrame_w7 n x1 x2 x3 (x4 + 1) st))))
def FX0_oldestFrame (a1 : Int32) (st : ST) : Option Res := (FX0_oldestFrame_w7 300 a1 (-1) (-1) 0 st)
def rmX0_oldestFrame : Room := { frames := 1, cells := 0, slots := 0, locals := 21 }
theorem hX0_oldestFrame : yX0_oldestFrame.cls = RX0 ∧ yX0_oldestFrame.cls ≠ "java/lang/invoke/MethodHandle" ∧ yX0_oldestFrame.cls ≠ "java/lang/invoke/VarHandle" ∧ (parseMethodDescriptor yX0_oldestFrame.desc).map (fun d => d.parameters.length) = some 1 := by decide +kernel
theorem lkX0_oldestFrame_25 : Cond.fieldLink RX0 25 RX0 (TX0 5).2.1 (TX0 5).2.2.1 ∈ wsX0_oldestFrame := by decide +kernel
set_option maxHeartbeats 4000000 in
set_option maxRecDepth 100000 in
theorem mX0_oldestFrame (l : Launch) (hst : l.stackTraces = false) (D : va_G) (cI cZ : ClassId) (ad : Nat → Nat) (a1 : Int32) : oz_MI l yX0_oldestFrame wsX0_oldestFrame rmX0_oldestFrame D cI cZ RX0 0 oz_KSX0 ad oz_lyX0 0 [.ref (ad 0), .int a1] (FX0_oldestFrame a1) := by
  refine oz_ofI (bytes := cX0_oldestFrame) (maxL := 5) (ret := (some .int)) (T := TX0) (N := 19) (by decide) rfl rfl oz_CX0 hst (Nat.le_of_ble_eq_true rfl) ?_
  intro p e s m below meth c st A res G hr X
  have hin : ∀ w ∈ u_ws RX0 TX0 19, w ∈ wsX0_oldestFrame := fun w h => List.mem_cons_of_mem _ (List.mem_append_right _ h)
  have lk25 := lkX0_oldestFrame_25
  have hc7 : ∀ (n k : Nat), k ≤ 0 → ∀ (x1 x2 x3 x4 : Int32) (st : ST), G k 7 [(0, .ref (ad 0)), (1, .int x1), (2, .int x2), (3, .int x3), (4, .int x4)] [] st (FX0_oldestFrame_w7 n x1 x2 x3 x4 st) := by
    intro n
    induction n with
    | zero => intros; exact oz_none X
    | succ n ih =>
      intro k hk x1 x2 x3 x4 st
      rw [FX0_oldestFrame_w7]
      refine oz_iload X dX0_oldestFrame_7 4 rfl ?_
      refine oz_bipush X (v := 12) dX0_oldestFrame_9 (by decide) ?_
      refine oz_icmp_ge X (tgt := 51) dX0_oldestFrame_11 (by decide) (fun q2 => ?_) (fun q2 => ?_)
      · refine oz_iload_n X dX0_oldestFrame_51 rfl 2 rfl ?_
        exact oz_iret X rfl hr (by omega) dX0_oldestFrame_52
      · refine oz_aload_n X dX0_oldestFrame_14 rfl 0 rfl ?_
        refine oz_getA X hin (j := 5) rfl lk25 dX0_oldestFrame_15 ?_
        refine oz_iload X dX0_oldestFrame_18 4 rfl ?_
        refine oz_iald X (j := 5) rfl (by decide) dX0_oldestFrame_20 (fun g3 => ?_)
        refine oz_iload_n X dX0_oldestFrame_21 rfl 1 rfl ?_
        refine oz_icmp_ne X (tgt := 45) dX0_oldestFrame_22 (by decide) (fun q4 => ?_) (fun q4 => ?_)
        · refine oz_iinc X (q := 4) (v := x4 + 1) (L2 := [(4, .int (x4 + 1)), (0, .ref (ad 0)), (1, .int x1), (2, .int x2), (3, .int x3)]) dX0_oldestFrame_45 rfl rfl (by decide) rfl ?_
          refine oz_goto X (tgt := 7) dX0_oldestFrame_48 (by decide) ?_
          exact oz_sub X [1, 2, 3, 4, 0] (L2 := [(0, .ref (ad 0)), (1, .int x1), (2, .int x2), (3, .int x3), (4, .int (x4 + 1))]) rfl (ih _ (by omega) x1 x2 x3 (x4 + 1) st)
        · refine oz_aload_n X dX0_oldestFrame_25 rfl 0 rfl ?_
          refine oz_iload X dX0_oldestFrame_26 4 rfl ?_
          refine oz_callV X rfl (As := [.int x4]) (S := []) (mX0_ageOf l hst D cI cZ ad x4) gX0_oldestFrame_X0_ageOf rfl rfl rfl hX0_ageOf ⟨by decide, by decide⟩ rfl rfl (Nat.le_of_ble_eq_true rfl) dX0_oldestFrame_28 (by omega) (by decide) (by decide) (fun r5 s5 => ?_)
          refine oz_iload_n X dX0_oldestFrame_31 rfl 3 rfl ?_
          refine oz_icmp_le X (tgt := 45) dX0_oldestFrame_32 (by decide) (fun q6 => ?_) (fun q6 => ?_)
          · refine oz_iinc X (q := 4) (v := x4 + 1) (L2 := [(4, .int (x4 + 1)), (0, .ref (ad 0)), (1, .int x1), (2, .int x2), (3, .int x3)]) dX0_oldestFrame_45 rfl rfl (by decide) rfl ?_
            refine oz_goto X (tgt := 7) dX0_oldestFrame_48 (by decide) ?_
            exact oz_sub X [1, 2, 3, 4, 0] (L2 := [(0, .ref (ad 0)), (1, .int x1), (2, .int x2), (3, .int x3), (4, .int (x4 + 1))]) rfl (ih _ (by omega) x1 x2 x3 (x4 + 1) s5)
          · refine oz_iload X dX0_oldestFrame_35 4 rfl ?_
            refine oz_istore_n X (L2 := [(2, .int x4), (0, .ref (ad 0)), (1, .int x1), (3, .int x3), (4, .int x4)]) dX0_oldestFrame_37 rfl (by decide) rfl ?_
            refine oz_aload_n X dX0_oldestFrame_38 rfl 1 rfl ?_
            refine oz_iload X dX0_oldestFrame_39 4 rfl ?_
            refine oz_callV X rfl (As := [.int x4]) (S := []) (mX0_ageOf l hst D cI cZ ad x4) gX0_oldestFrame_X0_ageOf rfl rfl rfl hX0_ageOf ⟨by decide, by decide⟩ rfl rfl (Nat.le_of_ble_eq_true rfl) dX0_oldestFrame_41 (by omega) (by decide) (by decide) (fun r7 s7 => ?_)
            refine oz_istore_n X (L2 := [(3, .int r7), (2, .int x4), (0, .ref (ad 0)), (1, .int x1), (4, .int x4)]) dX0_oldestFrame_44 rfl (by decide) rfl ?_
            refine oz_iinc X (q := 4) (v := x4 + 1) (L2 := [(4, .int (x4 + 1)), (3, .int r7), (2, .int x4), (0, .ref (ad 0)), (1, .int x1)]) dX0_oldestFrame_45 rfl rfl (by decide) rfl ?_
            refine oz_goto X (tgt := 7) dX0_oldestFrame_48 (by decide) ?_
            exact oz_sub X [3, 4, 2, 1, 0] (L2 := [(0, .ref (ad 0)), (1, .int x1), (2, .int x4), (3, .int r7), (4, .int (x4 + 1))]) rfl (ih _ (by omega) x1 x4 r7 (x4 + 1) s7)
  show G 0 0 [(0, .ref (ad 0)), (1, .int a1)] [] st (FX0_oldestFrame a1 st)
  unfold FX0_oldestFrame
  refine oz_iconst X (v := (-1)) dX0_oldestFrame_0 (by decide) ?_
  refine oz_istore_n X (L2 := [(2, .int (-1)), (0, .ref (ad 0)), (1, .int a1)]) dX0_oldestFrame_1 rfl (by decide) rfl ?_
  refine oz_iconst X (v := (-1)) dX0_oldestFrame_2 (by decide) ?_
  refine oz_istore_n X (L2 := [(3, .int (-1)), (2, .int (-1)), (0, .ref (ad 0)), (1, .int a1)]) dX0_oldestFrame_3 rfl (by decide) rfl ?_
  refine oz_iconst X (v := 0) dX0_oldestFrame_4 (by decide) ?_
  refine oz_istore X (L2 := [(4, .int 0), (3, .int (-1)), (2, .int (-1)), (0, .ref (ad 0)), (1, .int a1)]) dX0_oldestFrame_5 (by decide) rfl ?_
  exact oz_sub X [3, 4, 2, 1, 0] (L2 := [(0, .ref (ad 0)), (1, .int a1), (2, .int (-1)), (3, .int (-1)), (4, .int 0)]) rfl (hc7 300 _ (by omega) a1 (-1) (-1) 0 st)

/-! AlmsKernel.frameForFault -/
def FX0_frameForFault_j28 (x1 x2 : Int32) (st : ST) : Option Res := (if x2 = (-1) then bnd (FX0_oldestFrame x1 st) (fun r3 s3 => some (0, r3, s3)) else some (0, x2, st))
def FX0_frameForFault_j17 (x1 x2 : Int32) (st : ST) : Option Res := (if x2 = (-1) then bnd (FX0_borrow x1 st) (fun r6 s6 => (FX0_frameForFault_j28 x1 r6 s6)) else (FX0_frameForFault_j28 x1 x2 st))
def FX0_frameForFault (a1 : Int32) (st : ST) : Option Res := bnd (FX0_lowestEmptyFrame a1 st) (fun r7 s7 => (if r7 = (-1) then bnd (FX0_callIn a1 s7) (fun r9 s9 => (FX0_frameForFault_j17 a1 r9 s9)) else (FX0_frameForFault_j17 a1 r7 s7)))
def rmX0_frameForFault : Room := { frames := 7, cells := 1, slots := 6, locals := 105 }
theorem hX0_frameForFault : yX0_frameForFault.cls = RX0 ∧ yX0_frameForFault.cls ≠ "java/lang/invoke/MethodHandle" ∧ yX0_frameForFault.cls ≠ "java/lang/invoke/VarHandle" ∧ (parseMethodDescriptor yX0_frameForFault.desc).map (fun d => d.parameters.length) = some 1 := by decide +kernel
set_option maxHeartbeats 4000000 in
set_option maxRecDepth 100000 in
theorem mX0_frameForFault (l : Launch) (hst : l.stackTraces = false) (D : va_G) (cI cZ : ClassId) (ad : Nat → Nat) (a1 : Int32) : oz_MI l yX0_frameForFault wsX0_frameForFault rmX0_frameForFault D cI cZ RX0 0 oz_KSX0 ad oz_lyX0 1 [.ref (ad 0), .int a1] (FX0_frameForFault a1) := by
  refine oz_ofI (bytes := cX0_frameForFault) (maxL := 3) (ret := (some .int)) (T := TX0) (N := 19) (by decide) rfl rfl oz_CX0 hst (Nat.le_of_ble_eq_true rfl) ?_
  intro p e s m below meth c st A res G hr X
  have hc28 : ∀ (k : Nat), k ≤ 1 → ∀ (x1 x2 : Int32) (st : ST), G k 28 [(0, .ref (ad 0)), (1, .int x1), (2, .int x2)] [] st (FX0_frameForFault_j28 x1 x2 st) := by
    intro k hk x1 x2 st
    unfold FX0_frameForFault_j28
    refine oz_iload_n X dX0_frameForFault_28 rfl 2 rfl ?_
    refine oz_iconst X (v := (-1)) dX0_frameForFault_29 (by decide) ?_
    refine oz_icmp_ne X (tgt := 39) dX0_frameForFault_30 (by decide) (fun q2 => ?_) (fun q2 => ?_)
    · refine oz_iload_n X dX0_frameForFault_39 rfl 2 rfl ?_
      exact oz_iret X rfl hr (by omega) dX0_frameForFault_40
    · refine oz_aload_n X dX0_frameForFault_33 rfl 0 rfl ?_
      refine oz_iload_n X dX0_frameForFault_34 rfl 1 rfl ?_
      refine oz_callV X rfl (As := [.int x1]) (S := []) (mX0_oldestFrame l hst D cI cZ ad x1) gX0_frameForFault_X0_oldestFrame rfl rfl rfl hX0_oldestFrame ⟨by decide, by decide⟩ rfl rfl (Nat.le_of_ble_eq_true rfl) dX0_frameForFault_35 (by omega) (by decide) (by decide) (fun r3 s3 => ?_)
      refine oz_istore_n X (L2 := [(2, .int r3), (0, .ref (ad 0)), (1, .int x1)]) dX0_frameForFault_38 rfl (by decide) rfl ?_
      refine oz_iload_n X dX0_frameForFault_39 rfl 0 rfl ?_
      exact oz_iret X rfl hr (by omega) dX0_frameForFault_40
  have hc17 : ∀ (k : Nat), k ≤ 0 → ∀ (x1 x2 : Int32) (st : ST), G k 17 [(0, .ref (ad 0)), (1, .int x1), (2, .int x2)] [] st (FX0_frameForFault_j17 x1 x2 st) := by
    intro k hk x1 x2 st
    unfold FX0_frameForFault_j17
    refine oz_iload_n X dX0_frameForFault_17 rfl 2 rfl ?_
    refine oz_iconst X (v := (-1)) dX0_frameForFault_18 (by decide) ?_
    refine oz_icmp_ne X (tgt := 28) dX0_frameForFault_19 (by decide) (fun q5 => ?_) (fun q5 => ?_)
    · exact oz_sub X [0, 1, 2] (L2 := [(0, .ref (ad 0)), (1, .int x1), (2, .int x2)]) rfl (hc28 _ (by omega) x1 x2 st)
    · refine oz_aload_n X dX0_frameForFault_22 rfl 0 rfl ?_
      refine oz_iload_n X dX0_frameForFault_23 rfl 1 rfl ?_
      refine oz_callV X rfl (As := [.int x1]) (S := []) (mX0_borrow l hst D cI cZ ad x1) gX0_frameForFault_X0_borrow rfl rfl rfl hX0_borrow ⟨by decide, by decide⟩ rfl rfl (Nat.le_of_ble_eq_true rfl) dX0_frameForFault_24 (by omega) (by decide) (by decide) (fun r6 s6 => ?_)
      refine oz_istore_n X (L2 := [(2, .int r6), (0, .ref (ad 0)), (1, .int x1)]) dX0_frameForFault_27 rfl (by decide) rfl ?_
      exact oz_sub X [1, 2, 0] (L2 := [(0, .ref (ad 0)), (1, .int x1), (2, .int r6)]) rfl (hc28 _ (by omega) x1 r6 s6)
  show G 0 0 [(0, .ref (ad 0)), (1, .int a1)] [] st (FX0_frameForFault a1 st)
  unfold FX0_frameForFault
  refine oz_aload_n X dX0_frameForFault_0 rfl 0 rfl ?_
  refine oz_iload_n X dX0_frameForFault_1 rfl 1 rfl ?_
  refine oz_callV X rfl (As := [.int a1]) (S := []) (mX0_lowestEmptyFrame l hst D cI cZ ad a1) gX0_frameForFault_X0_lowestEmptyFrame rfl rfl rfl hX0_lowestEmptyFrame ⟨by decide, by decide⟩ rfl rfl (Nat.le_of_ble_eq_true rfl) dX0_frameForFault_2 (by omega) (by decide) (by decide) (fun r7 s7 => ?_)
  refine oz_istore_n X (L2 := [(2, .int r7), (0, .ref (ad 0)), (1, .int a1)]) dX0_frameForFault_5 rfl (by decide) rfl ?_
  refine oz_iload_n X dX0_frameForFault_6 rfl 0 rfl ?_
  refine oz_iconst X (v := (-1)) dX0_frameForFault_7 (by decide) ?_
  refine oz_icmp_ne X (tgt := 17) dX0_frameForFault_8 (by decide) (fun q8 => ?_) (fun q8 => ?_)
  · exact oz_sub X [1, 2, 0] (L2 := [(0, .ref (ad 0)), (1, .int a1), (2, .int r7)]) rfl (hc17 _ (by omega) a1 r7 s7)
  · refine oz_aload_n X dX0_frameForFault_11 rfl 1 rfl ?_
    refine oz_iload_n X dX0_frameForFault_12 rfl 2 rfl ?_
    refine oz_callV X rfl (As := [.int a1]) (S := []) (mX0_callIn l hst D cI cZ ad a1) gX0_frameForFault_X0_callIn rfl rfl rfl hX0_callIn ⟨by decide, by decide⟩ rfl rfl (Nat.le_of_ble_eq_true rfl) dX0_frameForFault_13 (by omega) (by decide) (by decide) (fun r9 s9 => ?_)
    refine oz_istore_n X (L2 := [(2, .int r9), (0, .ref (ad 0)), (1, .int a1)]) dX0_frameForFault_16 rfl (by decide) rfl ?_
    exact oz_sub X [1, 2, 0] (L2 := [(0, .ref (ad 0)), (1, .int a1), (2, .int r9)]) rfl (hc17 _ (by omega) a1 r9 s9)

/-! AlmsKernel.touch -/
def FX0_touch (a1 a2 : Int32) (st : ST) : Option Res := bnd (FX0_isProcess a1 st) (fun r1 s1 => (if r1 = 0 then some (1, 0, s1) else bnd (FX0_isPage a2 s1) (fun r3 s3 => (if r3 = 0 then some (1, 0, s3) else gd (oz_in a1 5) ((if s3 3 a1.toNatClampNeg = 0 then bnd (FX0_frameWithPage a1 a2 s3) (fun r7 s7 => bnd (FX0_isFrame r7 s7) (fun r8 s8 => (if r8 = 0 then bnd (FX0_frameForFault a1 s8) (fun r10 s10 => bnd (FX0_isFrame r10 s10) (fun r11 s11 => (if r11 = 0 then some (2, 0, s11) else gd (oz_in r10 12) (stp (oz_se s11 7 r10.toNatClampNeg a2) (fun s13 => gd (oz_in r10 12) (stp (oz_se s13 8 r10.toNatClampNeg 0) (fun s14 => gd (oz_in a1 5) (stp (oz_se s14 3 a1.toNatClampNeg 1) (fun s15 => gd (oz_in a1 5) (gd (oz_in a1 5) (stp (oz_se s15 4 a1.toNatClampNeg ((s15 4 a1.toNatClampNeg) + 1)) (fun s17 => some (0, r10, s17))))))))))))) else gd (oz_in r7 12) (stp (oz_se s8 9 r7.toNatClampNeg (s8 0 16)) (fun s18 => some (0, (-1), s18)))))) else some (2, 0, s3)))))))
def rmX0_touch : Room := { frames := 8, cells := 2, slots := 12, locals := 127 }
theorem hX0_touch : yX0_touch.cls = RX0 ∧ yX0_touch.cls ≠ "java/lang/invoke/MethodHandle" ∧ yX0_touch.cls ≠ "java/lang/invoke/VarHandle" ∧ (parseMethodDescriptor yX0_touch.desc).map (fun d => d.parameters.length) = some 2 := by decide +kernel
theorem lkX0_touch_16 : Cond.fieldLink RX0 16 RX0 (TX0 2).2.1 (TX0 2).2.2.1 ∈ wsX0_touch := by decide +kernel
theorem lkX0_touch_19 : Cond.fieldLink RX0 19 RX0 (TX0 3).2.1 (TX0 3).2.2.1 ∈ wsX0_touch := by decide +kernel
theorem lkX0_touch_28 : Cond.fieldLink RX0 28 RX0 (TX0 6).2.1 (TX0 6).2.2.1 ∈ wsX0_touch := by decide +kernel
theorem lkX0_touch_31 : Cond.fieldLink RX0 31 RX0 (TX0 7).2.1 (TX0 7).2.2.1 ∈ wsX0_touch := by decide +kernel
theorem lkX0_touch_35 : Cond.fieldLink RX0 35 RX0 (TX0 8).2.1 (TX0 8).2.2.1 ∈ wsX0_touch := by decide +kernel
theorem lkX0_touch_60 : Cond.fieldLink RX0 60 RX0 (TX0 16).2.1 (TX0 16).2.2.1 ∈ wsX0_touch := by decide +kernel
set_option maxHeartbeats 4000000 in
set_option maxRecDepth 100000 in
theorem mX0_touch (l : Launch) (hst : l.stackTraces = false) (D : va_G) (cI cZ : ClassId) (ad : Nat → Nat) (a1 a2 : Int32) : oz_MI l yX0_touch wsX0_touch rmX0_touch D cI cZ RX0 0 oz_KSX0 ad oz_lyX0 2 [.ref (ad 0), .int a1, .int a2] (FX0_touch a1 a2) := by
  refine oz_ofI (bytes := cX0_touch) (maxL := 5) (ret := (some .int)) (T := TX0) (N := 19) (by decide) rfl rfl oz_CX0 hst (Nat.le_of_ble_eq_true rfl) ?_
  intro p e s m below meth c st A res G hr X
  have hin : ∀ w ∈ u_ws RX0 TX0 19, w ∈ wsX0_touch := fun w h => List.mem_cons_of_mem _ (List.mem_append_left _ (List.mem_append_left _ (List.mem_append_right _ h)))
  have lk16 := lkX0_touch_16
  have lk19 := lkX0_touch_19
  have lk28 := lkX0_touch_28
  have lk31 := lkX0_touch_31
  have lk35 := lkX0_touch_35
  have lk60 := lkX0_touch_60
  have tk1 : Cond.classLink RX0 79 (oz_exn 1) ∈ wsX0_touch := by decide +kernel
  have ti1 : Cond.initialized (oz_exn 1) ∈ wsX0_touch := by decide +kernel
  have tg1 : ∀ w ∈ (vx_atS RX0 83 (oz_exn 1) oz_names).filter goodWord, w ∈ wsX0_touch := fun w h => List.mem_cons_of_mem _ (List.mem_append_left _ (List.mem_append_right _ h))
  have tk2 : Cond.classLink RX0 93 (oz_exn 2) ∈ wsX0_touch := by decide +kernel
  have ti2 : Cond.initialized (oz_exn 2) ∈ wsX0_touch := by decide +kernel
  have tg2 : ∀ w ∈ (vx_atS RX0 97 (oz_exn 2) oz_names).filter goodWord, w ∈ wsX0_touch := fun w h => List.mem_cons_of_mem _ (List.mem_append_right _ h)
  show G 0 0 [(0, .ref (ad 0)), (1, .int a1), (2, .int a2)] [] st (FX0_touch a1 a2 st)
  unfold FX0_touch
  refine oz_iload_n X dX0_touch_0 rfl 1 rfl ?_
  refine oz_callS X rfl (As := [.int a1]) (S := []) (mX0_isProcess l hst D cI cZ ad a1) gX0_touch_X0_isProcess rfl rfl rfl hX0_isProcess ⟨by decide, by decide⟩ rfl rfl (Nat.le_of_ble_eq_true rfl) dX0_touch_1 (by omega) (by decide) (by decide) (fun r1 s1 => ?_)
  refine oz_if_eq X (tgt := 14) dX0_touch_4 (by decide) (fun q2 => ?_) (fun q2 => ?_)
  · exact oz_throw X rfl 1 (text := "no such process or page") (by decide) (oz_KSX0_122) (by decide +kernel) tk1 ti1 tg1 oz_tbX0_1 oz_twX0_1 dX0_touch_14 dX0_touch_17 dX0_touch_18 dX0_touch_20 dX0_touch_23 (by decide) (by decide) (by omega) (by decide) (by decide)
  · refine oz_iload_n X dX0_touch_7 rfl 2 rfl ?_
    refine oz_callS X rfl (As := [.int a2]) (S := []) (mX0_isPage l hst D cI cZ ad a2) gX0_touch_X0_isPage rfl rfl rfl hX0_isPage ⟨by decide, by decide⟩ rfl rfl (Nat.le_of_ble_eq_true rfl) dX0_touch_8 (by omega) (by decide) (by decide) (fun r3 s3 => ?_)
    refine oz_if_ne X (tgt := 24) dX0_touch_11 (by decide) (fun q4 => ?_) (fun q4 => ?_)
    · refine oz_aload_n X dX0_touch_24 rfl 0 rfl ?_
      refine oz_getA X hin (j := 2) rfl lk16 dX0_touch_25 ?_
      refine oz_iload_n X dX0_touch_28 rfl 1 rfl ?_
      refine oz_iald X (j := 2) rfl (by decide) dX0_touch_29 (fun g5 => ?_)
      refine oz_if_eq X (tgt := 43) dX0_touch_30 (by decide) (fun q6 => ?_) (fun q6 => ?_)
      · refine oz_aload_n X dX0_touch_43 rfl 0 rfl ?_
        refine oz_iload_n X dX0_touch_44 rfl 1 rfl ?_
        refine oz_iload_n X dX0_touch_45 rfl 2 rfl ?_
        refine oz_callV X rfl (As := [.int a1, .int a2]) (S := []) (mX0_frameWithPage l hst D cI cZ ad a1 a2) gX0_touch_X0_frameWithPage rfl rfl rfl hX0_frameWithPage ⟨by decide, by decide⟩ rfl rfl (Nat.le_of_ble_eq_true rfl) dX0_touch_46 (by omega) (by decide) (by decide) (fun r7 s7 => ?_)
        refine oz_istore_n X (L2 := [(3, .int r7), (0, .ref (ad 0)), (1, .int a1), (2, .int a2)]) dX0_touch_49 rfl (by decide) rfl ?_
        refine oz_iload_n X dX0_touch_50 rfl 0 rfl ?_
        refine oz_callS X rfl (As := [.int r7]) (S := []) (mX0_isFrame l hst D cI cZ ad r7) gX0_touch_X0_isFrame rfl rfl rfl hX0_isFrame ⟨by decide, by decide⟩ rfl rfl (Nat.le_of_ble_eq_true rfl) dX0_touch_51 (by omega) (by decide) (by decide) (fun r8 s8 => ?_)
        refine oz_if_eq X (tgt := 69) dX0_touch_54 (by decide) (fun q9 => ?_) (fun q9 => ?_)
        · refine oz_aload_n X dX0_touch_69 rfl 1 rfl ?_
          refine oz_iload_n X dX0_touch_70 rfl 2 rfl ?_
          refine oz_callV X rfl (As := [.int a1]) (S := []) (mX0_frameForFault l hst D cI cZ ad a1) gX0_touch_X0_frameForFault rfl rfl rfl hX0_frameForFault ⟨by decide, by decide⟩ rfl rfl (Nat.le_of_ble_eq_true rfl) dX0_touch_71 (by omega) (by decide) (by decide) (fun r10 s10 => ?_)
          refine oz_istore X (L2 := [(4, .int r10), (3, .int r7), (0, .ref (ad 0)), (1, .int a1), (2, .int a2)]) dX0_touch_74 (by decide) rfl ?_
          refine oz_iload X dX0_touch_76 0 rfl ?_
          refine oz_callS X rfl (As := [.int r10]) (S := []) (mX0_isFrame l hst D cI cZ ad r10) gX0_touch_X0_isFrame rfl rfl rfl hX0_isFrame ⟨by decide, by decide⟩ rfl rfl (Nat.le_of_ble_eq_true rfl) dX0_touch_78 (by omega) (by decide) (by decide) (fun r11 s11 => ?_)
          refine oz_if_ne X (tgt := 94) dX0_touch_81 (by decide) (fun q12 => ?_) (fun q12 => ?_)
          · refine oz_aload_n X dX0_touch_94 rfl 2 rfl ?_
            refine oz_getA X hin (j := 6) rfl lk28 dX0_touch_95 ?_
            refine oz_iload X dX0_touch_98 0 rfl ?_
            refine oz_iload_n X dX0_touch_100 rfl 4 rfl ?_
            refine oz_iast X (j := 6) rfl (by decide) dX0_touch_101 (fun s13 e13 g13 => ?_)
            refine oz_aload_n X dX0_touch_102 rfl 2 rfl ?_
            refine oz_getA X hin (j := 7) rfl lk31 dX0_touch_103 ?_
            refine oz_iload X dX0_touch_106 0 rfl ?_
            refine oz_iconst X (v := 0) dX0_touch_108 (by decide) ?_
            refine oz_zast X (j := 7) (v2 := 0) rfl (by decide) rfl dX0_touch_109 (fun s14 e14 g14 => ?_)
            refine oz_aload_n X dX0_touch_110 rfl 2 rfl ?_
            refine oz_getA X hin (j := 2) rfl lk16 dX0_touch_111 ?_
            refine oz_iload_n X dX0_touch_114 rfl 3 rfl ?_
            refine oz_iconst X (v := 1) dX0_touch_115 (by decide) ?_
            refine oz_iast X (j := 2) rfl (by decide) dX0_touch_116 (fun s15 e15 g15 => ?_)
            refine oz_aload_n X dX0_touch_117 rfl 2 rfl ?_
            refine oz_getA X hin (j := 3) rfl lk19 dX0_touch_118 ?_
            refine oz_iload_n X dX0_touch_121 rfl 3 rfl ?_
            refine oz_dup2 X dX0_touch_122 rfl rfl ?_
            refine oz_iald X (j := 3) rfl (by decide) dX0_touch_123 (fun g16 => ?_)
            refine oz_iconst X (v := 1) dX0_touch_124 (by decide) ?_
            refine oz_iadd X dX0_touch_125 ?_
            refine oz_iast X (j := 3) rfl (by decide) dX0_touch_126 (fun s17 e17 g17 => ?_)
            refine oz_iload X dX0_touch_127 0 rfl ?_
            exact oz_iret X rfl hr (by omega) dX0_touch_129
          · exact oz_throw X rfl 2 (text := "the touch is refused") (by decide) (oz_KSX0_133) (by decide +kernel) tk2 ti2 tg2 oz_tbX0_2 oz_twX0_2 dX0_touch_84 dX0_touch_87 dX0_touch_88 dX0_touch_90 dX0_touch_93 (by decide) (by decide) (by omega) (by decide) (by decide)
        · refine oz_aload_n X dX0_touch_57 rfl 1 rfl ?_
          refine oz_getA X hin (j := 8) rfl lk35 dX0_touch_58 ?_
          refine oz_iload_n X dX0_touch_61 rfl 0 rfl ?_
          refine oz_aload_n X dX0_touch_62 rfl 1 rfl ?_
          refine oz_getS X hin (j := 16) rfl lk60 dX0_touch_63 ?_
          refine oz_iast X (j := 8) rfl (by decide) dX0_touch_66 (fun s18 e18 g18 => ?_)
          refine oz_iconst X (v := (-1)) dX0_touch_67 (by decide) ?_
          exact oz_iret X rfl hr (by omega) dX0_touch_68
      · exact oz_throw X rfl 2 (text := "the process is not awake") (by decide) (oz_KSX0_124) (by decide +kernel) tk2 ti2 tg2 oz_tbX0_2 oz_twX0_2 dX0_touch_33 dX0_touch_36 dX0_touch_37 dX0_touch_39 dX0_touch_42 (by decide) (by decide) (by omega) (by decide) (by decide)
    · exact oz_throw X rfl 1 (text := "no such process or page") (by decide) (oz_KSX0_122) (by decide +kernel) tk1 ti1 tg1 oz_tbX0_1 oz_twX0_1 dX0_touch_14 dX0_touch_17 dX0_touch_18 dX0_touch_20 dX0_touch_23 (by decide) (by decide) (by omega) (by decide) (by decide)

/-! AlmsKernel.isLoan -/
def FX0_isLoan (a1 : Int32) (st : ST) : Option Res := (if a1 < 0 then some (0, 0, st) else (if 60 ≤ a1 then some (0, 0, st) else (if st 0 14 ≤ a1 then some (0, 0, st) else some (0, 1, st))))
def rmX0_isLoan : Room := { frames := 0, cells := 0, slots := 0, locals := 0 }
theorem hX0_isLoan : yX0_isLoan.cls = RX0 ∧ yX0_isLoan.cls ≠ "java/lang/invoke/MethodHandle" ∧ yX0_isLoan.cls ≠ "java/lang/invoke/VarHandle" ∧ (parseMethodDescriptor yX0_isLoan.desc).map (fun d => d.parameters.length) = some 1 := by decide +kernel
theorem lkX0_isLoan_53 : Cond.fieldLink RX0 53 RX0 (TX0 14).2.1 (TX0 14).2.2.1 ∈ wsX0_isLoan := by decide +kernel
set_option maxHeartbeats 4000000 in
set_option maxRecDepth 100000 in
theorem mX0_isLoan (l : Launch) (hst : l.stackTraces = false) (D : va_G) (cI cZ : ClassId) (ad : Nat → Nat) (a1 : Int32) : oz_MI l yX0_isLoan wsX0_isLoan rmX0_isLoan D cI cZ RX0 0 oz_KSX0 ad oz_lyX0 0 [.ref (ad 0), .int a1] (FX0_isLoan a1) := by
  refine oz_ofI (bytes := cX0_isLoan) (maxL := 2) (ret := (some .boolean)) (T := TX0) (N := 19) (by decide) rfl rfl oz_CX0 hst (Nat.le_of_ble_eq_true rfl) ?_
  intro p e s m below meth c st A res G hr X
  have hin : ∀ w ∈ u_ws RX0 TX0 19, w ∈ wsX0_isLoan := fun w h => List.mem_cons_of_mem _ (List.mem_append_right _ h)
  have lk53 := lkX0_isLoan_53
  show G 0 0 [(0, .ref (ad 0)), (1, .int a1)] [] st (FX0_isLoan a1 st)
  unfold FX0_isLoan
  refine oz_iload_n X dX0_isLoan_0 rfl 1 rfl ?_
  refine oz_if_lt X (tgt := 22) dX0_isLoan_1 (by decide) (fun q1 => ?_) (fun q1 => ?_)
  · refine oz_iconst X (v := 0) dX0_isLoan_22 (by decide) ?_
    exact oz_zret X rfl hr rfl (by omega) dX0_isLoan_23
  · refine oz_iload_n X dX0_isLoan_4 rfl 1 rfl ?_
    refine oz_bipush X (v := 60) dX0_isLoan_5 (by decide) ?_
    refine oz_icmp_ge X (tgt := 22) dX0_isLoan_7 (by decide) (fun q2 => ?_) (fun q2 => ?_)
    · refine oz_iconst X (v := 0) dX0_isLoan_22 (by decide) ?_
      exact oz_zret X rfl hr rfl (by omega) dX0_isLoan_23
    · refine oz_iload_n X dX0_isLoan_10 rfl 1 rfl ?_
      refine oz_aload_n X dX0_isLoan_11 rfl 0 rfl ?_
      refine oz_getS X hin (j := 14) rfl lk53 dX0_isLoan_12 ?_
      refine oz_icmp_ge X (tgt := 22) dX0_isLoan_15 (by decide) (fun q3 => ?_) (fun q3 => ?_)
      · refine oz_iconst X (v := 0) dX0_isLoan_22 (by decide) ?_
        exact oz_zret X rfl hr rfl (by omega) dX0_isLoan_23
      · refine oz_iconst X (v := 1) dX0_isLoan_18 (by decide) ?_
        refine oz_goto X (tgt := 23) dX0_isLoan_19 (by decide) ?_
        exact oz_zret X rfl hr rfl (by omega) dX0_isLoan_23

/-! AlmsKernel.payBack -/
def FX0_payBack (a1 : Int32) (st : ST) : Option Res := bnd (FX0_isLoan a1 st) (fun r1 s1 => (if r1 = 0 then some (1, 0, s1) else gd (oz_in a1 60) ((if s1 13 a1.toNatClampNeg = 0 then some (2, 0, s1) else gd (oz_in a1 60) (bnd (FX0_isComing (s1 10 a1.toNatClampNeg) s1) (fun r6 s6 => (if r6 = 0 then bnd (FX0_endLoan a1 s6) (fun _ s8 => gd (oz_in a1 60) (some (0, s8 11 a1.toNatClampNeg, s8))) else some (2, 0, s6))))))))
def rmX0_payBack : Room := { frames := 6, cells := 1, slots := 6, locals := 82 }
theorem hX0_payBack : yX0_payBack.cls = RX0 ∧ yX0_payBack.cls ≠ "java/lang/invoke/MethodHandle" ∧ yX0_payBack.cls ≠ "java/lang/invoke/VarHandle" ∧ (parseMethodDescriptor yX0_payBack.desc).map (fun d => d.parameters.length) = some 1 := by decide +kernel
theorem lkX0_payBack_38 : Cond.fieldLink RX0 38 RX0 (TX0 9).2.1 (TX0 9).2.2.1 ∈ wsX0_payBack := by decide +kernel
theorem lkX0_payBack_41 : Cond.fieldLink RX0 41 RX0 (TX0 10).2.1 (TX0 10).2.2.1 ∈ wsX0_payBack := by decide +kernel
theorem lkX0_payBack_47 : Cond.fieldLink RX0 47 RX0 (TX0 12).2.1 (TX0 12).2.2.1 ∈ wsX0_payBack := by decide +kernel
set_option maxHeartbeats 4000000 in
set_option maxRecDepth 100000 in
theorem mX0_payBack (l : Launch) (hst : l.stackTraces = false) (D : va_G) (cI cZ : ClassId) (ad : Nat → Nat) (a1 : Int32) : oz_MI l yX0_payBack wsX0_payBack rmX0_payBack D cI cZ RX0 0 oz_KSX0 ad oz_lyX0 1 [.ref (ad 0), .int a1] (FX0_payBack a1) := by
  refine oz_ofI (bytes := cX0_payBack) (maxL := 2) (ret := (some .int)) (T := TX0) (N := 19) (by decide) rfl rfl oz_CX0 hst (Nat.le_of_ble_eq_true rfl) ?_
  intro p e s m below meth c st A res G hr X
  have hin : ∀ w ∈ u_ws RX0 TX0 19, w ∈ wsX0_payBack := fun w h => List.mem_cons_of_mem _ (List.mem_append_left _ (List.mem_append_left _ (List.mem_append_right _ h)))
  have lk38 := lkX0_payBack_38
  have lk41 := lkX0_payBack_41
  have lk47 := lkX0_payBack_47
  have tk1 : Cond.classLink RX0 79 (oz_exn 1) ∈ wsX0_payBack := by decide +kernel
  have ti1 : Cond.initialized (oz_exn 1) ∈ wsX0_payBack := by decide +kernel
  have tg1 : ∀ w ∈ (vx_atS RX0 83 (oz_exn 1) oz_names).filter goodWord, w ∈ wsX0_payBack := fun w h => List.mem_cons_of_mem _ (List.mem_append_left _ (List.mem_append_right _ h))
  have tk2 : Cond.classLink RX0 93 (oz_exn 2) ∈ wsX0_payBack := by decide +kernel
  have ti2 : Cond.initialized (oz_exn 2) ∈ wsX0_payBack := by decide +kernel
  have tg2 : ∀ w ∈ (vx_atS RX0 97 (oz_exn 2) oz_names).filter goodWord, w ∈ wsX0_payBack := fun w h => List.mem_cons_of_mem _ (List.mem_append_right _ h)
  show G 0 0 [(0, .ref (ad 0)), (1, .int a1)] [] st (FX0_payBack a1 st)
  unfold FX0_payBack
  refine oz_aload_n X dX0_payBack_0 rfl 0 rfl ?_
  refine oz_iload_n X dX0_payBack_1 rfl 1 rfl ?_
  refine oz_callV X rfl (As := [.int a1]) (S := []) (mX0_isLoan l hst D cI cZ ad a1) gX0_payBack_X0_isLoan rfl rfl rfl hX0_isLoan ⟨by decide, by decide⟩ rfl rfl (Nat.le_of_ble_eq_true rfl) dX0_payBack_2 (by omega) (by decide) (by decide) (fun r1 s1 => ?_)
  refine oz_if_ne X (tgt := 18) dX0_payBack_5 (by decide) (fun q2 => ?_) (fun q2 => ?_)
  · refine oz_aload_n X dX0_payBack_18 rfl 0 rfl ?_
    refine oz_getA X hin (j := 12) rfl lk47 dX0_payBack_19 ?_
    refine oz_iload_n X dX0_payBack_22 rfl 1 rfl ?_
    refine oz_zald X (j := 12) rfl (by decide) dX0_payBack_23 (fun g3 => ?_)
    refine oz_if_eq X (tgt := 40) dX0_payBack_24 (by decide) (fun q4 => ?_) (fun q4 => ?_)
    · exact oz_throw X rfl 2 (text := "the loan does not last, or its page is coming") (by decide) (oz_KSX0_143) (by decide +kernel) tk2 ti2 tg2 oz_tbX0_2 oz_twX0_2 dX0_payBack_40 dX0_payBack_43 dX0_payBack_44 dX0_payBack_46 dX0_payBack_49 (by decide) (by decide) (by omega) (by decide) (by decide)
    · refine oz_aload_n X dX0_payBack_27 rfl 0 rfl ?_
      refine oz_aload_n X dX0_payBack_28 rfl 0 rfl ?_
      refine oz_getA X hin (j := 9) rfl lk38 dX0_payBack_29 ?_
      refine oz_iload_n X dX0_payBack_32 rfl 1 rfl ?_
      refine oz_iald X (j := 9) rfl (by decide) dX0_payBack_33 (fun g5 => ?_)
      refine oz_callV X rfl (As := [.int (s1 10 a1.toNatClampNeg)]) (S := []) (mX0_isComing l hst D cI cZ ad (s1 10 a1.toNatClampNeg)) gX0_payBack_X0_isComing rfl rfl rfl hX0_isComing ⟨by decide, by decide⟩ rfl rfl (Nat.le_of_ble_eq_true rfl) dX0_payBack_34 (by omega) (by decide) (by decide) (fun r6 s6 => ?_)
      refine oz_if_eq X (tgt := 50) dX0_payBack_37 (by decide) (fun q7 => ?_) (fun q7 => ?_)
      · refine oz_aload_n X dX0_payBack_50 rfl 0 rfl ?_
        refine oz_iload_n X dX0_payBack_51 rfl 1 rfl ?_
        refine oz_callVv X rfl (As := [.int a1]) (S := []) (mX0_endLoan l hst D cI cZ ad a1) gX0_payBack_X0_endLoan rfl rfl rfl hX0_endLoan ⟨by decide, by decide⟩ rfl rfl (Nat.le_of_ble_eq_true rfl) dX0_payBack_52 (by omega) (by decide) (by decide) (fun s8 => ?_)
        refine oz_aload_n X dX0_payBack_55 rfl 0 rfl ?_
        refine oz_getA X hin (j := 10) rfl lk41 dX0_payBack_56 ?_
        refine oz_iload_n X dX0_payBack_59 rfl 1 rfl ?_
        refine oz_iald X (j := 10) rfl (by decide) dX0_payBack_60 (fun g9 => ?_)
        exact oz_iret X rfl hr (by omega) dX0_payBack_61
      · exact oz_throw X rfl 2 (text := "the loan does not last, or its page is coming") (by decide) (oz_KSX0_143) (by decide +kernel) tk2 ti2 tg2 oz_tbX0_2 oz_twX0_2 dX0_payBack_40 dX0_payBack_43 dX0_payBack_44 dX0_payBack_46 dX0_payBack_49 (by decide) (by decide) (by omega) (by decide) (by decide)
  · exact oz_throw X rfl 1 (text := "no such loan") (by decide) (oz_KSX0_138) (by decide +kernel) tk1 ti1 tg1 oz_tbX0_1 oz_twX0_1 dX0_payBack_8 dX0_payBack_11 dX0_payBack_12 dX0_payBack_14 dX0_payBack_17 (by decide) (by decide) (by omega) (by decide) (by decide)

/-! AlmsKernel.payWages -/
def FX0_payWages_w2 : Nat → Int32 → ST → Option Res
  | 0, _, _ => none
  | n + 1, x1, st => (if 5 ≤ x1 then some (0, 0, st) else gd (oz_in x1 5) ((if st 3 x1.toNatClampNeg = 2 then (FX0_payWages_w2 n (x1 + 1) st) else gd (oz_in x1 5) (gd (oz_in x1 5) (gd (oz_in x1 5) (stp (oz_se st 2 x1.toNatClampNeg ((st 2 x1.toNatClampNeg) + (st 1 x1.toNatClampNeg))) (fun s7 => (FX0_payWages_w2 n (x1 + 1) s7))))))))
def FX0_payWages (st : ST) : Option Res := (FX0_payWages_w2 300 0 st)
def rmX0_payWages : Room := { frames := 0, cells := 0, slots := 0, locals := 0 }
theorem hX0_payWages : yX0_payWages.cls = RX0 ∧ yX0_payWages.cls ≠ "java/lang/invoke/MethodHandle" ∧ yX0_payWages.cls ≠ "java/lang/invoke/VarHandle" ∧ (parseMethodDescriptor yX0_payWages.desc).map (fun d => d.parameters.length) = some 0 := by decide +kernel
theorem lkX0_payWages_9 : Cond.fieldLink RX0 9 RX0 (TX0 0).2.1 (TX0 0).2.2.1 ∈ wsX0_payWages := by decide +kernel
theorem lkX0_payWages_13 : Cond.fieldLink RX0 13 RX0 (TX0 1).2.1 (TX0 1).2.2.1 ∈ wsX0_payWages := by decide +kernel
theorem lkX0_payWages_16 : Cond.fieldLink RX0 16 RX0 (TX0 2).2.1 (TX0 2).2.2.1 ∈ wsX0_payWages := by decide +kernel
set_option maxHeartbeats 4000000 in
set_option maxRecDepth 100000 in
theorem mX0_payWages (l : Launch) (hst : l.stackTraces = false) (D : va_G) (cI cZ : ClassId) (ad : Nat → Nat) : oz_MV l yX0_payWages wsX0_payWages rmX0_payWages D cI cZ RX0 0 oz_KSX0 ad oz_lyX0 0 [.ref (ad 0)] (FX0_payWages) := by
  refine oz_ofV (bytes := cX0_payWages) (maxL := 2) (ret := none) (T := TX0) (N := 19) (by decide) rfl rfl oz_CX0 hst (Nat.le_of_ble_eq_true rfl) ?_
  intro p e s m below meth c st A res G hr X
  have hin : ∀ w ∈ u_ws RX0 TX0 19, w ∈ wsX0_payWages := fun w h => List.mem_cons_of_mem _ (List.mem_append_right _ h)
  have lk9 := lkX0_payWages_9
  have lk13 := lkX0_payWages_13
  have lk16 := lkX0_payWages_16
  have hc2 : ∀ (n k : Nat), k ≤ 0 → ∀ (x1 : Int32) (st : ST), G k 2 [(0, .ref (ad 0)), (1, .int x1)] [] st (FX0_payWages_w2 n x1 st) := by
    intro n
    induction n with
    | zero => intros; exact oz_none X
    | succ n ih =>
      intro k hk x1 st
      rw [FX0_payWages_w2]
      refine oz_iload_n X dX0_payWages_2 rfl 1 rfl ?_
      refine oz_iconst X (v := 5) dX0_payWages_3 (by decide) ?_
      refine oz_icmp_ge X (tgt := 38) dX0_payWages_4 (by decide) (fun q2 => ?_) (fun q2 => ?_)
      · exact oz_vret X rfl hr (by omega) dX0_payWages_38
      · refine oz_aload_n X dX0_payWages_7 rfl 0 rfl ?_
        refine oz_getA X hin (j := 2) rfl lk16 dX0_payWages_8 ?_
        refine oz_iload_n X dX0_payWages_11 rfl 1 rfl ?_
        refine oz_iald X (j := 2) rfl (by decide) dX0_payWages_12 (fun g3 => ?_)
        refine oz_iconst X (v := 2) dX0_payWages_13 (by decide) ?_
        refine oz_icmp_eq X (tgt := 32) dX0_payWages_14 (by decide) (fun q4 => ?_) (fun q4 => ?_)
        · refine oz_iinc X (q := 1) (v := x1 + 1) (L2 := [(1, .int (x1 + 1)), (0, .ref (ad 0))]) dX0_payWages_32 rfl rfl (by decide) rfl ?_
          refine oz_goto X (tgt := 2) dX0_payWages_35 (by decide) ?_
          exact oz_sub X [1, 0] (L2 := [(0, .ref (ad 0)), (1, .int (x1 + 1))]) rfl (ih _ (by omega) (x1 + 1) st)
        · refine oz_aload_n X dX0_payWages_17 rfl 0 rfl ?_
          refine oz_getA X hin (j := 1) rfl lk13 dX0_payWages_18 ?_
          refine oz_iload_n X dX0_payWages_21 rfl 1 rfl ?_
          refine oz_dup2 X dX0_payWages_22 rfl rfl ?_
          refine oz_iald X (j := 1) rfl (by decide) dX0_payWages_23 (fun g5 => ?_)
          refine oz_aload_n X dX0_payWages_24 rfl 0 rfl ?_
          refine oz_getA X hin (j := 0) rfl lk9 dX0_payWages_25 ?_
          refine oz_iload_n X dX0_payWages_28 rfl 1 rfl ?_
          refine oz_iald X (j := 0) rfl (by decide) dX0_payWages_29 (fun g6 => ?_)
          refine oz_iadd X dX0_payWages_30 ?_
          refine oz_iast X (j := 1) rfl (by decide) dX0_payWages_31 (fun s7 e7 g7 => ?_)
          refine oz_iinc X (q := 1) (v := x1 + 1) (L2 := [(1, .int (x1 + 1)), (0, .ref (ad 0))]) dX0_payWages_32 rfl rfl (by decide) rfl ?_
          refine oz_goto X (tgt := 2) dX0_payWages_35 (by decide) ?_
          exact oz_sub X [1, 0] (L2 := [(0, .ref (ad 0)), (1, .int (x1 + 1))]) rfl (ih _ (by omega) (x1 + 1) s7)
  show G 0 0 [(0, .ref (ad 0))] [] st (FX0_payWages st)
  unfold FX0_payWages
  refine oz_iconst X (v := 0) dX0_payWages_0 (by decide) ?_
  refine oz_istore_n X (L2 := [(1, .int 0), (0, .ref (ad 0))]) dX0_payWages_1 rfl (by decide) rfl ?_
  exact oz_sub X [1, 0] (L2 := [(0, .ref (ad 0)), (1, .int 0)]) rfl (hc2 300 _ (by omega) 0 st)

/-! AlmsKernel.putToSleep -/
def FX0_putToSleep_j83 (x1 : Int32) (st : ST) : Option Res := gd (oz_in x1 5) (stp (oz_se st 3 x1.toNatClampNeg 2) (fun s2 => some (0, 0, s2)))
def FX0_putToSleep_w39 : Nat → Int32 → Int32 → ST → Option Res
  | 0, _, _, _ => none
  | n + 1, x1, x2, st => (if 60 ≤ x2 then (FX0_putToSleep_j83 x1 st) else (if st 0 14 ≤ x2 then (FX0_putToSleep_j83 x1 st) else gd (oz_in x2 60) ((if st 13 x2.toNatClampNeg = 0 then (FX0_putToSleep_w39 n x1 (x2 + 1) st) else gd (oz_in x2 60) ((if st 12 x2.toNatClampNeg = x1 then bnd (FX0_endLoan x2 st) (fun _ s10 => (FX0_putToSleep_w39 n x1 (x2 + 1) s10)) else (FX0_putToSleep_w39 n x1 (x2 + 1) st)))))))
def FX0_putToSleep_w2 : Nat → Int32 → Int32 → ST → Option Res
  | 0, _, _, _ => none
  | n + 1, x1, x2, st => (if 12 ≤ x2 then (FX0_putToSleep_w39 300 x1 0 st) else gd (oz_in x2 12) ((if st 6 x2.toNatClampNeg = x1 then bnd (FX0_isComing x2 st) (fun r15 s15 => (if r15 = 0 then (FX0_putToSleep_w2 n x1 (x2 + 1) s15) else bnd (FX0_dropPage x2 s15) (fun _ s17 => (FX0_putToSleep_w2 n x1 (x2 + 1) s17)))) else (FX0_putToSleep_w2 n x1 (x2 + 1) st))))
def FX0_putToSleep (a1 : Int32) (st : ST) : Option Res := (FX0_putToSleep_w2 300 a1 0 st)
def rmX0_putToSleep : Room := { frames := 2, cells := 0, slots := 0, locals := 43 }
theorem hX0_putToSleep : yX0_putToSleep.cls = RX0 ∧ yX0_putToSleep.cls ≠ "java/lang/invoke/MethodHandle" ∧ yX0_putToSleep.cls ≠ "java/lang/invoke/VarHandle" ∧ (parseMethodDescriptor yX0_putToSleep.desc).map (fun d => d.parameters.length) = some 1 := by decide +kernel
theorem lkX0_putToSleep_16 : Cond.fieldLink RX0 16 RX0 (TX0 2).2.1 (TX0 2).2.2.1 ∈ wsX0_putToSleep := by decide +kernel
theorem lkX0_putToSleep_25 : Cond.fieldLink RX0 25 RX0 (TX0 5).2.1 (TX0 5).2.2.1 ∈ wsX0_putToSleep := by decide +kernel
theorem lkX0_putToSleep_44 : Cond.fieldLink RX0 44 RX0 (TX0 11).2.1 (TX0 11).2.2.1 ∈ wsX0_putToSleep := by decide +kernel
theorem lkX0_putToSleep_47 : Cond.fieldLink RX0 47 RX0 (TX0 12).2.1 (TX0 12).2.2.1 ∈ wsX0_putToSleep := by decide +kernel
theorem lkX0_putToSleep_53 : Cond.fieldLink RX0 53 RX0 (TX0 14).2.1 (TX0 14).2.2.1 ∈ wsX0_putToSleep := by decide +kernel
set_option maxHeartbeats 4000000 in
set_option maxRecDepth 100000 in
theorem mX0_putToSleep (l : Launch) (hst : l.stackTraces = false) (D : va_G) (cI cZ : ClassId) (ad : Nat → Nat) (a1 : Int32) : oz_MV l yX0_putToSleep wsX0_putToSleep rmX0_putToSleep D cI cZ RX0 0 oz_KSX0 ad oz_lyX0 0 [.ref (ad 0), .int a1] (FX0_putToSleep a1) := by
  refine oz_ofV (bytes := cX0_putToSleep) (maxL := 3) (ret := none) (T := TX0) (N := 19) (by decide) rfl rfl oz_CX0 hst (Nat.le_of_ble_eq_true rfl) ?_
  intro p e s m below meth c st A res G hr X
  have hin : ∀ w ∈ u_ws RX0 TX0 19, w ∈ wsX0_putToSleep := fun w h => List.mem_cons_of_mem _ (List.mem_append_right _ h)
  have lk16 := lkX0_putToSleep_16
  have lk25 := lkX0_putToSleep_25
  have lk44 := lkX0_putToSleep_44
  have lk47 := lkX0_putToSleep_47
  have lk53 := lkX0_putToSleep_53
  have hc83 : ∀ (k : Nat), k ≤ 0 → ∀ (x1 : Int32) (st : ST), G k 83 [(0, .ref (ad 0)), (1, .int x1)] [] st (FX0_putToSleep_j83 x1 st) := by
    intro k hk x1 st
    unfold FX0_putToSleep_j83
    refine oz_aload_n X dX0_putToSleep_83 rfl 0 rfl ?_
    refine oz_getA X hin (j := 2) rfl lk16 dX0_putToSleep_84 ?_
    refine oz_iload_n X dX0_putToSleep_87 rfl 1 rfl ?_
    refine oz_iconst X (v := 2) dX0_putToSleep_88 (by decide) ?_
    refine oz_iast X (j := 2) rfl (by decide) dX0_putToSleep_89 (fun s2 e2 g2 => ?_)
    exact oz_vret X rfl hr (by omega) dX0_putToSleep_90
  have hc39 : ∀ (n k : Nat), k ≤ 0 → ∀ (x1 x2 : Int32) (st : ST), G k 39 [(0, .ref (ad 0)), (1, .int x1), (2, .int x2)] [] st (FX0_putToSleep_w39 n x1 x2 st) := by
    intro n
    induction n with
    | zero => intros; exact oz_none X
    | succ n ih =>
      intro k hk x1 x2 st
      rw [FX0_putToSleep_w39]
      refine oz_iload_n X dX0_putToSleep_39 rfl 2 rfl ?_
      refine oz_bipush X (v := 60) dX0_putToSleep_40 (by decide) ?_
      refine oz_icmp_ge X (tgt := 83) dX0_putToSleep_42 (by decide) (fun q4 => ?_) (fun q4 => ?_)
      · exact oz_sub X [0, 1] (L2 := [(0, .ref (ad 0)), (1, .int x1)]) rfl (hc83 _ (by omega) x1 st)
      · refine oz_iload_n X dX0_putToSleep_45 rfl 2 rfl ?_
        refine oz_aload_n X dX0_putToSleep_46 rfl 0 rfl ?_
        refine oz_getS X hin (j := 14) rfl lk53 dX0_putToSleep_47 ?_
        refine oz_icmp_ge X (tgt := 83) dX0_putToSleep_50 (by decide) (fun q5 => ?_) (fun q5 => ?_)
        · exact oz_sub X [0, 1] (L2 := [(0, .ref (ad 0)), (1, .int x1)]) rfl (hc83 _ (by omega) x1 st)
        · refine oz_aload_n X dX0_putToSleep_53 rfl 0 rfl ?_
          refine oz_getA X hin (j := 12) rfl lk47 dX0_putToSleep_54 ?_
          refine oz_iload_n X dX0_putToSleep_57 rfl 2 rfl ?_
          refine oz_zald X (j := 12) rfl (by decide) dX0_putToSleep_58 (fun g6 => ?_)
          refine oz_if_eq X (tgt := 77) dX0_putToSleep_59 (by decide) (fun q7 => ?_) (fun q7 => ?_)
          · refine oz_iinc X (q := 2) (v := x2 + 1) (L2 := [(2, .int (x2 + 1)), (0, .ref (ad 0)), (1, .int x1)]) dX0_putToSleep_77 rfl rfl (by decide) rfl ?_
            refine oz_goto X (tgt := 39) dX0_putToSleep_80 (by decide) ?_
            exact oz_sub X [1, 2, 0] (L2 := [(0, .ref (ad 0)), (1, .int x1), (2, .int (x2 + 1))]) rfl (ih _ (by omega) x1 (x2 + 1) st)
          · refine oz_aload_n X dX0_putToSleep_62 rfl 0 rfl ?_
            refine oz_getA X hin (j := 11) rfl lk44 dX0_putToSleep_63 ?_
            refine oz_iload_n X dX0_putToSleep_66 rfl 2 rfl ?_
            refine oz_iald X (j := 11) rfl (by decide) dX0_putToSleep_67 (fun g8 => ?_)
            refine oz_iload_n X dX0_putToSleep_68 rfl 1 rfl ?_
            refine oz_icmp_ne X (tgt := 77) dX0_putToSleep_69 (by decide) (fun q9 => ?_) (fun q9 => ?_)
            · refine oz_iinc X (q := 2) (v := x2 + 1) (L2 := [(2, .int (x2 + 1)), (0, .ref (ad 0)), (1, .int x1)]) dX0_putToSleep_77 rfl rfl (by decide) rfl ?_
              refine oz_goto X (tgt := 39) dX0_putToSleep_80 (by decide) ?_
              exact oz_sub X [1, 2, 0] (L2 := [(0, .ref (ad 0)), (1, .int x1), (2, .int (x2 + 1))]) rfl (ih _ (by omega) x1 (x2 + 1) st)
            · refine oz_aload_n X dX0_putToSleep_72 rfl 0 rfl ?_
              refine oz_iload_n X dX0_putToSleep_73 rfl 2 rfl ?_
              refine oz_callVv X rfl (As := [.int x2]) (S := []) (mX0_endLoan l hst D cI cZ ad x2) gX0_putToSleep_X0_endLoan rfl rfl rfl hX0_endLoan ⟨by decide, by decide⟩ rfl rfl (Nat.le_of_ble_eq_true rfl) dX0_putToSleep_74 (by omega) (by decide) (by decide) (fun s10 => ?_)
              refine oz_iinc X (q := 2) (v := x2 + 1) (L2 := [(2, .int (x2 + 1)), (0, .ref (ad 0)), (1, .int x1)]) dX0_putToSleep_77 rfl rfl (by decide) rfl ?_
              refine oz_goto X (tgt := 39) dX0_putToSleep_80 (by decide) ?_
              exact oz_sub X [1, 2, 0] (L2 := [(0, .ref (ad 0)), (1, .int x1), (2, .int (x2 + 1))]) rfl (ih _ (by omega) x1 (x2 + 1) s10)
  have hc2 : ∀ (n k : Nat), k ≤ 0 → ∀ (x1 x2 : Int32) (st : ST), G k 2 [(0, .ref (ad 0)), (1, .int x1), (2, .int x2)] [] st (FX0_putToSleep_w2 n x1 x2 st) := by
    intro n
    induction n with
    | zero => intros; exact oz_none X
    | succ n ih =>
      intro k hk x1 x2 st
      rw [FX0_putToSleep_w2]
      refine oz_iload_n X dX0_putToSleep_2 rfl 2 rfl ?_
      refine oz_bipush X (v := 12) dX0_putToSleep_3 (by decide) ?_
      refine oz_icmp_ge X (tgt := 37) dX0_putToSleep_5 (by decide) (fun q12 => ?_) (fun q12 => ?_)
      · refine oz_iconst X (v := 0) dX0_putToSleep_37 (by decide) ?_
        refine oz_istore_n X (L2 := [(2, .int 0), (0, .ref (ad 0)), (1, .int x1)]) dX0_putToSleep_38 rfl (by decide) rfl ?_
        exact oz_sub X [1, 2, 0] (L2 := [(0, .ref (ad 0)), (1, .int x1), (2, .int 0)]) rfl (hc39 300 _ (by omega) x1 0 st)
      · refine oz_aload_n X dX0_putToSleep_8 rfl 0 rfl ?_
        refine oz_getA X hin (j := 5) rfl lk25 dX0_putToSleep_9 ?_
        refine oz_iload_n X dX0_putToSleep_12 rfl 2 rfl ?_
        refine oz_iald X (j := 5) rfl (by decide) dX0_putToSleep_13 (fun g13 => ?_)
        refine oz_iload_n X dX0_putToSleep_14 rfl 1 rfl ?_
        refine oz_icmp_ne X (tgt := 31) dX0_putToSleep_15 (by decide) (fun q14 => ?_) (fun q14 => ?_)
        · refine oz_iinc X (q := 2) (v := x2 + 1) (L2 := [(2, .int (x2 + 1)), (0, .ref (ad 0)), (1, .int x1)]) dX0_putToSleep_31 rfl rfl (by decide) rfl ?_
          refine oz_goto X (tgt := 2) dX0_putToSleep_34 (by decide) ?_
          exact oz_sub X [1, 2, 0] (L2 := [(0, .ref (ad 0)), (1, .int x1), (2, .int (x2 + 1))]) rfl (ih _ (by omega) x1 (x2 + 1) st)
        · refine oz_aload_n X dX0_putToSleep_18 rfl 0 rfl ?_
          refine oz_iload_n X dX0_putToSleep_19 rfl 2 rfl ?_
          refine oz_callV X rfl (As := [.int x2]) (S := []) (mX0_isComing l hst D cI cZ ad x2) gX0_putToSleep_X0_isComing rfl rfl rfl hX0_isComing ⟨by decide, by decide⟩ rfl rfl (Nat.le_of_ble_eq_true rfl) dX0_putToSleep_20 (by omega) (by decide) (by decide) (fun r15 s15 => ?_)
          refine oz_if_eq X (tgt := 31) dX0_putToSleep_23 (by decide) (fun q16 => ?_) (fun q16 => ?_)
          · refine oz_iinc X (q := 2) (v := x2 + 1) (L2 := [(2, .int (x2 + 1)), (0, .ref (ad 0)), (1, .int x1)]) dX0_putToSleep_31 rfl rfl (by decide) rfl ?_
            refine oz_goto X (tgt := 2) dX0_putToSleep_34 (by decide) ?_
            exact oz_sub X [1, 2, 0] (L2 := [(0, .ref (ad 0)), (1, .int x1), (2, .int (x2 + 1))]) rfl (ih _ (by omega) x1 (x2 + 1) s15)
          · refine oz_aload_n X dX0_putToSleep_26 rfl 0 rfl ?_
            refine oz_iload_n X dX0_putToSleep_27 rfl 2 rfl ?_
            refine oz_callVv X rfl (As := [.int x2]) (S := []) (mX0_dropPage l hst D cI cZ ad x2) gX0_putToSleep_X0_dropPage rfl rfl rfl hX0_dropPage ⟨by decide, by decide⟩ rfl rfl (Nat.le_of_ble_eq_true rfl) dX0_putToSleep_28 (by omega) (by decide) (by decide) (fun s17 => ?_)
            refine oz_iinc X (q := 2) (v := x2 + 1) (L2 := [(2, .int (x2 + 1)), (0, .ref (ad 0)), (1, .int x1)]) dX0_putToSleep_31 rfl rfl (by decide) rfl ?_
            refine oz_goto X (tgt := 2) dX0_putToSleep_34 (by decide) ?_
            exact oz_sub X [1, 2, 0] (L2 := [(0, .ref (ad 0)), (1, .int x1), (2, .int (x2 + 1))]) rfl (ih _ (by omega) x1 (x2 + 1) s17)
  show G 0 0 [(0, .ref (ad 0)), (1, .int a1)] [] st (FX0_putToSleep a1 st)
  unfold FX0_putToSleep
  refine oz_iconst X (v := 0) dX0_putToSleep_0 (by decide) ?_
  refine oz_istore_n X (L2 := [(2, .int 0), (0, .ref (ad 0)), (1, .int a1)]) dX0_putToSleep_1 rfl (by decide) rfl ?_
  exact oz_sub X [1, 2, 0] (L2 := [(0, .ref (ad 0)), (1, .int a1), (2, .int 0)]) rfl (hc2 300 _ (by omega) a1 0 st)

/-! AlmsKernel.isProcess -/
def FX0_isProcess (a1 : Int32) (st : ST) : Option Res := (if a1 < 0 then some (0, 0, st) else (if 5 ≤ a1 then some (0, 0, st) else some (0, 1, st)))
def rmX0_isProcess : Room := { frames := 0, cells := 0, slots := 0, locals := 0 }
theorem hX0_isProcess : yX0_isProcess.cls ≠ "java/lang/invoke/MethodHandle" ∧ yX0_isProcess.cls ≠ "java/lang/invoke/VarHandle" ∧ (parseMethodDescriptor yX0_isProcess.desc).map (fun d => d.parameters.length) = some 1 := by decide +kernel
set_option maxHeartbeats 4000000 in
set_option maxRecDepth 100000 in
theorem mX0_isProcess (l : Launch) (hst : l.stackTraces = false) (D : va_G) (cI cZ : ClassId) (ad : Nat → Nat) (a1 : Int32) : oz_MI l yX0_isProcess wsX0_isProcess rmX0_isProcess D cI cZ RX0 0 oz_KSX0 ad oz_lyX0 0 [.int a1] (FX0_isProcess a1) := by
  refine oz_ofI (bytes := cX0_isProcess) (maxL := 1) (ret := (some .boolean)) (T := TX0) (N := 19) (by decide) rfl rfl oz_CX0 hst (Nat.le_of_ble_eq_true rfl) ?_
  intro p e s m below meth c st A res G hr X
  show G 0 0 [(0, .int a1)] [] st (FX0_isProcess a1 st)
  unfold FX0_isProcess
  refine oz_iload_n X dX0_isProcess_0 rfl 0 rfl ?_
  refine oz_if_lt X (tgt := 13) dX0_isProcess_1 (by decide) (fun q1 => ?_) (fun q1 => ?_)
  · refine oz_iconst X (v := 0) dX0_isProcess_13 (by decide) ?_
    exact oz_zret X rfl hr rfl (by omega) dX0_isProcess_14
  · refine oz_iload_n X dX0_isProcess_4 rfl 0 rfl ?_
    refine oz_iconst X (v := 5) dX0_isProcess_5 (by decide) ?_
    refine oz_icmp_ge X (tgt := 13) dX0_isProcess_6 (by decide) (fun q2 => ?_) (fun q2 => ?_)
    · refine oz_iconst X (v := 0) dX0_isProcess_13 (by decide) ?_
      exact oz_zret X rfl hr rfl (by omega) dX0_isProcess_14
    · refine oz_iconst X (v := 1) dX0_isProcess_9 (by decide) ?_
      refine oz_goto X (tgt := 14) dX0_isProcess_10 (by decide) ?_
      exact oz_zret X rfl hr rfl (by omega) dX0_isProcess_14

/-! AlmsKernel.setWage -/
def FX0_setWage (a1 a2 : Int32) (st : ST) : Option Res := bnd (FX0_isProcess a1 st) (fun r1 s1 => (if r1 = 0 then some (1, 0, s1) else (if a2 < 0 then some (3, 0, s1) else (if a2 ≤ 9 then gd (oz_in a1 5) (gd (oz_in a1 5) (stp (oz_se s1 1 a1.toNatClampNeg a2) (fun s6 => some (0, s1 1 a1.toNatClampNeg, s6)))) else some (3, 0, s1)))))
def rmX0_setWage : Room := { frames := 6, cells := 1, slots := 6, locals := 82 }
theorem hX0_setWage : yX0_setWage.cls = RX0 ∧ yX0_setWage.cls ≠ "java/lang/invoke/MethodHandle" ∧ yX0_setWage.cls ≠ "java/lang/invoke/VarHandle" ∧ (parseMethodDescriptor yX0_setWage.desc).map (fun d => d.parameters.length) = some 2 := by decide +kernel
theorem lkX0_setWage_9 : Cond.fieldLink RX0 9 RX0 (TX0 0).2.1 (TX0 0).2.2.1 ∈ wsX0_setWage := by decide +kernel
set_option maxHeartbeats 4000000 in
set_option maxRecDepth 100000 in
theorem mX0_setWage (l : Launch) (hst : l.stackTraces = false) (D : va_G) (cI cZ : ClassId) (ad : Nat → Nat) (a1 a2 : Int32) : oz_MI l yX0_setWage wsX0_setWage rmX0_setWage D cI cZ RX0 0 oz_KSX0 ad oz_lyX0 1 [.ref (ad 0), .int a1, .int a2] (FX0_setWage a1 a2) := by
  refine oz_ofI (bytes := cX0_setWage) (maxL := 4) (ret := (some .int)) (T := TX0) (N := 19) (by decide) rfl rfl oz_CX0 hst (Nat.le_of_ble_eq_true rfl) ?_
  intro p e s m below meth c st A res G hr X
  have hin : ∀ w ∈ u_ws RX0 TX0 19, w ∈ wsX0_setWage := fun w h => List.mem_cons_of_mem _ (List.mem_append_left _ (List.mem_append_left _ (List.mem_append_right _ h)))
  have lk9 := lkX0_setWage_9
  have tk1 : Cond.classLink RX0 79 (oz_exn 1) ∈ wsX0_setWage := by decide +kernel
  have ti1 : Cond.initialized (oz_exn 1) ∈ wsX0_setWage := by decide +kernel
  have tg1 : ∀ w ∈ (vx_atS RX0 83 (oz_exn 1) oz_names).filter goodWord, w ∈ wsX0_setWage := fun w h => List.mem_cons_of_mem _ (List.mem_append_left _ (List.mem_append_right _ h))
  have tk3 : Cond.classLink RX0 86 (oz_exn 3) ∈ wsX0_setWage := by decide +kernel
  have ti3 : Cond.initialized (oz_exn 3) ∈ wsX0_setWage := by decide +kernel
  have tg3 : ∀ w ∈ (vx_atS RX0 90 (oz_exn 3) oz_names).filter goodWord, w ∈ wsX0_setWage := fun w h => List.mem_cons_of_mem _ (List.mem_append_right _ h)
  show G 0 0 [(0, .ref (ad 0)), (1, .int a1), (2, .int a2)] [] st (FX0_setWage a1 a2 st)
  unfold FX0_setWage
  refine oz_iload_n X dX0_setWage_0 rfl 1 rfl ?_
  refine oz_callS X rfl (As := [.int a1]) (S := []) (mX0_isProcess l hst D cI cZ ad a1) gX0_setWage_X0_isProcess rfl rfl rfl hX0_isProcess ⟨by decide, by decide⟩ rfl rfl (Nat.le_of_ble_eq_true rfl) dX0_setWage_1 (by omega) (by decide) (by decide) (fun r1 s1 => ?_)
  refine oz_if_ne X (tgt := 17) dX0_setWage_4 (by decide) (fun q2 => ?_) (fun q2 => ?_)
  · refine oz_iload_n X dX0_setWage_17 rfl 2 rfl ?_
    refine oz_if_lt X (tgt := 27) dX0_setWage_18 (by decide) (fun q3 => ?_) (fun q3 => ?_)
    · exact oz_throw X rfl 3 (text := "wage is out of range") (by decide) (oz_KSX0_88) (by decide +kernel) tk3 ti3 tg3 oz_tbX0_3 oz_twX0_3 dX0_setWage_27 dX0_setWage_30 dX0_setWage_31 dX0_setWage_33 dX0_setWage_36 (by decide) (by decide) (by omega) (by decide) (by decide)
    · refine oz_iload_n X dX0_setWage_21 rfl 2 rfl ?_
      refine oz_bipush X (v := 9) dX0_setWage_22 (by decide) ?_
      refine oz_icmp_le X (tgt := 37) dX0_setWage_24 (by decide) (fun q4 => ?_) (fun q4 => ?_)
      · refine oz_aload_n X dX0_setWage_37 rfl 0 rfl ?_
        refine oz_getA X hin (j := 0) rfl lk9 dX0_setWage_38 ?_
        refine oz_iload_n X dX0_setWage_41 rfl 1 rfl ?_
        refine oz_iald X (j := 0) rfl (by decide) dX0_setWage_42 (fun g5 => ?_)
        refine oz_istore_n X (L2 := [(3, .int (s1 1 a1.toNatClampNeg)), (0, .ref (ad 0)), (1, .int a1), (2, .int a2)]) dX0_setWage_43 rfl (by decide) rfl ?_
        refine oz_aload_n X dX0_setWage_44 rfl 1 rfl ?_
        refine oz_getA X hin (j := 0) rfl lk9 dX0_setWage_45 ?_
        refine oz_iload_n X dX0_setWage_48 rfl 2 rfl ?_
        refine oz_iload_n X dX0_setWage_49 rfl 3 rfl ?_
        refine oz_iast X (j := 0) rfl (by decide) dX0_setWage_50 (fun s6 e6 g6 => ?_)
        refine oz_iload_n X dX0_setWage_51 rfl 0 rfl ?_
        exact oz_iret X rfl hr (by omega) dX0_setWage_52
      · exact oz_throw X rfl 3 (text := "wage is out of range") (by decide) (oz_KSX0_88) (by decide +kernel) tk3 ti3 tg3 oz_tbX0_3 oz_twX0_3 dX0_setWage_27 dX0_setWage_30 dX0_setWage_31 dX0_setWage_33 dX0_setWage_36 (by decide) (by decide) (by omega) (by decide) (by decide)
  · exact oz_throw X rfl 1 (text := "no such process") (by decide) (oz_KSX0_81) (by decide +kernel) tk1 ti1 tg1 oz_tbX0_1 oz_twX0_1 dX0_setWage_7 dX0_setWage_10 dX0_setWage_11 dX0_setWage_13 dX0_setWage_16 (by decide) (by decide) (by omega) (by decide) (by decide)

/-! AlmsKernel.setRate -/
def FX0_setRate (a1 : Int32) (st : ST) : Option Res := (if a1 < 0 then some (3, 0, st) else (if a1 ≤ 9 then stp (oz_se st 0 15 a1) (fun s3 => some (0, st 0 15, s3)) else some (3, 0, st)))
def rmX0_setRate : Room := { frames := 6, cells := 1, slots := 6, locals := 82 }
theorem hX0_setRate : yX0_setRate.cls = RX0 ∧ yX0_setRate.cls ≠ "java/lang/invoke/MethodHandle" ∧ yX0_setRate.cls ≠ "java/lang/invoke/VarHandle" ∧ (parseMethodDescriptor yX0_setRate.desc).map (fun d => d.parameters.length) = some 1 := by decide +kernel
theorem lkX0_setRate_57 : Cond.fieldLink RX0 57 RX0 (TX0 15).2.1 (TX0 15).2.2.1 ∈ wsX0_setRate := by decide +kernel
set_option maxHeartbeats 4000000 in
set_option maxRecDepth 100000 in
theorem mX0_setRate (l : Launch) (hst : l.stackTraces = false) (D : va_G) (cI cZ : ClassId) (ad : Nat → Nat) (a1 : Int32) : oz_MI l yX0_setRate wsX0_setRate rmX0_setRate D cI cZ RX0 0 oz_KSX0 ad oz_lyX0 1 [.ref (ad 0), .int a1] (FX0_setRate a1) := by
  refine oz_ofI (bytes := cX0_setRate) (maxL := 3) (ret := (some .int)) (T := TX0) (N := 19) (by decide) rfl rfl oz_CX0 hst (Nat.le_of_ble_eq_true rfl) ?_
  intro p e s m below meth c st A res G hr X
  have hin : ∀ w ∈ u_ws RX0 TX0 19, w ∈ wsX0_setRate := fun w h => List.mem_cons_of_mem _ (List.mem_append_left _ (List.mem_append_right _ h))
  have lk57 := lkX0_setRate_57
  have tk3 : Cond.classLink RX0 86 (oz_exn 3) ∈ wsX0_setRate := by decide +kernel
  have ti3 : Cond.initialized (oz_exn 3) ∈ wsX0_setRate := by decide +kernel
  have tg3 : ∀ w ∈ (vx_atS RX0 90 (oz_exn 3) oz_names).filter goodWord, w ∈ wsX0_setRate := fun w h => List.mem_cons_of_mem _ (List.mem_append_right _ h)
  show G 0 0 [(0, .ref (ad 0)), (1, .int a1)] [] st (FX0_setRate a1 st)
  unfold FX0_setRate
  refine oz_iload_n X dX0_setRate_0 rfl 1 rfl ?_
  refine oz_if_lt X (tgt := 10) dX0_setRate_1 (by decide) (fun q1 => ?_) (fun q1 => ?_)
  · exact oz_throw X rfl 3 (text := "rate is out of range") (by decide) (oz_KSX0_91) (by decide +kernel) tk3 ti3 tg3 oz_tbX0_3 oz_twX0_3 dX0_setRate_10 dX0_setRate_13 dX0_setRate_14 dX0_setRate_16 dX0_setRate_19 (by decide) (by decide) (by omega) (by decide) (by decide)
  · refine oz_iload_n X dX0_setRate_4 rfl 1 rfl ?_
    refine oz_bipush X (v := 9) dX0_setRate_5 (by decide) ?_
    refine oz_icmp_le X (tgt := 20) dX0_setRate_7 (by decide) (fun q2 => ?_) (fun q2 => ?_)
    · refine oz_aload_n X dX0_setRate_20 rfl 0 rfl ?_
      refine oz_getS X hin (j := 15) rfl lk57 dX0_setRate_21 ?_
      refine oz_istore_n X (L2 := [(2, .int (st 0 15)), (0, .ref (ad 0)), (1, .int a1)]) dX0_setRate_24 rfl (by decide) rfl ?_
      refine oz_aload_n X dX0_setRate_25 rfl 1 rfl ?_
      refine oz_iload_n X dX0_setRate_26 rfl 2 rfl ?_
      refine oz_putS X hin (j := 15) rfl lk57 dX0_setRate_27 (fun s3 e3 => ?_)
      refine oz_iload_n X dX0_setRate_30 rfl 0 rfl ?_
      exact oz_iret X rfl hr (by omega) dX0_setRate_31
    · exact oz_throw X rfl 3 (text := "rate is out of range") (by decide) (oz_KSX0_91) (by decide +kernel) tk3 ti3 tg3 oz_tbX0_3 oz_twX0_3 dX0_setRate_10 dX0_setRate_13 dX0_setRate_14 dX0_setRate_16 dX0_setRate_19 (by decide) (by decide) (by omega) (by decide) (by decide)

/-! AlmsKernel.lowestEmptyFrame -/
def FX0_lowestEmptyFrame_w2 : Nat → Int32 → Int32 → ST → Option Res
  | 0, _, _, _ => none
  | n + 1, x1, x2, st => (if 12 ≤ x2 then some (0, (-1), st) else gd (oz_in x2 12) ((if st 6 x2.toNatClampNeg = x1 then gd (oz_in x2 12) ((if st 7 x2.toNatClampNeg = (-1) then some (0, x2, st) else (FX0_lowestEmptyFrame_w2 n x1 (x2 + 1) st))) else (FX0_lowestEmptyFrame_w2 n x1 (x2 + 1) st))))
def FX0_lowestEmptyFrame (a1 : Int32) (st : ST) : Option Res := (FX0_lowestEmptyFrame_w2 300 a1 0 st)
def rmX0_lowestEmptyFrame : Room := { frames := 0, cells := 0, slots := 0, locals := 0 }
theorem hX0_lowestEmptyFrame : yX0_lowestEmptyFrame.cls = RX0 ∧ yX0_lowestEmptyFrame.cls ≠ "java/lang/invoke/MethodHandle" ∧ yX0_lowestEmptyFrame.cls ≠ "java/lang/invoke/VarHandle" ∧ (parseMethodDescriptor yX0_lowestEmptyFrame.desc).map (fun d => d.parameters.length) = some 1 := by decide +kernel
theorem lkX0_lowestEmptyFrame_25 : Cond.fieldLink RX0 25 RX0 (TX0 5).2.1 (TX0 5).2.2.1 ∈ wsX0_lowestEmptyFrame := by decide +kernel
theorem lkX0_lowestEmptyFrame_28 : Cond.fieldLink RX0 28 RX0 (TX0 6).2.1 (TX0 6).2.2.1 ∈ wsX0_lowestEmptyFrame := by decide +kernel
set_option maxHeartbeats 4000000 in
set_option maxRecDepth 100000 in
theorem mX0_lowestEmptyFrame (l : Launch) (hst : l.stackTraces = false) (D : va_G) (cI cZ : ClassId) (ad : Nat → Nat) (a1 : Int32) : oz_MI l yX0_lowestEmptyFrame wsX0_lowestEmptyFrame rmX0_lowestEmptyFrame D cI cZ RX0 0 oz_KSX0 ad oz_lyX0 0 [.ref (ad 0), .int a1] (FX0_lowestEmptyFrame a1) := by
  refine oz_ofI (bytes := cX0_lowestEmptyFrame) (maxL := 3) (ret := (some .int)) (T := TX0) (N := 19) (by decide) rfl rfl oz_CX0 hst (Nat.le_of_ble_eq_true rfl) ?_
  intro p e s m below meth c st A res G hr X
  have hin : ∀ w ∈ u_ws RX0 TX0 19, w ∈ wsX0_lowestEmptyFrame := fun w h => List.mem_cons_of_mem _ (List.mem_append_right _ h)
  have lk25 := lkX0_lowestEmptyFrame_25
  have lk28 := lkX0_lowestEmptyFrame_28
  have hc2 : ∀ (n k : Nat), k ≤ 0 → ∀ (x1 x2 : Int32) (st : ST), G k 2 [(0, .ref (ad 0)), (1, .int x1), (2, .int x2)] [] st (FX0_lowestEmptyFrame_w2 n x1 x2 st) := by
    intro n
    induction n with
    | zero => intros; exact oz_none X
    | succ n ih =>
      intro k hk x1 x2 st
      rw [FX0_lowestEmptyFrame_w2]
      refine oz_iload_n X dX0_lowestEmptyFrame_2 rfl 2 rfl ?_
      refine oz_bipush X (v := 12) dX0_lowestEmptyFrame_3 (by decide) ?_
      refine oz_icmp_ge X (tgt := 36) dX0_lowestEmptyFrame_5 (by decide) (fun q2 => ?_) (fun q2 => ?_)
      · refine oz_iconst X (v := (-1)) dX0_lowestEmptyFrame_36 (by decide) ?_
        exact oz_iret X rfl hr (by omega) dX0_lowestEmptyFrame_37
      · refine oz_aload_n X dX0_lowestEmptyFrame_8 rfl 0 rfl ?_
        refine oz_getA X hin (j := 5) rfl lk25 dX0_lowestEmptyFrame_9 ?_
        refine oz_iload_n X dX0_lowestEmptyFrame_12 rfl 2 rfl ?_
        refine oz_iald X (j := 5) rfl (by decide) dX0_lowestEmptyFrame_13 (fun g3 => ?_)
        refine oz_iload_n X dX0_lowestEmptyFrame_14 rfl 1 rfl ?_
        refine oz_icmp_ne X (tgt := 30) dX0_lowestEmptyFrame_15 (by decide) (fun q4 => ?_) (fun q4 => ?_)
        · refine oz_iinc X (q := 2) (v := x2 + 1) (L2 := [(2, .int (x2 + 1)), (0, .ref (ad 0)), (1, .int x1)]) dX0_lowestEmptyFrame_30 rfl rfl (by decide) rfl ?_
          refine oz_goto X (tgt := 2) dX0_lowestEmptyFrame_33 (by decide) ?_
          exact oz_sub X [1, 2, 0] (L2 := [(0, .ref (ad 0)), (1, .int x1), (2, .int (x2 + 1))]) rfl (ih _ (by omega) x1 (x2 + 1) st)
        · refine oz_aload_n X dX0_lowestEmptyFrame_18 rfl 0 rfl ?_
          refine oz_getA X hin (j := 6) rfl lk28 dX0_lowestEmptyFrame_19 ?_
          refine oz_iload_n X dX0_lowestEmptyFrame_22 rfl 2 rfl ?_
          refine oz_iald X (j := 6) rfl (by decide) dX0_lowestEmptyFrame_23 (fun g5 => ?_)
          refine oz_iconst X (v := (-1)) dX0_lowestEmptyFrame_24 (by decide) ?_
          refine oz_icmp_ne X (tgt := 30) dX0_lowestEmptyFrame_25 (by decide) (fun q6 => ?_) (fun q6 => ?_)
          · refine oz_iinc X (q := 2) (v := x2 + 1) (L2 := [(2, .int (x2 + 1)), (0, .ref (ad 0)), (1, .int x1)]) dX0_lowestEmptyFrame_30 rfl rfl (by decide) rfl ?_
            refine oz_goto X (tgt := 2) dX0_lowestEmptyFrame_33 (by decide) ?_
            exact oz_sub X [1, 2, 0] (L2 := [(0, .ref (ad 0)), (1, .int x1), (2, .int (x2 + 1))]) rfl (ih _ (by omega) x1 (x2 + 1) st)
          · refine oz_iload_n X dX0_lowestEmptyFrame_28 rfl 2 rfl ?_
            exact oz_iret X rfl hr (by omega) dX0_lowestEmptyFrame_29
  show G 0 0 [(0, .ref (ad 0)), (1, .int a1)] [] st (FX0_lowestEmptyFrame a1 st)
  unfold FX0_lowestEmptyFrame
  refine oz_iconst X (v := 0) dX0_lowestEmptyFrame_0 (by decide) ?_
  refine oz_istore_n X (L2 := [(2, .int 0), (0, .ref (ad 0)), (1, .int a1)]) dX0_lowestEmptyFrame_1 rfl (by decide) rfl ?_
  exact oz_sub X [1, 2, 0] (L2 := [(0, .ref (ad 0)), (1, .int a1), (2, .int 0)]) rfl (hc2 300 _ (by omega) a1 0 st)

/-! AlmsKernel.isFrame -/
def FX0_isFrame (a1 : Int32) (st : ST) : Option Res := (if a1 < 0 then some (0, 0, st) else (if 12 ≤ a1 then some (0, 0, st) else some (0, 1, st)))
def rmX0_isFrame : Room := { frames := 0, cells := 0, slots := 0, locals := 0 }
theorem hX0_isFrame : yX0_isFrame.cls ≠ "java/lang/invoke/MethodHandle" ∧ yX0_isFrame.cls ≠ "java/lang/invoke/VarHandle" ∧ (parseMethodDescriptor yX0_isFrame.desc).map (fun d => d.parameters.length) = some 1 := by decide +kernel
set_option maxHeartbeats 4000000 in
set_option maxRecDepth 100000 in
theorem mX0_isFrame (l : Launch) (hst : l.stackTraces = false) (D : va_G) (cI cZ : ClassId) (ad : Nat → Nat) (a1 : Int32) : oz_MI l yX0_isFrame wsX0_isFrame rmX0_isFrame D cI cZ RX0 0 oz_KSX0 ad oz_lyX0 0 [.int a1] (FX0_isFrame a1) := by
  refine oz_ofI (bytes := cX0_isFrame) (maxL := 1) (ret := (some .boolean)) (T := TX0) (N := 19) (by decide) rfl rfl oz_CX0 hst (Nat.le_of_ble_eq_true rfl) ?_
  intro p e s m below meth c st A res G hr X
  show G 0 0 [(0, .int a1)] [] st (FX0_isFrame a1 st)
  unfold FX0_isFrame
  refine oz_iload_n X dX0_isFrame_0 rfl 0 rfl ?_
  refine oz_if_lt X (tgt := 14) dX0_isFrame_1 (by decide) (fun q1 => ?_) (fun q1 => ?_)
  · refine oz_iconst X (v := 0) dX0_isFrame_14 (by decide) ?_
    exact oz_zret X rfl hr rfl (by omega) dX0_isFrame_15
  · refine oz_iload_n X dX0_isFrame_4 rfl 0 rfl ?_
    refine oz_bipush X (v := 12) dX0_isFrame_5 (by decide) ?_
    refine oz_icmp_ge X (tgt := 14) dX0_isFrame_7 (by decide) (fun q2 => ?_) (fun q2 => ?_)
    · refine oz_iconst X (v := 0) dX0_isFrame_14 (by decide) ?_
      exact oz_zret X rfl hr rfl (by omega) dX0_isFrame_15
    · refine oz_iconst X (v := 1) dX0_isFrame_10 (by decide) ?_
      refine oz_goto X (tgt := 15) dX0_isFrame_11 (by decide) ?_
      exact oz_zret X rfl hr rfl (by omega) dX0_isFrame_15

/-! AlmsKernel.buy -/
def FX0_buy (a1 : Int32) (st : ST) : Option Res := bnd (FX0_isProcess a1 st) (fun r1 s1 => (if r1 = 0 then some (1, 0, s1) else gd (oz_in a1 5) ((if s1 3 a1.toNatClampNeg = 2 then some (2, 0, s1) else gd (oz_in a1 5) ((if 8 ≤ s1 2 a1.toNatClampNeg then bnd (FX0_lowestEmptyFrame (-1) s1) (fun r7 s7 => bnd (FX0_isFrame r7 s7) (fun r8 s8 => (if r8 = 0 then some (2, 0, s8) else gd (oz_in a1 5) (gd (oz_in a1 5) (stp (oz_se s8 2 a1.toNatClampNeg ((s8 2 a1.toNatClampNeg) - 8)) (fun s11 => gd (oz_in r7 12) (stp (oz_se s11 5 r7.toNatClampNeg a1) (fun s12 => gd (oz_in r7 12) (stp (oz_se s12 6 r7.toNatClampNeg a1) (fun s13 => some (0, r7, s13))))))))))) else some (2, 0, s1)))))))
def rmX0_buy : Room := { frames := 6, cells := 1, slots := 6, locals := 82 }
theorem hX0_buy : yX0_buy.cls = RX0 ∧ yX0_buy.cls ≠ "java/lang/invoke/MethodHandle" ∧ yX0_buy.cls ≠ "java/lang/invoke/VarHandle" ∧ (parseMethodDescriptor yX0_buy.desc).map (fun d => d.parameters.length) = some 1 := by decide +kernel
theorem lkX0_buy_13 : Cond.fieldLink RX0 13 RX0 (TX0 1).2.1 (TX0 1).2.2.1 ∈ wsX0_buy := by decide +kernel
theorem lkX0_buy_16 : Cond.fieldLink RX0 16 RX0 (TX0 2).2.1 (TX0 2).2.2.1 ∈ wsX0_buy := by decide +kernel
theorem lkX0_buy_22 : Cond.fieldLink RX0 22 RX0 (TX0 4).2.1 (TX0 4).2.2.1 ∈ wsX0_buy := by decide +kernel
theorem lkX0_buy_25 : Cond.fieldLink RX0 25 RX0 (TX0 5).2.1 (TX0 5).2.2.1 ∈ wsX0_buy := by decide +kernel
set_option maxHeartbeats 4000000 in
set_option maxRecDepth 100000 in
theorem mX0_buy (l : Launch) (hst : l.stackTraces = false) (D : va_G) (cI cZ : ClassId) (ad : Nat → Nat) (a1 : Int32) : oz_MI l yX0_buy wsX0_buy rmX0_buy D cI cZ RX0 0 oz_KSX0 ad oz_lyX0 1 [.ref (ad 0), .int a1] (FX0_buy a1) := by
  refine oz_ofI (bytes := cX0_buy) (maxL := 3) (ret := (some .int)) (T := TX0) (N := 19) (by decide) rfl rfl oz_CX0 hst (Nat.le_of_ble_eq_true rfl) ?_
  intro p e s m below meth c st A res G hr X
  have hin : ∀ w ∈ u_ws RX0 TX0 19, w ∈ wsX0_buy := fun w h => List.mem_cons_of_mem _ (List.mem_append_left _ (List.mem_append_left _ (List.mem_append_right _ h)))
  have lk13 := lkX0_buy_13
  have lk16 := lkX0_buy_16
  have lk22 := lkX0_buy_22
  have lk25 := lkX0_buy_25
  have tk1 : Cond.classLink RX0 79 (oz_exn 1) ∈ wsX0_buy := by decide +kernel
  have ti1 : Cond.initialized (oz_exn 1) ∈ wsX0_buy := by decide +kernel
  have tg1 : ∀ w ∈ (vx_atS RX0 83 (oz_exn 1) oz_names).filter goodWord, w ∈ wsX0_buy := fun w h => List.mem_cons_of_mem _ (List.mem_append_left _ (List.mem_append_right _ h))
  have tk2 : Cond.classLink RX0 93 (oz_exn 2) ∈ wsX0_buy := by decide +kernel
  have ti2 : Cond.initialized (oz_exn 2) ∈ wsX0_buy := by decide +kernel
  have tg2 : ∀ w ∈ (vx_atS RX0 97 (oz_exn 2) oz_names).filter goodWord, w ∈ wsX0_buy := fun w h => List.mem_cons_of_mem _ (List.mem_append_right _ h)
  show G 0 0 [(0, .ref (ad 0)), (1, .int a1)] [] st (FX0_buy a1 st)
  unfold FX0_buy
  refine oz_iload_n X dX0_buy_0 rfl 1 rfl ?_
  refine oz_callS X rfl (As := [.int a1]) (S := []) (mX0_isProcess l hst D cI cZ ad a1) gX0_buy_X0_isProcess rfl rfl rfl hX0_isProcess ⟨by decide, by decide⟩ rfl rfl (Nat.le_of_ble_eq_true rfl) dX0_buy_1 (by omega) (by decide) (by decide) (fun r1 s1 => ?_)
  refine oz_if_ne X (tgt := 17) dX0_buy_4 (by decide) (fun q2 => ?_) (fun q2 => ?_)
  · refine oz_aload_n X dX0_buy_17 rfl 0 rfl ?_
    refine oz_getA X hin (j := 2) rfl lk16 dX0_buy_18 ?_
    refine oz_iload_n X dX0_buy_21 rfl 1 rfl ?_
    refine oz_iald X (j := 2) rfl (by decide) dX0_buy_22 (fun g3 => ?_)
    refine oz_iconst X (v := 2) dX0_buy_23 (by decide) ?_
    refine oz_icmp_eq X (tgt := 38) dX0_buy_24 (by decide) (fun q4 => ?_) (fun q4 => ?_)
    · exact oz_throw X rfl 2 (text := "asleep or too poor to buy") (by decide) (oz_KSX0_95) (by decide +kernel) tk2 ti2 tg2 oz_tbX0_2 oz_twX0_2 dX0_buy_38 dX0_buy_41 dX0_buy_42 dX0_buy_44 dX0_buy_47 (by decide) (by decide) (by omega) (by decide) (by decide)
    · refine oz_aload_n X dX0_buy_27 rfl 0 rfl ?_
      refine oz_getA X hin (j := 1) rfl lk13 dX0_buy_28 ?_
      refine oz_iload_n X dX0_buy_31 rfl 1 rfl ?_
      refine oz_iald X (j := 1) rfl (by decide) dX0_buy_32 (fun g5 => ?_)
      refine oz_bipush X (v := 8) dX0_buy_33 (by decide) ?_
      refine oz_icmp_ge X (tgt := 48) dX0_buy_35 (by decide) (fun q6 => ?_) (fun q6 => ?_)
      · refine oz_aload_n X dX0_buy_48 rfl 0 rfl ?_
        refine oz_iconst X (v := (-1)) dX0_buy_49 (by decide) ?_
        refine oz_callV X rfl (As := [.int (-1)]) (S := []) (mX0_lowestEmptyFrame l hst D cI cZ ad (-1)) gX0_buy_X0_lowestEmptyFrame rfl rfl rfl hX0_lowestEmptyFrame ⟨by decide, by decide⟩ rfl rfl (Nat.le_of_ble_eq_true rfl) dX0_buy_50 (by omega) (by decide) (by decide) (fun r7 s7 => ?_)
        refine oz_istore_n X (L2 := [(2, .int r7), (0, .ref (ad 0)), (1, .int a1)]) dX0_buy_53 rfl (by decide) rfl ?_
        refine oz_iload_n X dX0_buy_54 rfl 0 rfl ?_
        refine oz_callS X rfl (As := [.int r7]) (S := []) (mX0_isFrame l hst D cI cZ ad r7) gX0_buy_X0_isFrame rfl rfl rfl hX0_isFrame ⟨by decide, by decide⟩ rfl rfl (Nat.le_of_ble_eq_true rfl) dX0_buy_55 (by omega) (by decide) (by decide) (fun r8 s8 => ?_)
        refine oz_if_ne X (tgt := 71) dX0_buy_58 (by decide) (fun q9 => ?_) (fun q9 => ?_)
        · refine oz_aload_n X dX0_buy_71 rfl 1 rfl ?_
          refine oz_getA X hin (j := 1) rfl lk13 dX0_buy_72 ?_
          refine oz_iload_n X dX0_buy_75 rfl 2 rfl ?_
          refine oz_dup2 X dX0_buy_76 rfl rfl ?_
          refine oz_iald X (j := 1) rfl (by decide) dX0_buy_77 (fun g10 => ?_)
          refine oz_bipush X (v := 8) dX0_buy_78 (by decide) ?_
          refine oz_isub X dX0_buy_80 ?_
          refine oz_iast X (j := 1) rfl (by decide) dX0_buy_81 (fun s11 e11 g11 => ?_)
          refine oz_aload_n X dX0_buy_82 rfl 1 rfl ?_
          refine oz_getA X hin (j := 4) rfl lk22 dX0_buy_83 ?_
          refine oz_iload_n X dX0_buy_86 rfl 0 rfl ?_
          refine oz_iload_n X dX0_buy_87 rfl 2 rfl ?_
          refine oz_iast X (j := 4) rfl (by decide) dX0_buy_88 (fun s12 e12 g12 => ?_)
          refine oz_aload_n X dX0_buy_89 rfl 1 rfl ?_
          refine oz_getA X hin (j := 5) rfl lk25 dX0_buy_90 ?_
          refine oz_iload_n X dX0_buy_93 rfl 0 rfl ?_
          refine oz_iload_n X dX0_buy_94 rfl 2 rfl ?_
          refine oz_iast X (j := 5) rfl (by decide) dX0_buy_95 (fun s13 e13 g13 => ?_)
          refine oz_iload_n X dX0_buy_96 rfl 0 rfl ?_
          exact oz_iret X rfl hr (by omega) dX0_buy_97
        · exact oz_throw X rfl 2 (text := "no frame is free") (by decide) (oz_KSX0_105) (by decide +kernel) tk2 ti2 tg2 oz_tbX0_2 oz_twX0_2 dX0_buy_61 dX0_buy_64 dX0_buy_65 dX0_buy_67 dX0_buy_70 (by decide) (by decide) (by omega) (by decide) (by decide)
      · exact oz_throw X rfl 2 (text := "asleep or too poor to buy") (by decide) (oz_KSX0_95) (by decide +kernel) tk2 ti2 tg2 oz_tbX0_2 oz_twX0_2 dX0_buy_38 dX0_buy_41 dX0_buy_42 dX0_buy_44 dX0_buy_47 (by decide) (by decide) (by omega) (by decide) (by decide)
  · exact oz_throw X rfl 1 (text := "no such process") (by decide) (oz_KSX0_81) (by decide +kernel) tk1 ti1 tg1 oz_tbX0_1 oz_twX0_1 dX0_buy_7 dX0_buy_10 dX0_buy_11 dX0_buy_13 dX0_buy_16 (by decide) (by decide) (by omega) (by decide) (by decide)

/-! AlmsKernel.sell -/
def FX0_sell (a1 : Int32) (st : ST) : Option Res := bnd (FX0_isFrame a1 st) (fun r1 s1 => (if r1 = 0 then some (1, 0, s1) else gd (oz_in a1 12) (bnd (FX0_isProcess (s1 5 a1.toNatClampNeg) s1) (fun r4 s4 => (if r4 = 0 then some (2, 0, s4) else gd (oz_in a1 12) ((if s4 6 a1.toNatClampNeg = s1 5 a1.toNatClampNeg then gd (oz_in a1 12) ((if s4 7 a1.toNatClampNeg = (-1) then gd (oz_in (s1 5 a1.toNatClampNeg) 5) ((if s4 3 (s1 5 a1.toNatClampNeg).toNatClampNeg = 2 then some (2, 0, s4) else gd (oz_in a1 12) (stp (oz_se s4 5 a1.toNatClampNeg (-1)) (fun s12 => gd (oz_in a1 12) (stp (oz_se s12 6 a1.toNatClampNeg (-1)) (fun s13 => gd (oz_in (s1 5 a1.toNatClampNeg) 5) (gd (oz_in (s1 5 a1.toNatClampNeg) 5) (stp (oz_se s13 2 (s1 5 a1.toNatClampNeg).toNatClampNeg ((s13 2 (s1 5 a1.toNatClampNeg).toNatClampNeg) + 4)) (fun s15 => gd (oz_in (s1 5 a1.toNatClampNeg) 5) (some (0, s15 2 (s1 5 a1.toNatClampNeg).toNatClampNeg, s15))))))))))) else some (2, 0, s4))) else some (2, 0, s4))))))))
def rmX0_sell : Room := { frames := 6, cells := 1, slots := 6, locals := 82 }
theorem hX0_sell : yX0_sell.cls = RX0 ∧ yX0_sell.cls ≠ "java/lang/invoke/MethodHandle" ∧ yX0_sell.cls ≠ "java/lang/invoke/VarHandle" ∧ (parseMethodDescriptor yX0_sell.desc).map (fun d => d.parameters.length) = some 1 := by decide +kernel
theorem lkX0_sell_13 : Cond.fieldLink RX0 13 RX0 (TX0 1).2.1 (TX0 1).2.2.1 ∈ wsX0_sell := by decide +kernel
theorem lkX0_sell_16 : Cond.fieldLink RX0 16 RX0 (TX0 2).2.1 (TX0 2).2.2.1 ∈ wsX0_sell := by decide +kernel
theorem lkX0_sell_22 : Cond.fieldLink RX0 22 RX0 (TX0 4).2.1 (TX0 4).2.2.1 ∈ wsX0_sell := by decide +kernel
theorem lkX0_sell_25 : Cond.fieldLink RX0 25 RX0 (TX0 5).2.1 (TX0 5).2.2.1 ∈ wsX0_sell := by decide +kernel
theorem lkX0_sell_28 : Cond.fieldLink RX0 28 RX0 (TX0 6).2.1 (TX0 6).2.2.1 ∈ wsX0_sell := by decide +kernel
set_option maxHeartbeats 4000000 in
set_option maxRecDepth 100000 in
theorem mX0_sell (l : Launch) (hst : l.stackTraces = false) (D : va_G) (cI cZ : ClassId) (ad : Nat → Nat) (a1 : Int32) : oz_MI l yX0_sell wsX0_sell rmX0_sell D cI cZ RX0 0 oz_KSX0 ad oz_lyX0 1 [.ref (ad 0), .int a1] (FX0_sell a1) := by
  refine oz_ofI (bytes := cX0_sell) (maxL := 3) (ret := (some .int)) (T := TX0) (N := 19) (by decide) rfl rfl oz_CX0 hst (Nat.le_of_ble_eq_true rfl) ?_
  intro p e s m below meth c st A res G hr X
  have hin : ∀ w ∈ u_ws RX0 TX0 19, w ∈ wsX0_sell := fun w h => List.mem_cons_of_mem _ (List.mem_append_left _ (List.mem_append_left _ (List.mem_append_right _ h)))
  have lk13 := lkX0_sell_13
  have lk16 := lkX0_sell_16
  have lk22 := lkX0_sell_22
  have lk25 := lkX0_sell_25
  have lk28 := lkX0_sell_28
  have tk1 : Cond.classLink RX0 79 (oz_exn 1) ∈ wsX0_sell := by decide +kernel
  have ti1 : Cond.initialized (oz_exn 1) ∈ wsX0_sell := by decide +kernel
  have tg1 : ∀ w ∈ (vx_atS RX0 83 (oz_exn 1) oz_names).filter goodWord, w ∈ wsX0_sell := fun w h => List.mem_cons_of_mem _ (List.mem_append_left _ (List.mem_append_right _ h))
  have tk2 : Cond.classLink RX0 93 (oz_exn 2) ∈ wsX0_sell := by decide +kernel
  have ti2 : Cond.initialized (oz_exn 2) ∈ wsX0_sell := by decide +kernel
  have tg2 : ∀ w ∈ (vx_atS RX0 97 (oz_exn 2) oz_names).filter goodWord, w ∈ wsX0_sell := fun w h => List.mem_cons_of_mem _ (List.mem_append_right _ h)
  show G 0 0 [(0, .ref (ad 0)), (1, .int a1)] [] st (FX0_sell a1 st)
  unfold FX0_sell
  refine oz_iload_n X dX0_sell_0 rfl 1 rfl ?_
  refine oz_callS X rfl (As := [.int a1]) (S := []) (mX0_isFrame l hst D cI cZ ad a1) gX0_sell_X0_isFrame rfl rfl rfl hX0_isFrame ⟨by decide, by decide⟩ rfl rfl (Nat.le_of_ble_eq_true rfl) dX0_sell_1 (by omega) (by decide) (by decide) (fun r1 s1 => ?_)
  refine oz_if_ne X (tgt := 17) dX0_sell_4 (by decide) (fun q2 => ?_) (fun q2 => ?_)
  · refine oz_aload_n X dX0_sell_17 rfl 0 rfl ?_
    refine oz_getA X hin (j := 4) rfl lk22 dX0_sell_18 ?_
    refine oz_iload_n X dX0_sell_21 rfl 1 rfl ?_
    refine oz_iald X (j := 4) rfl (by decide) dX0_sell_22 (fun g3 => ?_)
    refine oz_istore_n X (L2 := [(2, .int (s1 5 a1.toNatClampNeg)), (0, .ref (ad 0)), (1, .int a1)]) dX0_sell_23 rfl (by decide) rfl ?_
    refine oz_iload_n X dX0_sell_24 rfl 0 rfl ?_
    refine oz_callS X rfl (As := [.int (s1 5 a1.toNatClampNeg)]) (S := []) (mX0_isProcess l hst D cI cZ ad (s1 5 a1.toNatClampNeg)) gX0_sell_X0_isProcess rfl rfl rfl hX0_isProcess ⟨by decide, by decide⟩ rfl rfl (Nat.le_of_ble_eq_true rfl) dX0_sell_25 (by omega) (by decide) (by decide) (fun r4 s4 => ?_)
    refine oz_if_ne X (tgt := 41) dX0_sell_28 (by decide) (fun q5 => ?_) (fun q5 => ?_)
    · refine oz_aload_n X dX0_sell_41 rfl 1 rfl ?_
      refine oz_getA X hin (j := 5) rfl lk25 dX0_sell_42 ?_
      refine oz_iload_n X dX0_sell_45 rfl 2 rfl ?_
      refine oz_iald X (j := 5) rfl (by decide) dX0_sell_46 (fun g6 => ?_)
      refine oz_iload_n X dX0_sell_47 rfl 0 rfl ?_
      refine oz_icmp_ne X (tgt := 71) dX0_sell_48 (by decide) (fun q7 => ?_) (fun q7 => ?_)
      · exact oz_throw X rfl 2 (text := "lent, not empty, or of a sleeper") (by decide) (oz_KSX0_111) (by decide +kernel) tk2 ti2 tg2 oz_tbX0_2 oz_twX0_2 dX0_sell_71 dX0_sell_74 dX0_sell_75 dX0_sell_77 dX0_sell_80 (by decide) (by decide) (by omega) (by decide) (by decide)
      · refine oz_aload_n X dX0_sell_51 rfl 1 rfl ?_
        refine oz_getA X hin (j := 6) rfl lk28 dX0_sell_52 ?_
        refine oz_iload_n X dX0_sell_55 rfl 2 rfl ?_
        refine oz_iald X (j := 6) rfl (by decide) dX0_sell_56 (fun g8 => ?_)
        refine oz_iconst X (v := (-1)) dX0_sell_57 (by decide) ?_
        refine oz_icmp_ne X (tgt := 71) dX0_sell_58 (by decide) (fun q9 => ?_) (fun q9 => ?_)
        · exact oz_throw X rfl 2 (text := "lent, not empty, or of a sleeper") (by decide) (oz_KSX0_111) (by decide +kernel) tk2 ti2 tg2 oz_tbX0_2 oz_twX0_2 dX0_sell_71 dX0_sell_74 dX0_sell_75 dX0_sell_77 dX0_sell_80 (by decide) (by decide) (by omega) (by decide) (by decide)
        · refine oz_aload_n X dX0_sell_61 rfl 1 rfl ?_
          refine oz_getA X hin (j := 2) rfl lk16 dX0_sell_62 ?_
          refine oz_iload_n X dX0_sell_65 rfl 0 rfl ?_
          refine oz_iald X (j := 2) rfl (by decide) dX0_sell_66 (fun g10 => ?_)
          refine oz_iconst X (v := 2) dX0_sell_67 (by decide) ?_
          refine oz_icmp_ne X (tgt := 81) dX0_sell_68 (by decide) (fun q11 => ?_) (fun q11 => ?_)
          · refine oz_aload_n X dX0_sell_81 rfl 1 rfl ?_
            refine oz_getA X hin (j := 4) rfl lk22 dX0_sell_82 ?_
            refine oz_iload_n X dX0_sell_85 rfl 2 rfl ?_
            refine oz_iconst X (v := (-1)) dX0_sell_86 (by decide) ?_
            refine oz_iast X (j := 4) rfl (by decide) dX0_sell_87 (fun s12 e12 g12 => ?_)
            refine oz_aload_n X dX0_sell_88 rfl 1 rfl ?_
            refine oz_getA X hin (j := 5) rfl lk25 dX0_sell_89 ?_
            refine oz_iload_n X dX0_sell_92 rfl 2 rfl ?_
            refine oz_iconst X (v := (-1)) dX0_sell_93 (by decide) ?_
            refine oz_iast X (j := 5) rfl (by decide) dX0_sell_94 (fun s13 e13 g13 => ?_)
            refine oz_aload_n X dX0_sell_95 rfl 1 rfl ?_
            refine oz_getA X hin (j := 1) rfl lk13 dX0_sell_96 ?_
            refine oz_iload_n X dX0_sell_99 rfl 0 rfl ?_
            refine oz_dup2 X dX0_sell_100 rfl rfl ?_
            refine oz_iald X (j := 1) rfl (by decide) dX0_sell_101 (fun g14 => ?_)
            refine oz_iconst X (v := 4) dX0_sell_102 (by decide) ?_
            refine oz_iadd X dX0_sell_103 ?_
            refine oz_iast X (j := 1) rfl (by decide) dX0_sell_104 (fun s15 e15 g15 => ?_)
            refine oz_aload_n X dX0_sell_105 rfl 1 rfl ?_
            refine oz_getA X hin (j := 1) rfl lk13 dX0_sell_106 ?_
            refine oz_iload_n X dX0_sell_109 rfl 0 rfl ?_
            refine oz_iald X (j := 1) rfl (by decide) dX0_sell_110 (fun g16 => ?_)
            exact oz_iret X rfl hr (by omega) dX0_sell_111
          · exact oz_throw X rfl 2 (text := "lent, not empty, or of a sleeper") (by decide) (oz_KSX0_111) (by decide +kernel) tk2 ti2 tg2 oz_tbX0_2 oz_twX0_2 dX0_sell_71 dX0_sell_74 dX0_sell_75 dX0_sell_77 dX0_sell_80 (by decide) (by decide) (by omega) (by decide) (by decide)
    · exact oz_throw X rfl 2 (text := "the frame is free") (by decide) (oz_KSX0_109) (by decide +kernel) tk2 ti2 tg2 oz_tbX0_2 oz_twX0_2 dX0_sell_31 dX0_sell_34 dX0_sell_35 dX0_sell_37 dX0_sell_40 (by decide) (by decide) (by omega) (by decide) (by decide)
  · exact oz_throw X rfl 1 (text := "no such frame") (by decide) (oz_KSX0_107) (by decide +kernel) tk1 ti1 tg1 oz_tbX0_1 oz_twX0_1 dX0_sell_7 dX0_sell_10 dX0_sell_11 dX0_sell_13 dX0_sell_16 (by decide) (by decide) (by omega) (by decide) (by decide)

/-! AlmsKernel.dropPage -/
def FX0_dropPage (a1 : Int32) (st : ST) : Option Res := gd (oz_in a1 12) (stp (oz_se st 7 a1.toNatClampNeg (-1)) (fun s1 => gd (oz_in a1 12) (stp (oz_se s1 8 a1.toNatClampNeg 0) (fun s2 => (if s2 0 18 = a1 then stp (oz_se s2 0 18 (-1)) (fun s4 => some (0, 0, s4)) else some (0, 0, s2))))))
def rmX0_dropPage : Room := { frames := 0, cells := 0, slots := 0, locals := 0 }
theorem hX0_dropPage : yX0_dropPage.cls = RX0 ∧ yX0_dropPage.cls ≠ "java/lang/invoke/MethodHandle" ∧ yX0_dropPage.cls ≠ "java/lang/invoke/VarHandle" ∧ (parseMethodDescriptor yX0_dropPage.desc).map (fun d => d.parameters.length) = some 1 := by decide +kernel
theorem lkX0_dropPage_28 : Cond.fieldLink RX0 28 RX0 (TX0 6).2.1 (TX0 6).2.2.1 ∈ wsX0_dropPage := by decide +kernel
theorem lkX0_dropPage_31 : Cond.fieldLink RX0 31 RX0 (TX0 7).2.1 (TX0 7).2.2.1 ∈ wsX0_dropPage := by decide +kernel
theorem lkX0_dropPage_66 : Cond.fieldLink RX0 66 RX0 (TX0 18).2.1 (TX0 18).2.2.1 ∈ wsX0_dropPage := by decide +kernel
set_option maxHeartbeats 4000000 in
set_option maxRecDepth 100000 in
theorem mX0_dropPage (l : Launch) (hst : l.stackTraces = false) (D : va_G) (cI cZ : ClassId) (ad : Nat → Nat) (a1 : Int32) : oz_MV l yX0_dropPage wsX0_dropPage rmX0_dropPage D cI cZ RX0 0 oz_KSX0 ad oz_lyX0 0 [.ref (ad 0), .int a1] (FX0_dropPage a1) := by
  refine oz_ofV (bytes := cX0_dropPage) (maxL := 2) (ret := none) (T := TX0) (N := 19) (by decide) rfl rfl oz_CX0 hst (Nat.le_of_ble_eq_true rfl) ?_
  intro p e s m below meth c st A res G hr X
  have hin : ∀ w ∈ u_ws RX0 TX0 19, w ∈ wsX0_dropPage := fun w h => List.mem_cons_of_mem _ (List.mem_append_right _ h)
  have lk28 := lkX0_dropPage_28
  have lk31 := lkX0_dropPage_31
  have lk66 := lkX0_dropPage_66
  show G 0 0 [(0, .ref (ad 0)), (1, .int a1)] [] st (FX0_dropPage a1 st)
  unfold FX0_dropPage
  refine oz_aload_n X dX0_dropPage_0 rfl 0 rfl ?_
  refine oz_getA X hin (j := 6) rfl lk28 dX0_dropPage_1 ?_
  refine oz_iload_n X dX0_dropPage_4 rfl 1 rfl ?_
  refine oz_iconst X (v := (-1)) dX0_dropPage_5 (by decide) ?_
  refine oz_iast X (j := 6) rfl (by decide) dX0_dropPage_6 (fun s1 e1 g1 => ?_)
  refine oz_aload_n X dX0_dropPage_7 rfl 0 rfl ?_
  refine oz_getA X hin (j := 7) rfl lk31 dX0_dropPage_8 ?_
  refine oz_iload_n X dX0_dropPage_11 rfl 1 rfl ?_
  refine oz_iconst X (v := 0) dX0_dropPage_12 (by decide) ?_
  refine oz_zast X (j := 7) (v2 := 0) rfl (by decide) rfl dX0_dropPage_13 (fun s2 e2 g2 => ?_)
  refine oz_aload_n X dX0_dropPage_14 rfl 0 rfl ?_
  refine oz_getS X hin (j := 18) rfl lk66 dX0_dropPage_15 ?_
  refine oz_iload_n X dX0_dropPage_18 rfl 1 rfl ?_
  refine oz_icmp_ne X (tgt := 27) dX0_dropPage_19 (by decide) (fun q3 => ?_) (fun q3 => ?_)
  · exact oz_vret X rfl hr (by omega) dX0_dropPage_27
  · refine oz_aload_n X dX0_dropPage_22 rfl 0 rfl ?_
    refine oz_iconst X (v := (-1)) dX0_dropPage_23 (by decide) ?_
    refine oz_putS X hin (j := 18) rfl lk66 dX0_dropPage_24 (fun s4 e4 => ?_)
    exact oz_vret X rfl hr (by omega) dX0_dropPage_27

/-! AlmsKernel.drop -/
def FX0_drop (a1 : Int32) (st : ST) : Option Res := bnd (FX0_isFrame a1 st) (fun r1 s1 => (if r1 = 0 then some (1, 0, s1) else gd (oz_in a1 12) ((if s1 8 a1.toNatClampNeg = 0 then some (2, 0, s1) else gd (oz_in a1 12) (bnd (FX0_dropPage a1 s1) (fun _ s6 => some (0, s1 7 a1.toNatClampNeg, s6)))))))
def rmX0_drop : Room := { frames := 6, cells := 1, slots := 6, locals := 82 }
theorem hX0_drop : yX0_drop.cls = RX0 ∧ yX0_drop.cls ≠ "java/lang/invoke/MethodHandle" ∧ yX0_drop.cls ≠ "java/lang/invoke/VarHandle" ∧ (parseMethodDescriptor yX0_drop.desc).map (fun d => d.parameters.length) = some 1 := by decide +kernel
theorem lkX0_drop_28 : Cond.fieldLink RX0 28 RX0 (TX0 6).2.1 (TX0 6).2.2.1 ∈ wsX0_drop := by decide +kernel
theorem lkX0_drop_31 : Cond.fieldLink RX0 31 RX0 (TX0 7).2.1 (TX0 7).2.2.1 ∈ wsX0_drop := by decide +kernel
set_option maxHeartbeats 4000000 in
set_option maxRecDepth 100000 in
theorem mX0_drop (l : Launch) (hst : l.stackTraces = false) (D : va_G) (cI cZ : ClassId) (ad : Nat → Nat) (a1 : Int32) : oz_MI l yX0_drop wsX0_drop rmX0_drop D cI cZ RX0 0 oz_KSX0 ad oz_lyX0 1 [.ref (ad 0), .int a1] (FX0_drop a1) := by
  refine oz_ofI (bytes := cX0_drop) (maxL := 3) (ret := (some .int)) (T := TX0) (N := 19) (by decide) rfl rfl oz_CX0 hst (Nat.le_of_ble_eq_true rfl) ?_
  intro p e s m below meth c st A res G hr X
  have hin : ∀ w ∈ u_ws RX0 TX0 19, w ∈ wsX0_drop := fun w h => List.mem_cons_of_mem _ (List.mem_append_left _ (List.mem_append_left _ (List.mem_append_right _ h)))
  have lk28 := lkX0_drop_28
  have lk31 := lkX0_drop_31
  have tk1 : Cond.classLink RX0 79 (oz_exn 1) ∈ wsX0_drop := by decide +kernel
  have ti1 : Cond.initialized (oz_exn 1) ∈ wsX0_drop := by decide +kernel
  have tg1 : ∀ w ∈ (vx_atS RX0 83 (oz_exn 1) oz_names).filter goodWord, w ∈ wsX0_drop := fun w h => List.mem_cons_of_mem _ (List.mem_append_left _ (List.mem_append_right _ h))
  have tk2 : Cond.classLink RX0 93 (oz_exn 2) ∈ wsX0_drop := by decide +kernel
  have ti2 : Cond.initialized (oz_exn 2) ∈ wsX0_drop := by decide +kernel
  have tg2 : ∀ w ∈ (vx_atS RX0 97 (oz_exn 2) oz_names).filter goodWord, w ∈ wsX0_drop := fun w h => List.mem_cons_of_mem _ (List.mem_append_right _ h)
  show G 0 0 [(0, .ref (ad 0)), (1, .int a1)] [] st (FX0_drop a1 st)
  unfold FX0_drop
  refine oz_iload_n X dX0_drop_0 rfl 1 rfl ?_
  refine oz_callS X rfl (As := [.int a1]) (S := []) (mX0_isFrame l hst D cI cZ ad a1) gX0_drop_X0_isFrame rfl rfl rfl hX0_isFrame ⟨by decide, by decide⟩ rfl rfl (Nat.le_of_ble_eq_true rfl) dX0_drop_1 (by omega) (by decide) (by decide) (fun r1 s1 => ?_)
  refine oz_if_ne X (tgt := 17) dX0_drop_4 (by decide) (fun q2 => ?_) (fun q2 => ?_)
  · refine oz_aload_n X dX0_drop_17 rfl 0 rfl ?_
    refine oz_getA X hin (j := 7) rfl lk31 dX0_drop_18 ?_
    refine oz_iload_n X dX0_drop_21 rfl 1 rfl ?_
    refine oz_zald X (j := 7) rfl (by decide) dX0_drop_22 (fun g3 => ?_)
    refine oz_if_ne X (tgt := 36) dX0_drop_23 (by decide) (fun q4 => ?_) (fun q4 => ?_)
    · refine oz_aload_n X dX0_drop_36 rfl 0 rfl ?_
      refine oz_getA X hin (j := 6) rfl lk28 dX0_drop_37 ?_
      refine oz_iload_n X dX0_drop_40 rfl 1 rfl ?_
      refine oz_iald X (j := 6) rfl (by decide) dX0_drop_41 (fun g5 => ?_)
      refine oz_istore_n X (L2 := [(2, .int (s1 7 a1.toNatClampNeg)), (0, .ref (ad 0)), (1, .int a1)]) dX0_drop_42 rfl (by decide) rfl ?_
      refine oz_aload_n X dX0_drop_43 rfl 1 rfl ?_
      refine oz_iload_n X dX0_drop_44 rfl 2 rfl ?_
      refine oz_callVv X rfl (As := [.int a1]) (S := []) (mX0_dropPage l hst D cI cZ ad a1) gX0_drop_X0_dropPage rfl rfl rfl hX0_dropPage ⟨by decide, by decide⟩ rfl rfl (Nat.le_of_ble_eq_true rfl) dX0_drop_45 (by omega) (by decide) (by decide) (fun s6 => ?_)
      refine oz_iload_n X dX0_drop_48 rfl 0 rfl ?_
      exact oz_iret X rfl hr (by omega) dX0_drop_49
    · exact oz_throw X rfl 2 (text := "no page is there") (by decide) (oz_KSX0_113) (by decide +kernel) tk2 ti2 tg2 oz_tbX0_2 oz_twX0_2 dX0_drop_26 dX0_drop_29 dX0_drop_30 dX0_drop_32 dX0_drop_35 (by decide) (by decide) (by omega) (by decide) (by decide)
  · exact oz_throw X rfl 1 (text := "no such frame") (by decide) (oz_KSX0_107) (by decide +kernel) tk1 ti1 tg1 oz_tbX0_1 oz_twX0_1 dX0_drop_7 dX0_drop_10 dX0_drop_11 dX0_drop_13 dX0_drop_16 (by decide) (by decide) (by omega) (by decide) (by decide)

/-! AlmsKernel.isPage -/
def FX0_isPage (a1 : Int32) (st : ST) : Option Res := (if a1 < 0 then some (0, 0, st) else (if 8 ≤ a1 then some (0, 0, st) else some (0, 1, st)))
def rmX0_isPage : Room := { frames := 0, cells := 0, slots := 0, locals := 0 }
theorem hX0_isPage : yX0_isPage.cls ≠ "java/lang/invoke/MethodHandle" ∧ yX0_isPage.cls ≠ "java/lang/invoke/VarHandle" ∧ (parseMethodDescriptor yX0_isPage.desc).map (fun d => d.parameters.length) = some 1 := by decide +kernel
set_option maxHeartbeats 4000000 in
set_option maxRecDepth 100000 in
theorem mX0_isPage (l : Launch) (hst : l.stackTraces = false) (D : va_G) (cI cZ : ClassId) (ad : Nat → Nat) (a1 : Int32) : oz_MI l yX0_isPage wsX0_isPage rmX0_isPage D cI cZ RX0 0 oz_KSX0 ad oz_lyX0 0 [.int a1] (FX0_isPage a1) := by
  refine oz_ofI (bytes := cX0_isPage) (maxL := 1) (ret := (some .boolean)) (T := TX0) (N := 19) (by decide) rfl rfl oz_CX0 hst (Nat.le_of_ble_eq_true rfl) ?_
  intro p e s m below meth c st A res G hr X
  show G 0 0 [(0, .int a1)] [] st (FX0_isPage a1 st)
  unfold FX0_isPage
  refine oz_iload_n X dX0_isPage_0 rfl 0 rfl ?_
  refine oz_if_lt X (tgt := 14) dX0_isPage_1 (by decide) (fun q1 => ?_) (fun q1 => ?_)
  · refine oz_iconst X (v := 0) dX0_isPage_14 (by decide) ?_
    exact oz_zret X rfl hr rfl (by omega) dX0_isPage_15
  · refine oz_iload_n X dX0_isPage_4 rfl 0 rfl ?_
    refine oz_bipush X (v := 8) dX0_isPage_5 (by decide) ?_
    refine oz_icmp_ge X (tgt := 14) dX0_isPage_7 (by decide) (fun q2 => ?_) (fun q2 => ?_)
    · refine oz_iconst X (v := 0) dX0_isPage_14 (by decide) ?_
      exact oz_zret X rfl hr rfl (by omega) dX0_isPage_15
    · refine oz_iconst X (v := 1) dX0_isPage_10 (by decide) ?_
      refine oz_goto X (tgt := 15) dX0_isPage_11 (by decide) ?_
      exact oz_zret X rfl hr rfl (by omega) dX0_isPage_15

/-! AlmsKernel.frameWithPage -/
def FX0_frameWithPage_w2 : Nat → Int32 → Int32 → Int32 → ST → Option Res
  | 0, _, _, _, _ => none
  | n + 1, x1, x2, x3, st => (if 12 ≤ x3 then some (0, (-1), st) else gd (oz_in x3 12) ((if st 6 x3.toNatClampNeg = x1 then gd (oz_in x3 12) ((if st 7 x3.toNatClampNeg = x2 then some (0, x3, st) else (FX0_frameWithPage_w2 n x1 x2 (x3 + 1) st))) else (FX0_frameWithPage_w2 n x1 x2 (x3 + 1) st))))
def FX0_frameWithPage (a1 a2 : Int32) (st : ST) : Option Res := (FX0_frameWithPage_w2 300 a1 a2 0 st)
def rmX0_frameWithPage : Room := { frames := 0, cells := 0, slots := 0, locals := 0 }
theorem hX0_frameWithPage : yX0_frameWithPage.cls = RX0 ∧ yX0_frameWithPage.cls ≠ "java/lang/invoke/MethodHandle" ∧ yX0_frameWithPage.cls ≠ "java/lang/invoke/VarHandle" ∧ (parseMethodDescriptor yX0_frameWithPage.desc).map (fun d => d.parameters.length) = some 2 := by decide +kernel
theorem lkX0_frameWithPage_25 : Cond.fieldLink RX0 25 RX0 (TX0 5).2.1 (TX0 5).2.2.1 ∈ wsX0_frameWithPage := by decide +kernel
theorem lkX0_frameWithPage_28 : Cond.fieldLink RX0 28 RX0 (TX0 6).2.1 (TX0 6).2.2.1 ∈ wsX0_frameWithPage := by decide +kernel
set_option maxHeartbeats 4000000 in
set_option maxRecDepth 100000 in
theorem mX0_frameWithPage (l : Launch) (hst : l.stackTraces = false) (D : va_G) (cI cZ : ClassId) (ad : Nat → Nat) (a1 a2 : Int32) : oz_MI l yX0_frameWithPage wsX0_frameWithPage rmX0_frameWithPage D cI cZ RX0 0 oz_KSX0 ad oz_lyX0 0 [.ref (ad 0), .int a1, .int a2] (FX0_frameWithPage a1 a2) := by
  refine oz_ofI (bytes := cX0_frameWithPage) (maxL := 4) (ret := (some .int)) (T := TX0) (N := 19) (by decide) rfl rfl oz_CX0 hst (Nat.le_of_ble_eq_true rfl) ?_
  intro p e s m below meth c st A res G hr X
  have hin : ∀ w ∈ u_ws RX0 TX0 19, w ∈ wsX0_frameWithPage := fun w h => List.mem_cons_of_mem _ (List.mem_append_right _ h)
  have lk25 := lkX0_frameWithPage_25
  have lk28 := lkX0_frameWithPage_28
  have hc2 : ∀ (n k : Nat), k ≤ 0 → ∀ (x1 x2 x3 : Int32) (st : ST), G k 2 [(0, .ref (ad 0)), (1, .int x1), (2, .int x2), (3, .int x3)] [] st (FX0_frameWithPage_w2 n x1 x2 x3 st) := by
    intro n
    induction n with
    | zero => intros; exact oz_none X
    | succ n ih =>
      intro k hk x1 x2 x3 st
      rw [FX0_frameWithPage_w2]
      refine oz_iload_n X dX0_frameWithPage_2 rfl 3 rfl ?_
      refine oz_bipush X (v := 12) dX0_frameWithPage_3 (by decide) ?_
      refine oz_icmp_ge X (tgt := 36) dX0_frameWithPage_5 (by decide) (fun q2 => ?_) (fun q2 => ?_)
      · refine oz_iconst X (v := (-1)) dX0_frameWithPage_36 (by decide) ?_
        exact oz_iret X rfl hr (by omega) dX0_frameWithPage_37
      · refine oz_aload_n X dX0_frameWithPage_8 rfl 0 rfl ?_
        refine oz_getA X hin (j := 5) rfl lk25 dX0_frameWithPage_9 ?_
        refine oz_iload_n X dX0_frameWithPage_12 rfl 3 rfl ?_
        refine oz_iald X (j := 5) rfl (by decide) dX0_frameWithPage_13 (fun g3 => ?_)
        refine oz_iload_n X dX0_frameWithPage_14 rfl 1 rfl ?_
        refine oz_icmp_ne X (tgt := 30) dX0_frameWithPage_15 (by decide) (fun q4 => ?_) (fun q4 => ?_)
        · refine oz_iinc X (q := 3) (v := x3 + 1) (L2 := [(3, .int (x3 + 1)), (0, .ref (ad 0)), (1, .int x1), (2, .int x2)]) dX0_frameWithPage_30 rfl rfl (by decide) rfl ?_
          refine oz_goto X (tgt := 2) dX0_frameWithPage_33 (by decide) ?_
          exact oz_sub X [1, 2, 3, 0] (L2 := [(0, .ref (ad 0)), (1, .int x1), (2, .int x2), (3, .int (x3 + 1))]) rfl (ih _ (by omega) x1 x2 (x3 + 1) st)
        · refine oz_aload_n X dX0_frameWithPage_18 rfl 0 rfl ?_
          refine oz_getA X hin (j := 6) rfl lk28 dX0_frameWithPage_19 ?_
          refine oz_iload_n X dX0_frameWithPage_22 rfl 3 rfl ?_
          refine oz_iald X (j := 6) rfl (by decide) dX0_frameWithPage_23 (fun g5 => ?_)
          refine oz_iload_n X dX0_frameWithPage_24 rfl 2 rfl ?_
          refine oz_icmp_ne X (tgt := 30) dX0_frameWithPage_25 (by decide) (fun q6 => ?_) (fun q6 => ?_)
          · refine oz_iinc X (q := 3) (v := x3 + 1) (L2 := [(3, .int (x3 + 1)), (0, .ref (ad 0)), (1, .int x1), (2, .int x2)]) dX0_frameWithPage_30 rfl rfl (by decide) rfl ?_
            refine oz_goto X (tgt := 2) dX0_frameWithPage_33 (by decide) ?_
            exact oz_sub X [1, 2, 3, 0] (L2 := [(0, .ref (ad 0)), (1, .int x1), (2, .int x2), (3, .int (x3 + 1))]) rfl (ih _ (by omega) x1 x2 (x3 + 1) st)
          · refine oz_iload_n X dX0_frameWithPage_28 rfl 3 rfl ?_
            exact oz_iret X rfl hr (by omega) dX0_frameWithPage_29
  show G 0 0 [(0, .ref (ad 0)), (1, .int a1), (2, .int a2)] [] st (FX0_frameWithPage a1 a2 st)
  unfold FX0_frameWithPage
  refine oz_iconst X (v := 0) dX0_frameWithPage_0 (by decide) ?_
  refine oz_istore_n X (L2 := [(3, .int 0), (0, .ref (ad 0)), (1, .int a1), (2, .int a2)]) dX0_frameWithPage_1 rfl (by decide) rfl ?_
  exact oz_sub X [1, 2, 3, 0] (L2 := [(0, .ref (ad 0)), (1, .int a1), (2, .int a2), (3, .int 0)]) rfl (hc2 300 _ (by omega) a1 a2 0 st)

/-! AlmsKernel.isComing -/
def FX0_isComing (a1 : Int32) (st : ST) : Option Res := bnd (FX0_isFrame a1 st) (fun r1 s1 => (if r1 = 0 then some (0, 0, s1) else gd (oz_in a1 12) ((if s1 7 a1.toNatClampNeg = (-1) then some (0, 0, s1) else gd (oz_in a1 12) ((if s1 8 a1.toNatClampNeg = 0 then some (0, 1, s1) else some (0, 0, s1)))))))
def rmX0_isComing : Room := { frames := 1, cells := 0, slots := 0, locals := 20 }
theorem hX0_isComing : yX0_isComing.cls = RX0 ∧ yX0_isComing.cls ≠ "java/lang/invoke/MethodHandle" ∧ yX0_isComing.cls ≠ "java/lang/invoke/VarHandle" ∧ (parseMethodDescriptor yX0_isComing.desc).map (fun d => d.parameters.length) = some 1 := by decide +kernel
theorem lkX0_isComing_28 : Cond.fieldLink RX0 28 RX0 (TX0 6).2.1 (TX0 6).2.2.1 ∈ wsX0_isComing := by decide +kernel
theorem lkX0_isComing_31 : Cond.fieldLink RX0 31 RX0 (TX0 7).2.1 (TX0 7).2.2.1 ∈ wsX0_isComing := by decide +kernel
set_option maxHeartbeats 4000000 in
set_option maxRecDepth 100000 in
theorem mX0_isComing (l : Launch) (hst : l.stackTraces = false) (D : va_G) (cI cZ : ClassId) (ad : Nat → Nat) (a1 : Int32) : oz_MI l yX0_isComing wsX0_isComing rmX0_isComing D cI cZ RX0 0 oz_KSX0 ad oz_lyX0 0 [.ref (ad 0), .int a1] (FX0_isComing a1) := by
  refine oz_ofI (bytes := cX0_isComing) (maxL := 2) (ret := (some .boolean)) (T := TX0) (N := 19) (by decide) rfl rfl oz_CX0 hst (Nat.le_of_ble_eq_true rfl) ?_
  intro p e s m below meth c st A res G hr X
  have hin : ∀ w ∈ u_ws RX0 TX0 19, w ∈ wsX0_isComing := fun w h => List.mem_cons_of_mem _ (List.mem_append_right _ h)
  have lk28 := lkX0_isComing_28
  have lk31 := lkX0_isComing_31
  show G 0 0 [(0, .ref (ad 0)), (1, .int a1)] [] st (FX0_isComing a1 st)
  unfold FX0_isComing
  refine oz_iload_n X dX0_isComing_0 rfl 1 rfl ?_
  refine oz_callS X rfl (As := [.int a1]) (S := []) (mX0_isFrame l hst D cI cZ ad a1) gX0_isComing_X0_isFrame rfl rfl rfl hX0_isFrame ⟨by decide, by decide⟩ rfl rfl (Nat.le_of_ble_eq_true rfl) dX0_isComing_1 (by omega) (by decide) (by decide) (fun r1 s1 => ?_)
  refine oz_if_eq X (tgt := 30) dX0_isComing_4 (by decide) (fun q2 => ?_) (fun q2 => ?_)
  · refine oz_iconst X (v := 0) dX0_isComing_30 (by decide) ?_
    exact oz_zret X rfl hr rfl (by omega) dX0_isComing_31
  · refine oz_aload_n X dX0_isComing_7 rfl 0 rfl ?_
    refine oz_getA X hin (j := 6) rfl lk28 dX0_isComing_8 ?_
    refine oz_iload_n X dX0_isComing_11 rfl 1 rfl ?_
    refine oz_iald X (j := 6) rfl (by decide) dX0_isComing_12 (fun g3 => ?_)
    refine oz_iconst X (v := (-1)) dX0_isComing_13 (by decide) ?_
    refine oz_icmp_eq X (tgt := 30) dX0_isComing_14 (by decide) (fun q4 => ?_) (fun q4 => ?_)
    · refine oz_iconst X (v := 0) dX0_isComing_30 (by decide) ?_
      exact oz_zret X rfl hr rfl (by omega) dX0_isComing_31
    · refine oz_aload_n X dX0_isComing_17 rfl 0 rfl ?_
      refine oz_getA X hin (j := 7) rfl lk31 dX0_isComing_18 ?_
      refine oz_iload_n X dX0_isComing_21 rfl 1 rfl ?_
      refine oz_zald X (j := 7) rfl (by decide) dX0_isComing_22 (fun g5 => ?_)
      refine oz_if_ne X (tgt := 30) dX0_isComing_23 (by decide) (fun q6 => ?_) (fun q6 => ?_)
      · refine oz_iconst X (v := 0) dX0_isComing_30 (by decide) ?_
        exact oz_zret X rfl hr rfl (by omega) dX0_isComing_31
      · refine oz_iconst X (v := 1) dX0_isComing_26 (by decide) ?_
        refine oz_goto X (tgt := 31) dX0_isComing_27 (by decide) ?_
        exact oz_zret X rfl hr rfl (by omega) dX0_isComing_31

/-! AlmsKernel.endLoan -/
def FX0_endLoan (a1 : Int32) (st : ST) : Option Res := gd (oz_in a1 60) (stp (oz_se st 13 a1.toNatClampNeg 0) (fun s1 => gd (oz_in a1 60) (bnd (FX0_isFrame (s1 10 a1.toNatClampNeg) s1) (fun r3 s3 => (if r3 = 0 then some (0, 0, s3) else bnd (FX0_dropPage (s1 10 a1.toNatClampNeg) s3) (fun _ s5 => gd (oz_in (s1 10 a1.toNatClampNeg) 12) (gd (oz_in (s1 10 a1.toNatClampNeg) 12) (stp (oz_se s5 6 (s1 10 a1.toNatClampNeg).toNatClampNeg (s5 5 (s1 10 a1.toNatClampNeg).toNatClampNeg)) (fun s7 => some (0, 0, s7))))))))))
def rmX0_endLoan : Room := { frames := 1, cells := 0, slots := 0, locals := 21 }
theorem hX0_endLoan : yX0_endLoan.cls = RX0 ∧ yX0_endLoan.cls ≠ "java/lang/invoke/MethodHandle" ∧ yX0_endLoan.cls ≠ "java/lang/invoke/VarHandle" ∧ (parseMethodDescriptor yX0_endLoan.desc).map (fun d => d.parameters.length) = some 1 := by decide +kernel
theorem lkX0_endLoan_22 : Cond.fieldLink RX0 22 RX0 (TX0 4).2.1 (TX0 4).2.2.1 ∈ wsX0_endLoan := by decide +kernel
theorem lkX0_endLoan_25 : Cond.fieldLink RX0 25 RX0 (TX0 5).2.1 (TX0 5).2.2.1 ∈ wsX0_endLoan := by decide +kernel
theorem lkX0_endLoan_38 : Cond.fieldLink RX0 38 RX0 (TX0 9).2.1 (TX0 9).2.2.1 ∈ wsX0_endLoan := by decide +kernel
theorem lkX0_endLoan_47 : Cond.fieldLink RX0 47 RX0 (TX0 12).2.1 (TX0 12).2.2.1 ∈ wsX0_endLoan := by decide +kernel
set_option maxHeartbeats 4000000 in
set_option maxRecDepth 100000 in
theorem mX0_endLoan (l : Launch) (hst : l.stackTraces = false) (D : va_G) (cI cZ : ClassId) (ad : Nat → Nat) (a1 : Int32) : oz_MV l yX0_endLoan wsX0_endLoan rmX0_endLoan D cI cZ RX0 0 oz_KSX0 ad oz_lyX0 0 [.ref (ad 0), .int a1] (FX0_endLoan a1) := by
  refine oz_ofV (bytes := cX0_endLoan) (maxL := 3) (ret := none) (T := TX0) (N := 19) (by decide) rfl rfl oz_CX0 hst (Nat.le_of_ble_eq_true rfl) ?_
  intro p e s m below meth c st A res G hr X
  have hin : ∀ w ∈ u_ws RX0 TX0 19, w ∈ wsX0_endLoan := fun w h => List.mem_cons_of_mem _ (List.mem_append_right _ h)
  have lk22 := lkX0_endLoan_22
  have lk25 := lkX0_endLoan_25
  have lk38 := lkX0_endLoan_38
  have lk47 := lkX0_endLoan_47
  show G 0 0 [(0, .ref (ad 0)), (1, .int a1)] [] st (FX0_endLoan a1 st)
  unfold FX0_endLoan
  refine oz_aload_n X dX0_endLoan_0 rfl 0 rfl ?_
  refine oz_getA X hin (j := 12) rfl lk47 dX0_endLoan_1 ?_
  refine oz_iload_n X dX0_endLoan_4 rfl 1 rfl ?_
  refine oz_iconst X (v := 0) dX0_endLoan_5 (by decide) ?_
  refine oz_zast X (j := 12) (v2 := 0) rfl (by decide) rfl dX0_endLoan_6 (fun s1 e1 g1 => ?_)
  refine oz_aload_n X dX0_endLoan_7 rfl 0 rfl ?_
  refine oz_getA X hin (j := 9) rfl lk38 dX0_endLoan_8 ?_
  refine oz_iload_n X dX0_endLoan_11 rfl 1 rfl ?_
  refine oz_iald X (j := 9) rfl (by decide) dX0_endLoan_12 (fun g2 => ?_)
  refine oz_istore_n X (L2 := [(2, .int (s1 10 a1.toNatClampNeg)), (0, .ref (ad 0)), (1, .int a1)]) dX0_endLoan_13 rfl (by decide) rfl ?_
  refine oz_iload_n X dX0_endLoan_14 rfl 0 rfl ?_
  refine oz_callS X rfl (As := [.int (s1 10 a1.toNatClampNeg)]) (S := []) (mX0_isFrame l hst D cI cZ ad (s1 10 a1.toNatClampNeg)) gX0_endLoan_X0_isFrame rfl rfl rfl hX0_isFrame ⟨by decide, by decide⟩ rfl rfl (Nat.le_of_ble_eq_true rfl) dX0_endLoan_15 (by omega) (by decide) (by decide) (fun r3 s3 => ?_)
  refine oz_if_eq X (tgt := 38) dX0_endLoan_18 (by decide) (fun q4 => ?_) (fun q4 => ?_)
  · exact oz_vret X rfl hr (by omega) dX0_endLoan_38
  · refine oz_aload_n X dX0_endLoan_21 rfl 1 rfl ?_
    refine oz_iload_n X dX0_endLoan_22 rfl 0 rfl ?_
    refine oz_callVv X rfl (As := [.int (s1 10 a1.toNatClampNeg)]) (S := []) (mX0_dropPage l hst D cI cZ ad (s1 10 a1.toNatClampNeg)) gX0_endLoan_X0_dropPage rfl rfl rfl hX0_dropPage ⟨by decide, by decide⟩ rfl rfl (Nat.le_of_ble_eq_true rfl) dX0_endLoan_23 (by omega) (by decide) (by decide) (fun s5 => ?_)
    refine oz_aload_n X dX0_endLoan_26 rfl 1 rfl ?_
    refine oz_getA X hin (j := 5) rfl lk25 dX0_endLoan_27 ?_
    refine oz_iload_n X dX0_endLoan_30 rfl 0 rfl ?_
    refine oz_aload_n X dX0_endLoan_31 rfl 1 rfl ?_
    refine oz_getA X hin (j := 4) rfl lk22 dX0_endLoan_32 ?_
    refine oz_iload_n X dX0_endLoan_35 rfl 0 rfl ?_
    refine oz_iald X (j := 4) rfl (by decide) dX0_endLoan_36 (fun g6 => ?_)
    refine oz_iast X (j := 5) rfl (by decide) dX0_endLoan_37 (fun s7 e7 g7 => ?_)
    exact oz_vret X rfl hr (by omega) dX0_endLoan_38

/-! AlmsKernel.callIn -/
def FX0_callIn_w2 : Nat → Int32 → Int32 → ST → Option Res
  | 0, _, _, _ => none
  | n + 1, x1, x2, st => (if 60 ≤ x2 then some (0, (-1), st) else (if st 0 14 ≤ x2 then some (0, (-1), st) else gd (oz_in x2 60) ((if st 13 x2.toNatClampNeg = 0 then (FX0_callIn_w2 n x1 (x2 + 1) st) else gd (oz_in x2 60) ((if st 11 x2.toNatClampNeg = x1 then gd (oz_in x2 60) (bnd (FX0_isComing (st 10 x2.toNatClampNeg) st) (fun r9 s9 => (if r9 = 0 then bnd (FX0_endLoan x2 s9) (fun _ s11 => gd (oz_in x2 60) (some (0, s11 10 x2.toNatClampNeg, s11))) else (FX0_callIn_w2 n x1 (x2 + 1) s9)))) else (FX0_callIn_w2 n x1 (x2 + 1) st)))))))
def FX0_callIn (a1 : Int32) (st : ST) : Option Res := (FX0_callIn_w2 300 a1 0 st)
def rmX0_callIn : Room := { frames := 2, cells := 0, slots := 0, locals := 43 }
theorem hX0_callIn : yX0_callIn.cls = RX0 ∧ yX0_callIn.cls ≠ "java/lang/invoke/MethodHandle" ∧ yX0_callIn.cls ≠ "java/lang/invoke/VarHandle" ∧ (parseMethodDescriptor yX0_callIn.desc).map (fun d => d.parameters.length) = some 1 := by decide +kernel
theorem lkX0_callIn_38 : Cond.fieldLink RX0 38 RX0 (TX0 9).2.1 (TX0 9).2.2.1 ∈ wsX0_callIn := by decide +kernel
theorem lkX0_callIn_41 : Cond.fieldLink RX0 41 RX0 (TX0 10).2.1 (TX0 10).2.2.1 ∈ wsX0_callIn := by decide +kernel
theorem lkX0_callIn_47 : Cond.fieldLink RX0 47 RX0 (TX0 12).2.1 (TX0 12).2.2.1 ∈ wsX0_callIn := by decide +kernel
theorem lkX0_callIn_53 : Cond.fieldLink RX0 53 RX0 (TX0 14).2.1 (TX0 14).2.2.1 ∈ wsX0_callIn := by decide +kernel
set_option maxHeartbeats 4000000 in
set_option maxRecDepth 100000 in
theorem mX0_callIn (l : Launch) (hst : l.stackTraces = false) (D : va_G) (cI cZ : ClassId) (ad : Nat → Nat) (a1 : Int32) : oz_MI l yX0_callIn wsX0_callIn rmX0_callIn D cI cZ RX0 0 oz_KSX0 ad oz_lyX0 0 [.ref (ad 0), .int a1] (FX0_callIn a1) := by
  refine oz_ofI (bytes := cX0_callIn) (maxL := 3) (ret := (some .int)) (T := TX0) (N := 19) (by decide) rfl rfl oz_CX0 hst (Nat.le_of_ble_eq_true rfl) ?_
  intro p e s m below meth c st A res G hr X
  have hin : ∀ w ∈ u_ws RX0 TX0 19, w ∈ wsX0_callIn := fun w h => List.mem_cons_of_mem _ (List.mem_append_right _ h)
  have lk38 := lkX0_callIn_38
  have lk41 := lkX0_callIn_41
  have lk47 := lkX0_callIn_47
  have lk53 := lkX0_callIn_53
  have hc2 : ∀ (n k : Nat), k ≤ 0 → ∀ (x1 x2 : Int32) (st : ST), G k 2 [(0, .ref (ad 0)), (1, .int x1), (2, .int x2)] [] st (FX0_callIn_w2 n x1 x2 st) := by
    intro n
    induction n with
    | zero => intros; exact oz_none X
    | succ n ih =>
      intro k hk x1 x2 st
      rw [FX0_callIn_w2]
      refine oz_iload_n X dX0_callIn_2 rfl 2 rfl ?_
      refine oz_bipush X (v := 60) dX0_callIn_3 (by decide) ?_
      refine oz_icmp_ge X (tgt := 66) dX0_callIn_5 (by decide) (fun q2 => ?_) (fun q2 => ?_)
      · refine oz_iconst X (v := (-1)) dX0_callIn_66 (by decide) ?_
        exact oz_iret X rfl hr (by omega) dX0_callIn_67
      · refine oz_iload_n X dX0_callIn_8 rfl 2 rfl ?_
        refine oz_aload_n X dX0_callIn_9 rfl 0 rfl ?_
        refine oz_getS X hin (j := 14) rfl lk53 dX0_callIn_10 ?_
        refine oz_icmp_ge X (tgt := 66) dX0_callIn_13 (by decide) (fun q3 => ?_) (fun q3 => ?_)
        · refine oz_iconst X (v := (-1)) dX0_callIn_66 (by decide) ?_
          exact oz_iret X rfl hr (by omega) dX0_callIn_67
        · refine oz_aload_n X dX0_callIn_16 rfl 0 rfl ?_
          refine oz_getA X hin (j := 12) rfl lk47 dX0_callIn_17 ?_
          refine oz_iload_n X dX0_callIn_20 rfl 2 rfl ?_
          refine oz_zald X (j := 12) rfl (by decide) dX0_callIn_21 (fun g4 => ?_)
          refine oz_if_eq X (tgt := 60) dX0_callIn_22 (by decide) (fun q5 => ?_) (fun q5 => ?_)
          · refine oz_iinc X (q := 2) (v := x2 + 1) (L2 := [(2, .int (x2 + 1)), (0, .ref (ad 0)), (1, .int x1)]) dX0_callIn_60 rfl rfl (by decide) rfl ?_
            refine oz_goto X (tgt := 2) dX0_callIn_63 (by decide) ?_
            exact oz_sub X [1, 2, 0] (L2 := [(0, .ref (ad 0)), (1, .int x1), (2, .int (x2 + 1))]) rfl (ih _ (by omega) x1 (x2 + 1) st)
          · refine oz_aload_n X dX0_callIn_25 rfl 0 rfl ?_
            refine oz_getA X hin (j := 10) rfl lk41 dX0_callIn_26 ?_
            refine oz_iload_n X dX0_callIn_29 rfl 2 rfl ?_
            refine oz_iald X (j := 10) rfl (by decide) dX0_callIn_30 (fun g6 => ?_)
            refine oz_iload_n X dX0_callIn_31 rfl 1 rfl ?_
            refine oz_icmp_ne X (tgt := 60) dX0_callIn_32 (by decide) (fun q7 => ?_) (fun q7 => ?_)
            · refine oz_iinc X (q := 2) (v := x2 + 1) (L2 := [(2, .int (x2 + 1)), (0, .ref (ad 0)), (1, .int x1)]) dX0_callIn_60 rfl rfl (by decide) rfl ?_
              refine oz_goto X (tgt := 2) dX0_callIn_63 (by decide) ?_
              exact oz_sub X [1, 2, 0] (L2 := [(0, .ref (ad 0)), (1, .int x1), (2, .int (x2 + 1))]) rfl (ih _ (by omega) x1 (x2 + 1) st)
            · refine oz_aload_n X dX0_callIn_35 rfl 0 rfl ?_
              refine oz_aload_n X dX0_callIn_36 rfl 0 rfl ?_
              refine oz_getA X hin (j := 9) rfl lk38 dX0_callIn_37 ?_
              refine oz_iload_n X dX0_callIn_40 rfl 2 rfl ?_
              refine oz_iald X (j := 9) rfl (by decide) dX0_callIn_41 (fun g8 => ?_)
              refine oz_callV X rfl (As := [.int (st 10 x2.toNatClampNeg)]) (S := []) (mX0_isComing l hst D cI cZ ad (st 10 x2.toNatClampNeg)) gX0_callIn_X0_isComing rfl rfl rfl hX0_isComing ⟨by decide, by decide⟩ rfl rfl (Nat.le_of_ble_eq_true rfl) dX0_callIn_42 (by omega) (by decide) (by decide) (fun r9 s9 => ?_)
              refine oz_if_ne X (tgt := 60) dX0_callIn_45 (by decide) (fun q10 => ?_) (fun q10 => ?_)
              · refine oz_iinc X (q := 2) (v := x2 + 1) (L2 := [(2, .int (x2 + 1)), (0, .ref (ad 0)), (1, .int x1)]) dX0_callIn_60 rfl rfl (by decide) rfl ?_
                refine oz_goto X (tgt := 2) dX0_callIn_63 (by decide) ?_
                exact oz_sub X [1, 2, 0] (L2 := [(0, .ref (ad 0)), (1, .int x1), (2, .int (x2 + 1))]) rfl (ih _ (by omega) x1 (x2 + 1) s9)
              · refine oz_aload_n X dX0_callIn_48 rfl 0 rfl ?_
                refine oz_iload_n X dX0_callIn_49 rfl 2 rfl ?_
                refine oz_callVv X rfl (As := [.int x2]) (S := []) (mX0_endLoan l hst D cI cZ ad x2) gX0_callIn_X0_endLoan rfl rfl rfl hX0_endLoan ⟨by decide, by decide⟩ rfl rfl (Nat.le_of_ble_eq_true rfl) dX0_callIn_50 (by omega) (by decide) (by decide) (fun s11 => ?_)
                refine oz_aload_n X dX0_callIn_53 rfl 0 rfl ?_
                refine oz_getA X hin (j := 9) rfl lk38 dX0_callIn_54 ?_
                refine oz_iload_n X dX0_callIn_57 rfl 2 rfl ?_
                refine oz_iald X (j := 9) rfl (by decide) dX0_callIn_58 (fun g12 => ?_)
                exact oz_iret X rfl hr (by omega) dX0_callIn_59
  show G 0 0 [(0, .ref (ad 0)), (1, .int a1)] [] st (FX0_callIn a1 st)
  unfold FX0_callIn
  refine oz_iconst X (v := 0) dX0_callIn_0 (by decide) ?_
  refine oz_istore_n X (L2 := [(2, .int 0), (0, .ref (ad 0)), (1, .int a1)]) dX0_callIn_1 rfl (by decide) rfl ?_
  exact oz_sub X [1, 2, 0] (L2 := [(0, .ref (ad 0)), (1, .int a1), (2, .int 0)]) rfl (hc2 300 _ (by omega) a1 0 st)

/-! AlmsKernel.countBorrowed -/
def FX0_countBorrowed_w4 : Nat → Int32 → Int32 → Int32 → ST → Option Res
  | 0, _, _, _, _ => none
  | n + 1, x1, x2, x3, st => (if 12 ≤ x3 then some (0, x2, st) else gd (oz_in x3 12) ((if st 6 x3.toNatClampNeg = x1 then gd (oz_in x3 12) ((if st 5 x3.toNatClampNeg = x1 then (FX0_countBorrowed_w4 n x1 x2 (x3 + 1) st) else (FX0_countBorrowed_w4 n x1 (x2 + 1) (x3 + 1) st))) else (FX0_countBorrowed_w4 n x1 x2 (x3 + 1) st))))
def FX0_countBorrowed (a1 : Int32) (st : ST) : Option Res := (FX0_countBorrowed_w4 300 a1 0 0 st)
def rmX0_countBorrowed : Room := { frames := 0, cells := 0, slots := 0, locals := 0 }
theorem hX0_countBorrowed : yX0_countBorrowed.cls = RX0 ∧ yX0_countBorrowed.cls ≠ "java/lang/invoke/MethodHandle" ∧ yX0_countBorrowed.cls ≠ "java/lang/invoke/VarHandle" ∧ (parseMethodDescriptor yX0_countBorrowed.desc).map (fun d => d.parameters.length) = some 1 := by decide +kernel
theorem lkX0_countBorrowed_22 : Cond.fieldLink RX0 22 RX0 (TX0 4).2.1 (TX0 4).2.2.1 ∈ wsX0_countBorrowed := by decide +kernel
theorem lkX0_countBorrowed_25 : Cond.fieldLink RX0 25 RX0 (TX0 5).2.1 (TX0 5).2.2.1 ∈ wsX0_countBorrowed := by decide +kernel
set_option maxHeartbeats 4000000 in
set_option maxRecDepth 100000 in
theorem mX0_countBorrowed (l : Launch) (hst : l.stackTraces = false) (D : va_G) (cI cZ : ClassId) (ad : Nat → Nat) (a1 : Int32) : oz_MI l yX0_countBorrowed wsX0_countBorrowed rmX0_countBorrowed D cI cZ RX0 0 oz_KSX0 ad oz_lyX0 0 [.ref (ad 0), .int a1] (FX0_countBorrowed a1) := by
  refine oz_ofI (bytes := cX0_countBorrowed) (maxL := 4) (ret := (some .int)) (T := TX0) (N := 19) (by decide) rfl rfl oz_CX0 hst (Nat.le_of_ble_eq_true rfl) ?_
  intro p e s m below meth c st A res G hr X
  have hin : ∀ w ∈ u_ws RX0 TX0 19, w ∈ wsX0_countBorrowed := fun w h => List.mem_cons_of_mem _ (List.mem_append_right _ h)
  have lk22 := lkX0_countBorrowed_22
  have lk25 := lkX0_countBorrowed_25
  have hc4 : ∀ (n k : Nat), k ≤ 0 → ∀ (x1 x2 x3 : Int32) (st : ST), G k 4 [(0, .ref (ad 0)), (1, .int x1), (2, .int x2), (3, .int x3)] [] st (FX0_countBorrowed_w4 n x1 x2 x3 st) := by
    intro n
    induction n with
    | zero => intros; exact oz_none X
    | succ n ih =>
      intro k hk x1 x2 x3 st
      rw [FX0_countBorrowed_w4]
      refine oz_iload_n X dX0_countBorrowed_4 rfl 3 rfl ?_
      refine oz_bipush X (v := 12) dX0_countBorrowed_5 (by decide) ?_
      refine oz_icmp_ge X (tgt := 39) dX0_countBorrowed_7 (by decide) (fun q2 => ?_) (fun q2 => ?_)
      · refine oz_iload_n X dX0_countBorrowed_39 rfl 2 rfl ?_
        exact oz_iret X rfl hr (by omega) dX0_countBorrowed_40
      · refine oz_aload_n X dX0_countBorrowed_10 rfl 0 rfl ?_
        refine oz_getA X hin (j := 5) rfl lk25 dX0_countBorrowed_11 ?_
        refine oz_iload_n X dX0_countBorrowed_14 rfl 3 rfl ?_
        refine oz_iald X (j := 5) rfl (by decide) dX0_countBorrowed_15 (fun g3 => ?_)
        refine oz_iload_n X dX0_countBorrowed_16 rfl 1 rfl ?_
        refine oz_icmp_ne X (tgt := 33) dX0_countBorrowed_17 (by decide) (fun q4 => ?_) (fun q4 => ?_)
        · refine oz_iinc X (q := 3) (v := x3 + 1) (L2 := [(3, .int (x3 + 1)), (0, .ref (ad 0)), (1, .int x1), (2, .int x2)]) dX0_countBorrowed_33 rfl rfl (by decide) rfl ?_
          refine oz_goto X (tgt := 4) dX0_countBorrowed_36 (by decide) ?_
          exact oz_sub X [1, 2, 3, 0] (L2 := [(0, .ref (ad 0)), (1, .int x1), (2, .int x2), (3, .int (x3 + 1))]) rfl (ih _ (by omega) x1 x2 (x3 + 1) st)
        · refine oz_aload_n X dX0_countBorrowed_20 rfl 0 rfl ?_
          refine oz_getA X hin (j := 4) rfl lk22 dX0_countBorrowed_21 ?_
          refine oz_iload_n X dX0_countBorrowed_24 rfl 3 rfl ?_
          refine oz_iald X (j := 4) rfl (by decide) dX0_countBorrowed_25 (fun g5 => ?_)
          refine oz_iload_n X dX0_countBorrowed_26 rfl 1 rfl ?_
          refine oz_icmp_eq X (tgt := 33) dX0_countBorrowed_27 (by decide) (fun q6 => ?_) (fun q6 => ?_)
          · refine oz_iinc X (q := 3) (v := x3 + 1) (L2 := [(3, .int (x3 + 1)), (0, .ref (ad 0)), (1, .int x1), (2, .int x2)]) dX0_countBorrowed_33 rfl rfl (by decide) rfl ?_
            refine oz_goto X (tgt := 4) dX0_countBorrowed_36 (by decide) ?_
            exact oz_sub X [1, 2, 3, 0] (L2 := [(0, .ref (ad 0)), (1, .int x1), (2, .int x2), (3, .int (x3 + 1))]) rfl (ih _ (by omega) x1 x2 (x3 + 1) st)
          · refine oz_iinc X (q := 2) (v := x2 + 1) (L2 := [(2, .int (x2 + 1)), (0, .ref (ad 0)), (1, .int x1), (3, .int x3)]) dX0_countBorrowed_30 rfl rfl (by decide) rfl ?_
            refine oz_iinc X (q := 3) (v := x3 + 1) (L2 := [(3, .int (x3 + 1)), (2, .int (x2 + 1)), (0, .ref (ad 0)), (1, .int x1)]) dX0_countBorrowed_33 rfl rfl (by decide) rfl ?_
            refine oz_goto X (tgt := 4) dX0_countBorrowed_36 (by decide) ?_
            exact oz_sub X [2, 3, 1, 0] (L2 := [(0, .ref (ad 0)), (1, .int x1), (2, .int (x2 + 1)), (3, .int (x3 + 1))]) rfl (ih _ (by omega) x1 (x2 + 1) (x3 + 1) st)
  show G 0 0 [(0, .ref (ad 0)), (1, .int a1)] [] st (FX0_countBorrowed a1 st)
  unfold FX0_countBorrowed
  refine oz_iconst X (v := 0) dX0_countBorrowed_0 (by decide) ?_
  refine oz_istore_n X (L2 := [(2, .int 0), (0, .ref (ad 0)), (1, .int a1)]) dX0_countBorrowed_1 rfl (by decide) rfl ?_
  refine oz_iconst X (v := 0) dX0_countBorrowed_2 (by decide) ?_
  refine oz_istore_n X (L2 := [(3, .int 0), (2, .int 0), (0, .ref (ad 0)), (1, .int a1)]) dX0_countBorrowed_3 rfl (by decide) rfl ?_
  exact oz_sub X [2, 3, 1, 0] (L2 := [(0, .ref (ad 0)), (1, .int a1), (2, .int 0), (3, .int 0)]) rfl (hc4 300 _ (by omega) a1 0 0 st)

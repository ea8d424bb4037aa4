/-! AlmsKernelModel.thrown -/
def FX1_thrown (st : ST) : Option Res := some (0, st 0 18, st)
def rmX1_thrown : Room := { frames := 0, cells := 0, slots := 0, locals := 0 }
theorem hX1_thrown : yX1_thrown.cls = RX1 ∧ yX1_thrown.cls ≠ "java/lang/invoke/MethodHandle" ∧ yX1_thrown.cls ≠ "java/lang/invoke/VarHandle" ∧ (parseMethodDescriptor yX1_thrown.desc).map (fun d => d.parameters.length) = some 0 := by decide +kernel
theorem lkX1_thrown_57 : Cond.fieldLink RX1 57 RX1 (TX1 18).2.1 (TX1 18).2.2.1 ∈ wsX1_thrown := by decide +kernel
set_option maxHeartbeats 4000000 in
set_option maxRecDepth 100000 in
theorem mX1_thrown (l : Launch) (hst : l.stackTraces = false) (D : va_G) (cI cZ : ClassId) (ad : Nat → Nat) : oz_MI l yX1_thrown wsX1_thrown rmX1_thrown D cI cZ RX1 1 oz_KSX1 ad oz_lyX1 0 [.ref (ad 0)] (FX1_thrown) := by
  refine oz_ofI (bytes := cX1_thrown) (maxL := 1) (ret := (some .int)) (T := TX1) (N := 19) (by decide) rfl rfl oz_CX1 hst (Nat.le_of_ble_eq_true rfl) ?_
  intro p e s m below meth c st A res G hr X
  have hin : ∀ w ∈ u_ws RX1 TX1 19, w ∈ wsX1_thrown := fun w h => List.mem_cons_of_mem _ (List.mem_append_right _ h)
  have lk57 := lkX1_thrown_57
  show G 0 0 [(0, .ref (ad 0))] [] st (FX1_thrown st)
  unfold FX1_thrown
  refine oz_aload_n X dX1_thrown_0 rfl 0 rfl ?_
  refine oz_getS X hin (j := 18) rfl lk57 dX1_thrown_1 ?_
  exact oz_iret X rfl hr (by omega) dX1_thrown_4

/-! AlmsKernelModel.goes -/
def FX1_goes (a1 : Int32) (st : ST) : Option Res := stp (oz_se st 0 18 a1) (fun s1 => (if a1 = 0 then some (0, 1, s1) else some (0, 0, s1)))
def rmX1_goes : Room := { frames := 0, cells := 0, slots := 0, locals := 0 }
theorem hX1_goes : yX1_goes.cls = RX1 ∧ yX1_goes.cls ≠ "java/lang/invoke/MethodHandle" ∧ yX1_goes.cls ≠ "java/lang/invoke/VarHandle" ∧ (parseMethodDescriptor yX1_goes.desc).map (fun d => d.parameters.length) = some 1 := by decide +kernel
theorem lkX1_goes_57 : Cond.fieldLink RX1 57 RX1 (TX1 18).2.1 (TX1 18).2.2.1 ∈ wsX1_goes := by decide +kernel
set_option maxHeartbeats 4000000 in
set_option maxRecDepth 100000 in
theorem mX1_goes (l : Launch) (hst : l.stackTraces = false) (D : va_G) (cI cZ : ClassId) (ad : Nat → Nat) (a1 : Int32) : oz_MI l yX1_goes wsX1_goes rmX1_goes D cI cZ RX1 1 oz_KSX1 ad oz_lyX1 0 [.ref (ad 0), .int a1] (FX1_goes a1) := by
  refine oz_ofI (bytes := cX1_goes) (maxL := 2) (ret := (some .boolean)) (T := TX1) (N := 19) (by decide) rfl rfl oz_CX1 hst (Nat.le_of_ble_eq_true rfl) ?_
  intro p e s m below meth c st A res G hr X
  have hin : ∀ w ∈ u_ws RX1 TX1 19, w ∈ wsX1_goes := fun w h => List.mem_cons_of_mem _ (List.mem_append_right _ h)
  have lk57 := lkX1_goes_57
  show G 0 0 [(0, .ref (ad 0)), (1, .int a1)] [] st (FX1_goes a1 st)
  unfold FX1_goes
  refine oz_aload_n X dX1_goes_0 rfl 0 rfl ?_
  refine oz_iload_n X dX1_goes_1 rfl 1 rfl ?_
  refine oz_putS X hin (j := 18) rfl lk57 dX1_goes_2 (fun s1 e1 => ?_)
  refine oz_iload_n X dX1_goes_5 rfl 1 rfl ?_
  refine oz_if_ne X (tgt := 13) dX1_goes_6 (by decide) (fun q2 => ?_) (fun q2 => ?_)
  · refine oz_iconst X (v := 0) dX1_goes_13 (by decide) ?_
    exact oz_zret X rfl hr rfl (by omega) dX1_goes_14
  · refine oz_iconst X (v := 1) dX1_goes_9 (by decide) ?_
    refine oz_goto X (tgt := 14) dX1_goes_10 (by decide) ?_
    exact oz_zret X rfl hr rfl (by omega) dX1_goes_14

/-! AlmsKernelModel.isIn -/
def FX1_isIn (a1 a2 a3 : Int32) (st : ST) : Option Res := (if a1 < a2 then some (0, 0, st) else (if a3 < a1 then some (0, 0, st) else some (0, 1, st)))
def rmX1_isIn : Room := { frames := 0, cells := 0, slots := 0, locals := 0 }
theorem hX1_isIn : yX1_isIn.cls ≠ "java/lang/invoke/MethodHandle" ∧ yX1_isIn.cls ≠ "java/lang/invoke/VarHandle" ∧ (parseMethodDescriptor yX1_isIn.desc).map (fun d => d.parameters.length) = some 3 := by decide +kernel
set_option maxHeartbeats 4000000 in
set_option maxRecDepth 100000 in
theorem mX1_isIn (l : Launch) (hst : l.stackTraces = false) (D : va_G) (cI cZ : ClassId) (ad : Nat → Nat) (a1 a2 a3 : Int32) : oz_MI l yX1_isIn wsX1_isIn rmX1_isIn D cI cZ RX1 1 oz_KSX1 ad oz_lyX1 0 [.int a1, .int a2, .int a3] (FX1_isIn a1 a2 a3) := by
  refine oz_ofI (bytes := cX1_isIn) (maxL := 3) (ret := (some .boolean)) (T := TX1) (N := 19) (by decide) rfl rfl oz_CX1 hst (Nat.le_of_ble_eq_true rfl) ?_
  intro p e s m below meth c st A res G hr X
  show G 0 0 [(0, .int a1), (1, .int a2), (2, .int a3)] [] st (FX1_isIn a1 a2 a3 st)
  unfold FX1_isIn
  refine oz_iload_n X dX1_isIn_0 rfl 0 rfl ?_
  refine oz_iload_n X dX1_isIn_1 rfl 1 rfl ?_
  refine oz_icmp_lt X (tgt := 14) dX1_isIn_2 (by decide) (fun q1 => ?_) (fun q1 => ?_)
  · refine oz_iconst X (v := 0) dX1_isIn_14 (by decide) ?_
    exact oz_zret X rfl hr rfl (by omega) dX1_isIn_15
  · refine oz_iload_n X dX1_isIn_5 rfl 0 rfl ?_
    refine oz_iload_n X dX1_isIn_6 rfl 2 rfl ?_
    refine oz_icmp_gt X (tgt := 14) dX1_isIn_7 (by decide) (fun q2 => ?_) (fun q2 => ?_)
    · refine oz_iconst X (v := 0) dX1_isIn_14 (by decide) ?_
      exact oz_zret X rfl hr rfl (by omega) dX1_isIn_15
    · refine oz_iconst X (v := 1) dX1_isIn_10 (by decide) ?_
      refine oz_goto X (tgt := 15) dX1_isIn_11 (by decide) ?_
      exact oz_zret X rfl hr rfl (by omega) dX1_isIn_15

/-! AlmsKernelModel.isProcess -/
def FX1_isProcess (a1 : Int32) (st : ST) : Option Res := bnd (FX1_isIn a1 0 4 st) (fun r1 s1 => gd (oz_bit r1) (some (0, r1, s1)))
def rmX1_isProcess : Room := { frames := 1, cells := 0, slots := 0, locals := 22 }
theorem hX1_isProcess : yX1_isProcess.cls ≠ "java/lang/invoke/MethodHandle" ∧ yX1_isProcess.cls ≠ "java/lang/invoke/VarHandle" ∧ (parseMethodDescriptor yX1_isProcess.desc).map (fun d => d.parameters.length) = some 1 := by decide +kernel
set_option maxHeartbeats 4000000 in
set_option maxRecDepth 100000 in
theorem mX1_isProcess (l : Launch) (hst : l.stackTraces = false) (D : va_G) (cI cZ : ClassId) (ad : Nat → Nat) (a1 : Int32) : oz_MI l yX1_isProcess wsX1_isProcess rmX1_isProcess D cI cZ RX1 1 oz_KSX1 ad oz_lyX1 0 [.int a1] (FX1_isProcess a1) := by
  refine oz_ofI (bytes := cX1_isProcess) (maxL := 1) (ret := (some .boolean)) (T := TX1) (N := 19) (by decide) rfl rfl oz_CX1 hst (Nat.le_of_ble_eq_true rfl) ?_
  intro p e s m below meth c st A res G hr X
  show G 0 0 [(0, .int a1)] [] st (FX1_isProcess a1 st)
  unfold FX1_isProcess
  refine oz_iload_n X dX1_isProcess_0 rfl 0 rfl ?_
  refine oz_iconst X (v := 0) dX1_isProcess_1 (by decide) ?_
  refine oz_iconst X (v := 4) dX1_isProcess_2 (by decide) ?_
  refine oz_callS X rfl (As := [.int a1, .int 0, .int 4]) (S := []) (mX1_isIn l hst D cI cZ ad a1 0 4) gX1_isProcess_X1_isIn rfl rfl rfl hX1_isIn ⟨by decide, by decide⟩ rfl rfl (Nat.le_of_ble_eq_true rfl) dX1_isProcess_3 (by omega) (by decide) (by decide) (fun r1 s1 => ?_)
  exact oz_zretG X rfl hr (by omega) dX1_isProcess_6

/-! AlmsKernelModel.isFrame -/
def FX1_isFrame (a1 : Int32) (st : ST) : Option Res := bnd (FX1_isIn a1 0 11 st) (fun r1 s1 => gd (oz_bit r1) (some (0, r1, s1)))
def rmX1_isFrame : Room := { frames := 1, cells := 0, slots := 0, locals := 22 }
theorem hX1_isFrame : yX1_isFrame.cls ≠ "java/lang/invoke/MethodHandle" ∧ yX1_isFrame.cls ≠ "java/lang/invoke/VarHandle" ∧ (parseMethodDescriptor yX1_isFrame.desc).map (fun d => d.parameters.length) = some 1 := by decide +kernel
set_option maxHeartbeats 4000000 in
set_option maxRecDepth 100000 in
theorem mX1_isFrame (l : Launch) (hst : l.stackTraces = false) (D : va_G) (cI cZ : ClassId) (ad : Nat → Nat) (a1 : Int32) : oz_MI l yX1_isFrame wsX1_isFrame rmX1_isFrame D cI cZ RX1 1 oz_KSX1 ad oz_lyX1 0 [.int a1] (FX1_isFrame a1) := by
  refine oz_ofI (bytes := cX1_isFrame) (maxL := 1) (ret := (some .boolean)) (T := TX1) (N := 19) (by decide) rfl rfl oz_CX1 hst (Nat.le_of_ble_eq_true rfl) ?_
  intro p e s m below meth c st A res G hr X
  show G 0 0 [(0, .int a1)] [] st (FX1_isFrame a1 st)
  unfold FX1_isFrame
  refine oz_iload_n X dX1_isFrame_0 rfl 0 rfl ?_
  refine oz_iconst X (v := 0) dX1_isFrame_1 (by decide) ?_
  refine oz_bipush X (v := 11) dX1_isFrame_2 (by decide) ?_
  refine oz_callS X rfl (As := [.int a1, .int 0, .int 11]) (S := []) (mX1_isIn l hst D cI cZ ad a1 0 11) gX1_isFrame_X1_isIn rfl rfl rfl hX1_isIn ⟨by decide, by decide⟩ rfl rfl (Nat.le_of_ble_eq_true rfl) dX1_isFrame_4 (by omega) (by decide) (by decide) (fun r1 s1 => ?_)
  exact oz_zretG X rfl hr (by omega) dX1_isFrame_7

/-! AlmsKernelModel.isLoan -/
def FX1_isLoan (a1 : Int32) (st : ST) : Option Res := bnd (FX1_isIn a1 0 ((st 0 11) - 1) st) (fun r1 s1 => gd (oz_bit r1) (some (0, r1, s1)))
def rmX1_isLoan : Room := { frames := 1, cells := 0, slots := 0, locals := 22 }
theorem hX1_isLoan : yX1_isLoan.cls = RX1 ∧ yX1_isLoan.cls ≠ "java/lang/invoke/MethodHandle" ∧ yX1_isLoan.cls ≠ "java/lang/invoke/VarHandle" ∧ (parseMethodDescriptor yX1_isLoan.desc).map (fun d => d.parameters.length) = some 1 := by decide +kernel
theorem lkX1_isLoan_64 : Cond.fieldLink RX1 64 RX1 (TX1 11).2.1 (TX1 11).2.2.1 ∈ wsX1_isLoan := by decide +kernel
set_option maxHeartbeats 4000000 in
set_option maxRecDepth 100000 in
theorem mX1_isLoan (l : Launch) (hst : l.stackTraces = false) (D : va_G) (cI cZ : ClassId) (ad : Nat → Nat) (a1 : Int32) : oz_MI l yX1_isLoan wsX1_isLoan rmX1_isLoan D cI cZ RX1 1 oz_KSX1 ad oz_lyX1 0 [.ref (ad 0), .int a1] (FX1_isLoan a1) := by
  refine oz_ofI (bytes := cX1_isLoan) (maxL := 2) (ret := (some .boolean)) (T := TX1) (N := 19) (by decide) rfl rfl oz_CX1 hst (Nat.le_of_ble_eq_true rfl) ?_
  intro p e s m below meth c st A res G hr X
  have hin : ∀ w ∈ u_ws RX1 TX1 19, w ∈ wsX1_isLoan := fun w h => List.mem_cons_of_mem _ (List.mem_append_right _ h)
  have lk64 := lkX1_isLoan_64
  show G 0 0 [(0, .ref (ad 0)), (1, .int a1)] [] st (FX1_isLoan a1 st)
  unfold FX1_isLoan
  refine oz_iload_n X dX1_isLoan_0 rfl 1 rfl ?_
  refine oz_iconst X (v := 0) dX1_isLoan_1 (by decide) ?_
  refine oz_aload_n X dX1_isLoan_2 rfl 0 rfl ?_
  refine oz_getS X hin (j := 11) rfl lk64 dX1_isLoan_3 ?_
  refine oz_iconst X (v := 1) dX1_isLoan_6 (by decide) ?_
  refine oz_isub X dX1_isLoan_7 ?_
  refine oz_callS X rfl (As := [.int a1, .int 0, .int ((st 0 11) - 1)]) (S := []) (mX1_isIn l hst D cI cZ ad a1 0 ((st 0 11) - 1)) gX1_isLoan_X1_isIn rfl rfl rfl hX1_isIn ⟨by decide, by decide⟩ rfl rfl (Nat.le_of_ble_eq_true rfl) dX1_isLoan_8 (by omega) (by decide) (by decide) (fun r1 s1 => ?_)
  exact oz_zretG X rfl hr (by omega) dX1_isLoan_11

/-! AlmsKernelModel.holderOf -/
def FX1_holderOf (a1 : Int32) (st : ST) : Option Res := gd (oz_in a1 12) ((if st 7 a1.toNatClampNeg = (-1) then gd (oz_in a1 12) (some (0, st 3 a1.toNatClampNeg, st)) else gd (oz_in a1 12) (gd (oz_in (st 7 a1.toNatClampNeg) 60) (some (0, st 15 (st 7 a1.toNatClampNeg).toNatClampNeg, st)))))
def rmX1_holderOf : Room := { frames := 0, cells := 0, slots := 0, locals := 0 }
theorem hX1_holderOf : yX1_holderOf.cls = RX1 ∧ yX1_holderOf.cls ≠ "java/lang/invoke/MethodHandle" ∧ yX1_holderOf.cls ≠ "java/lang/invoke/VarHandle" ∧ (parseMethodDescriptor yX1_holderOf.desc).map (fun d => d.parameters.length) = some 1 := by decide +kernel
theorem lkX1_holderOf_13 : Cond.fieldLink RX1 13 RX1 (TX1 2).2.1 (TX1 2).2.2.1 ∈ wsX1_holderOf := by decide +kernel
theorem lkX1_holderOf_27 : Cond.fieldLink RX1 27 RX1 (TX1 6).2.1 (TX1 6).2.2.1 ∈ wsX1_holderOf := by decide +kernel
theorem lkX1_holderOf_48 : Cond.fieldLink RX1 48 RX1 (TX1 14).2.1 (TX1 14).2.2.1 ∈ wsX1_holderOf := by decide +kernel
set_option maxHeartbeats 4000000 in
set_option maxRecDepth 100000 in
theorem mX1_holderOf (l : Launch) (hst : l.stackTraces = false) (D : va_G) (cI cZ : ClassId) (ad : Nat → Nat) (a1 : Int32) : oz_MI l yX1_holderOf wsX1_holderOf rmX1_holderOf D cI cZ RX1 1 oz_KSX1 ad oz_lyX1 0 [.ref (ad 0), .int a1] (FX1_holderOf a1) := by
  refine oz_ofI (bytes := cX1_holderOf) (maxL := 2) (ret := (some .int)) (T := TX1) (N := 19) (by decide) rfl rfl oz_CX1 hst (Nat.le_of_ble_eq_true rfl) ?_
  intro p e s m below meth c st A res G hr X
  have hin : ∀ w ∈ u_ws RX1 TX1 19, w ∈ wsX1_holderOf := fun w h => List.mem_cons_of_mem _ (List.mem_append_right _ h)
  have lk13 := lkX1_holderOf_13
  have lk27 := lkX1_holderOf_27
  have lk48 := lkX1_holderOf_48
  show G 0 0 [(0, .ref (ad 0)), (1, .int a1)] [] st (FX1_holderOf a1 st)
  unfold FX1_holderOf
  refine oz_aload_n X dX1_holderOf_0 rfl 0 rfl ?_
  refine oz_getA X hin (j := 6) rfl lk27 dX1_holderOf_1 ?_
  refine oz_iload_n X dX1_holderOf_4 rfl 1 rfl ?_
  refine oz_iald X (j := 6) rfl (by decide) dX1_holderOf_5 (fun g1 => ?_)
  refine oz_iconst X (v := (-1)) dX1_holderOf_6 (by decide) ?_
  refine oz_icmp_ne X (tgt := 19) dX1_holderOf_7 (by decide) (fun q2 => ?_) (fun q2 => ?_)
  · refine oz_aload_n X dX1_holderOf_19 rfl 0 rfl ?_
    refine oz_getA X hin (j := 14) rfl lk48 dX1_holderOf_20 ?_
    refine oz_aload_n X dX1_holderOf_23 rfl 0 rfl ?_
    refine oz_getA X hin (j := 6) rfl lk27 dX1_holderOf_24 ?_
    refine oz_iload_n X dX1_holderOf_27 rfl 1 rfl ?_
    refine oz_iald X (j := 6) rfl (by decide) dX1_holderOf_28 (fun g3 => ?_)
    refine oz_iald X (j := 14) rfl (by decide) dX1_holderOf_29 (fun g4 => ?_)
    exact oz_iret X rfl hr (by omega) dX1_holderOf_30
  · refine oz_aload_n X dX1_holderOf_10 rfl 0 rfl ?_
    refine oz_getA X hin (j := 2) rfl lk13 dX1_holderOf_11 ?_
    refine oz_iload_n X dX1_holderOf_14 rfl 1 rfl ?_
    refine oz_iald X (j := 2) rfl (by decide) dX1_holderOf_15 (fun g5 => ?_)
    refine oz_goto X (tgt := 30) dX1_holderOf_16 (by decide) ?_
    exact oz_iret X rfl hr (by omega) dX1_holderOf_30

/-! AlmsKernelModel.isEmpty -/
def FX1_isEmpty (a1 : Int32) (st : ST) : Option Res := gd (oz_in a1 12) ((if st 4 a1.toNatClampNeg = (-1) then some (0, 1, st) else some (0, 0, st)))
def rmX1_isEmpty : Room := { frames := 0, cells := 0, slots := 0, locals := 0 }
theorem hX1_isEmpty : yX1_isEmpty.cls = RX1 ∧ yX1_isEmpty.cls ≠ "java/lang/invoke/MethodHandle" ∧ yX1_isEmpty.cls ≠ "java/lang/invoke/VarHandle" ∧ (parseMethodDescriptor yX1_isEmpty.desc).map (fun d => d.parameters.length) = some 1 := by decide +kernel
theorem lkX1_isEmpty_17 : Cond.fieldLink RX1 17 RX1 (TX1 3).2.1 (TX1 3).2.2.1 ∈ wsX1_isEmpty := by decide +kernel
set_option maxHeartbeats 4000000 in
set_option maxRecDepth 100000 in
theorem mX1_isEmpty (l : Launch) (hst : l.stackTraces = false) (D : va_G) (cI cZ : ClassId) (ad : Nat → Nat) (a1 : Int32) : oz_MI l yX1_isEmpty wsX1_isEmpty rmX1_isEmpty D cI cZ RX1 1 oz_KSX1 ad oz_lyX1 0 [.ref (ad 0), .int a1] (FX1_isEmpty a1) := by
  refine oz_ofI (bytes := cX1_isEmpty) (maxL := 2) (ret := (some .boolean)) (T := TX1) (N := 19) (by decide) rfl rfl oz_CX1 hst (Nat.le_of_ble_eq_true rfl) ?_
  intro p e s m below meth c st A res G hr X
  have hin : ∀ w ∈ u_ws RX1 TX1 19, w ∈ wsX1_isEmpty := fun w h => List.mem_cons_of_mem _ (List.mem_append_right _ h)
  have lk17 := lkX1_isEmpty_17
  show G 0 0 [(0, .ref (ad 0)), (1, .int a1)] [] st (FX1_isEmpty a1 st)
  unfold FX1_isEmpty
  refine oz_aload_n X dX1_isEmpty_0 rfl 0 rfl ?_
  refine oz_getA X hin (j := 3) rfl lk17 dX1_isEmpty_1 ?_
  refine oz_iload_n X dX1_isEmpty_4 rfl 1 rfl ?_
  refine oz_iald X (j := 3) rfl (by decide) dX1_isEmpty_5 (fun g1 => ?_)
  refine oz_iconst X (v := (-1)) dX1_isEmpty_6 (by decide) ?_
  refine oz_icmp_ne X (tgt := 14) dX1_isEmpty_7 (by decide) (fun q2 => ?_) (fun q2 => ?_)
  · refine oz_iconst X (v := 0) dX1_isEmpty_14 (by decide) ?_
    exact oz_zret X rfl hr rfl (by omega) dX1_isEmpty_15
  · refine oz_iconst X (v := 1) dX1_isEmpty_10 (by decide) ?_
    refine oz_goto X (tgt := 15) dX1_isEmpty_11 (by decide) ?_
    exact oz_zret X rfl hr rfl (by omega) dX1_isEmpty_15

/-! AlmsKernelModel.isComing -/
def FX1_isComing (a1 : Int32) (st : ST) : Option Res := gd (oz_in a1 12) ((if st 4 a1.toNatClampNeg = (-1) then some (0, 0, st) else gd (oz_in a1 12) ((if st 5 a1.toNatClampNeg = 0 then some (0, 1, st) else some (0, 0, st)))))
def rmX1_isComing : Room := { frames := 0, cells := 0, slots := 0, locals := 0 }
theorem hX1_isComing : yX1_isComing.cls = RX1 ∧ yX1_isComing.cls ≠ "java/lang/invoke/MethodHandle" ∧ yX1_isComing.cls ≠ "java/lang/invoke/VarHandle" ∧ (parseMethodDescriptor yX1_isComing.desc).map (fun d => d.parameters.length) = some 1 := by decide +kernel
theorem lkX1_isComing_17 : Cond.fieldLink RX1 17 RX1 (TX1 3).2.1 (TX1 3).2.2.1 ∈ wsX1_isComing := by decide +kernel
theorem lkX1_isComing_20 : Cond.fieldLink RX1 20 RX1 (TX1 4).2.1 (TX1 4).2.2.1 ∈ wsX1_isComing := by decide +kernel
set_option maxHeartbeats 4000000 in
set_option maxRecDepth 100000 in
theorem mX1_isComing (l : Launch) (hst : l.stackTraces = false) (D : va_G) (cI cZ : ClassId) (ad : Nat → Nat) (a1 : Int32) : oz_MI l yX1_isComing wsX1_isComing rmX1_isComing D cI cZ RX1 1 oz_KSX1 ad oz_lyX1 0 [.ref (ad 0), .int a1] (FX1_isComing a1) := by
  refine oz_ofI (bytes := cX1_isComing) (maxL := 2) (ret := (some .boolean)) (T := TX1) (N := 19) (by decide) rfl rfl oz_CX1 hst (Nat.le_of_ble_eq_true rfl) ?_
  intro p e s m below meth c st A res G hr X
  have hin : ∀ w ∈ u_ws RX1 TX1 19, w ∈ wsX1_isComing := fun w h => List.mem_cons_of_mem _ (List.mem_append_right _ h)
  have lk17 := lkX1_isComing_17
  have lk20 := lkX1_isComing_20
  show G 0 0 [(0, .ref (ad 0)), (1, .int a1)] [] st (FX1_isComing a1 st)
  unfold FX1_isComing
  refine oz_aload_n X dX1_isComing_0 rfl 0 rfl ?_
  refine oz_getA X hin (j := 3) rfl lk17 dX1_isComing_1 ?_
  refine oz_iload_n X dX1_isComing_4 rfl 1 rfl ?_
  refine oz_iald X (j := 3) rfl (by decide) dX1_isComing_5 (fun g1 => ?_)
  refine oz_iconst X (v := (-1)) dX1_isComing_6 (by decide) ?_
  refine oz_icmp_eq X (tgt := 23) dX1_isComing_7 (by decide) (fun q2 => ?_) (fun q2 => ?_)
  · refine oz_iconst X (v := 0) dX1_isComing_23 (by decide) ?_
    exact oz_zret X rfl hr rfl (by omega) dX1_isComing_24
  · refine oz_aload_n X dX1_isComing_10 rfl 0 rfl ?_
    refine oz_getA X hin (j := 4) rfl lk20 dX1_isComing_11 ?_
    refine oz_iload_n X dX1_isComing_14 rfl 1 rfl ?_
    refine oz_zald X (j := 4) rfl (by decide) dX1_isComing_15 (fun g3 => ?_)
    refine oz_if_ne X (tgt := 23) dX1_isComing_16 (by decide) (fun q4 => ?_) (fun q4 => ?_)
    · refine oz_iconst X (v := 0) dX1_isComing_23 (by decide) ?_
      exact oz_zret X rfl hr rfl (by omega) dX1_isComing_24
    · refine oz_iconst X (v := 1) dX1_isComing_19 (by decide) ?_
      refine oz_goto X (tgt := 24) dX1_isComing_20 (by decide) ?_
      exact oz_zret X rfl hr rfl (by omega) dX1_isComing_24

/-! AlmsKernelModel.hasPage -/
def FX1_hasPage (a1 : Int32) (st : ST) : Option Res := gd (oz_in a1 12) ((if st 4 a1.toNatClampNeg = (-1) then some (0, 0, st) else gd (oz_in a1 12) ((if st 5 a1.toNatClampNeg = 0 then some (0, 0, st) else some (0, 1, st)))))
def rmX1_hasPage : Room := { frames := 0, cells := 0, slots := 0, locals := 0 }
theorem hX1_hasPage : yX1_hasPage.cls = RX1 ∧ yX1_hasPage.cls ≠ "java/lang/invoke/MethodHandle" ∧ yX1_hasPage.cls ≠ "java/lang/invoke/VarHandle" ∧ (parseMethodDescriptor yX1_hasPage.desc).map (fun d => d.parameters.length) = some 1 := by decide +kernel
theorem lkX1_hasPage_17 : Cond.fieldLink RX1 17 RX1 (TX1 3).2.1 (TX1 3).2.2.1 ∈ wsX1_hasPage := by decide +kernel
theorem lkX1_hasPage_20 : Cond.fieldLink RX1 20 RX1 (TX1 4).2.1 (TX1 4).2.2.1 ∈ wsX1_hasPage := by decide +kernel
set_option maxHeartbeats 4000000 in
set_option maxRecDepth 100000 in
theorem mX1_hasPage (l : Launch) (hst : l.stackTraces = false) (D : va_G) (cI cZ : ClassId) (ad : Nat → Nat) (a1 : Int32) : oz_MI l yX1_hasPage wsX1_hasPage rmX1_hasPage D cI cZ RX1 1 oz_KSX1 ad oz_lyX1 0 [.ref (ad 0), .int a1] (FX1_hasPage a1) := by
  refine oz_ofI (bytes := cX1_hasPage) (maxL := 2) (ret := (some .boolean)) (T := TX1) (N := 19) (by decide) rfl rfl oz_CX1 hst (Nat.le_of_ble_eq_true rfl) ?_
  intro p e s m below meth c st A res G hr X
  have hin : ∀ w ∈ u_ws RX1 TX1 19, w ∈ wsX1_hasPage := fun w h => List.mem_cons_of_mem _ (List.mem_append_right _ h)
  have lk17 := lkX1_hasPage_17
  have lk20 := lkX1_hasPage_20
  show G 0 0 [(0, .ref (ad 0)), (1, .int a1)] [] st (FX1_hasPage a1 st)
  unfold FX1_hasPage
  refine oz_aload_n X dX1_hasPage_0 rfl 0 rfl ?_
  refine oz_getA X hin (j := 3) rfl lk17 dX1_hasPage_1 ?_
  refine oz_iload_n X dX1_hasPage_4 rfl 1 rfl ?_
  refine oz_iald X (j := 3) rfl (by decide) dX1_hasPage_5 (fun g1 => ?_)
  refine oz_iconst X (v := (-1)) dX1_hasPage_6 (by decide) ?_
  refine oz_icmp_eq X (tgt := 23) dX1_hasPage_7 (by decide) (fun q2 => ?_) (fun q2 => ?_)
  · refine oz_iconst X (v := 0) dX1_hasPage_23 (by decide) ?_
    exact oz_zret X rfl hr rfl (by omega) dX1_hasPage_24
  · refine oz_aload_n X dX1_hasPage_10 rfl 0 rfl ?_
    refine oz_getA X hin (j := 4) rfl lk20 dX1_hasPage_11 ?_
    refine oz_iload_n X dX1_hasPage_14 rfl 1 rfl ?_
    refine oz_zald X (j := 4) rfl (by decide) dX1_hasPage_15 (fun g3 => ?_)
    refine oz_if_eq X (tgt := 23) dX1_hasPage_16 (by decide) (fun q4 => ?_) (fun q4 => ?_)
    · refine oz_iconst X (v := 0) dX1_hasPage_23 (by decide) ?_
      exact oz_zret X rfl hr rfl (by omega) dX1_hasPage_24
    · refine oz_iconst X (v := 1) dX1_hasPage_19 (by decide) ?_
      refine oz_goto X (tgt := 24) dX1_hasPage_20 (by decide) ?_
      exact oz_zret X rfl hr rfl (by omega) dX1_hasPage_24

/-! AlmsKernelModel.ageOf -/
def FX1_ageOf (a1 : Int32) (st : ST) : Option Res := bnd (FX1_hasPage a1 st) (fun r1 s1 => (if r1 = 0 then some (0, (-1), s1) else gd (oz_in a1 12) (some (0, (s1 0 0) - (s1 6 a1.toNatClampNeg), s1))))
def rmX1_ageOf : Room := { frames := 1, cells := 0, slots := 0, locals := 21 }
theorem hX1_ageOf : yX1_ageOf.cls = RX1 ∧ yX1_ageOf.cls ≠ "java/lang/invoke/MethodHandle" ∧ yX1_ageOf.cls ≠ "java/lang/invoke/VarHandle" ∧ (parseMethodDescriptor yX1_ageOf.desc).map (fun d => d.parameters.length) = some 1 := by decide +kernel
theorem lkX1_ageOf_24 : Cond.fieldLink RX1 24 RX1 (TX1 5).2.1 (TX1 5).2.2.1 ∈ wsX1_ageOf := by decide +kernel
theorem lkX1_ageOf_71 : Cond.fieldLink RX1 71 RX1 (TX1 0).2.1 (TX1 0).2.2.1 ∈ wsX1_ageOf := by decide +kernel
set_option maxHeartbeats 4000000 in
set_option maxRecDepth 100000 in
theorem mX1_ageOf (l : Launch) (hst : l.stackTraces = false) (D : va_G) (cI cZ : ClassId) (ad : Nat → Nat) (a1 : Int32) : oz_MI l yX1_ageOf wsX1_ageOf rmX1_ageOf D cI cZ RX1 1 oz_KSX1 ad oz_lyX1 0 [.ref (ad 0), .int a1] (FX1_ageOf a1) := by
  refine oz_ofI (bytes := cX1_ageOf) (maxL := 2) (ret := (some .int)) (T := TX1) (N := 19) (by decide) rfl rfl oz_CX1 hst (Nat.le_of_ble_eq_true rfl) ?_
  intro p e s m below meth c st A res G hr X
  have hin : ∀ w ∈ u_ws RX1 TX1 19, w ∈ wsX1_ageOf := fun w h => List.mem_cons_of_mem _ (List.mem_append_right _ h)
  have lk24 := lkX1_ageOf_24
  have lk71 := lkX1_ageOf_71
  show G 0 0 [(0, .ref (ad 0)), (1, .int a1)] [] st (FX1_ageOf a1 st)
  unfold FX1_ageOf
  refine oz_aload_n X dX1_ageOf_0 rfl 0 rfl ?_
  refine oz_iload_n X dX1_ageOf_1 rfl 1 rfl ?_
  refine oz_callV X rfl (As := [.int a1]) (S := []) (mX1_hasPage l hst D cI cZ ad a1) gX1_ageOf_X1_hasPage rfl rfl rfl hX1_hasPage ⟨by decide, by decide⟩ rfl rfl (Nat.le_of_ble_eq_true rfl) dX1_ageOf_2 (by omega) (by decide) (by decide) (fun r1 s1 => ?_)
  refine oz_if_eq X (tgt := 22) dX1_ageOf_5 (by decide) (fun q2 => ?_) (fun q2 => ?_)
  · refine oz_iconst X (v := (-1)) dX1_ageOf_22 (by decide) ?_
    exact oz_iret X rfl hr (by omega) dX1_ageOf_23
  · refine oz_aload_n X dX1_ageOf_8 rfl 0 rfl ?_
    refine oz_getS X hin (j := 0) rfl lk71 dX1_ageOf_9 ?_
    refine oz_aload_n X dX1_ageOf_12 rfl 0 rfl ?_
    refine oz_getA X hin (j := 5) rfl lk24 dX1_ageOf_13 ?_
    refine oz_iload_n X dX1_ageOf_16 rfl 1 rfl ?_
    refine oz_iald X (j := 5) rfl (by decide) dX1_ageOf_17 (fun g3 => ?_)
    refine oz_isub X dX1_ageOf_18 ?_
    refine oz_goto X (tgt := 23) dX1_ageOf_19 (by decide) ?_
    exact oz_iret X rfl hr (by omega) dX1_ageOf_23

/-! AlmsKernelModel.doesLast -/
def FX1_doesLast (a1 : Int32) (st : ST) : Option Res := gd (oz_in a1 60) (gd (oz_in (st 13 a1.toNatClampNeg) 12) ((if st 7 (st 13 a1.toNatClampNeg).toNatClampNeg = a1 then some (0, 1, st) else some (0, 0, st))))
def rmX1_doesLast : Room := { frames := 0, cells := 0, slots := 0, locals := 0 }
theorem hX1_doesLast : yX1_doesLast.cls = RX1 ∧ yX1_doesLast.cls ≠ "java/lang/invoke/MethodHandle" ∧ yX1_doesLast.cls ≠ "java/lang/invoke/VarHandle" ∧ (parseMethodDescriptor yX1_doesLast.desc).map (fun d => d.parameters.length) = some 1 := by decide +kernel
theorem lkX1_doesLast_27 : Cond.fieldLink RX1 27 RX1 (TX1 6).2.1 (TX1 6).2.2.1 ∈ wsX1_doesLast := by decide +kernel
theorem lkX1_doesLast_42 : Cond.fieldLink RX1 42 RX1 (TX1 12).2.1 (TX1 12).2.2.1 ∈ wsX1_doesLast := by decide +kernel
set_option maxHeartbeats 4000000 in
set_option maxRecDepth 100000 in
theorem mX1_doesLast (l : Launch) (hst : l.stackTraces = false) (D : va_G) (cI cZ : ClassId) (ad : Nat → Nat) (a1 : Int32) : oz_MI l yX1_doesLast wsX1_doesLast rmX1_doesLast D cI cZ RX1 1 oz_KSX1 ad oz_lyX1 0 [.ref (ad 0), .int a1] (FX1_doesLast a1) := by
  refine oz_ofI (bytes := cX1_doesLast) (maxL := 2) (ret := (some .boolean)) (T := TX1) (N := 19) (by decide) rfl rfl oz_CX1 hst (Nat.le_of_ble_eq_true rfl) ?_
  intro p e s m below meth c st A res G hr X
  have hin : ∀ w ∈ u_ws RX1 TX1 19, w ∈ wsX1_doesLast := fun w h => List.mem_cons_of_mem _ (List.mem_append_right _ h)
  have lk27 := lkX1_doesLast_27
  have lk42 := lkX1_doesLast_42
  show G 0 0 [(0, .ref (ad 0)), (1, .int a1)] [] st (FX1_doesLast a1 st)
  unfold FX1_doesLast
  refine oz_aload_n X dX1_doesLast_0 rfl 0 rfl ?_
  refine oz_getA X hin (j := 6) rfl lk27 dX1_doesLast_1 ?_
  refine oz_aload_n X dX1_doesLast_4 rfl 0 rfl ?_
  refine oz_getA X hin (j := 12) rfl lk42 dX1_doesLast_5 ?_
  refine oz_iload_n X dX1_doesLast_8 rfl 1 rfl ?_
  refine oz_iald X (j := 12) rfl (by decide) dX1_doesLast_9 (fun g1 => ?_)
  refine oz_iald X (j := 6) rfl (by decide) dX1_doesLast_10 (fun g2 => ?_)
  refine oz_iload_n X dX1_doesLast_11 rfl 1 rfl ?_
  refine oz_icmp_ne X (tgt := 19) dX1_doesLast_12 (by decide) (fun q3 => ?_) (fun q3 => ?_)
  · refine oz_iconst X (v := 0) dX1_doesLast_19 (by decide) ?_
    exact oz_zret X rfl hr rfl (by omega) dX1_doesLast_20
  · refine oz_iconst X (v := 1) dX1_doesLast_15 (by decide) ?_
    refine oz_goto X (tgt := 20) dX1_doesLast_16 (by decide) ?_
    exact oz_zret X rfl hr rfl (by omega) dX1_doesLast_20

/-! AlmsKernelModel.setWage -/
def FX1_setWage_j27 (x1 x2 y0 : Int32) (st : ST) : Option Res := bnd (FX1_goes y0 st) (fun r2 s2 => (if r2 = 0 then some (0, 0, s2) else gd (oz_in x1 5) (gd (oz_in x1 5) (stp (oz_se s2 8 x1.toNatClampNeg x2) (fun s5 => some (0, s2 8 x1.toNatClampNeg, s5))))))
def FX1_setWage (a1 a2 : Int32) (st : ST) : Option Res := bnd (FX1_isProcess a1 st) (fun r6 s6 => (if r6 = 0 then (FX1_setWage_j27 a1 a2 1 s6) else bnd (FX1_isIn a2 0 9 s6) (fun r8 s8 => (if r8 = 0 then (FX1_setWage_j27 a1 a2 2 s8) else (FX1_setWage_j27 a1 a2 0 s8)))))
def rmX1_setWage : Room := { frames := 2, cells := 0, slots := 0, locals := 42 }
theorem hX1_setWage : yX1_setWage.cls = RX1 ∧ yX1_setWage.cls ≠ "java/lang/invoke/MethodHandle" ∧ yX1_setWage.cls ≠ "java/lang/invoke/VarHandle" ∧ (parseMethodDescriptor yX1_setWage.desc).map (fun d => d.parameters.length) = some 2 := by decide +kernel
theorem lkX1_setWage_30 : Cond.fieldLink RX1 30 RX1 (TX1 7).2.1 (TX1 7).2.2.1 ∈ wsX1_setWage := by decide +kernel
set_option maxHeartbeats 4000000 in
set_option maxRecDepth 100000 in
theorem mX1_setWage (l : Launch) (hst : l.stackTraces = false) (D : va_G) (cI cZ : ClassId) (ad : Nat → Nat) (a1 a2 : Int32) : oz_MI l yX1_setWage wsX1_setWage rmX1_setWage D cI cZ RX1 1 oz_KSX1 ad oz_lyX1 0 [.ref (ad 0), .int a1, .int a2] (FX1_setWage a1 a2) := by
  refine oz_ofI (bytes := cX1_setWage) (maxL := 4) (ret := (some .int)) (T := TX1) (N := 19) (by decide) rfl rfl oz_CX1 hst (Nat.le_of_ble_eq_true rfl) ?_
  intro p e s m below meth c st A res G hr X
  have hin : ∀ w ∈ u_ws RX1 TX1 19, w ∈ wsX1_setWage := fun w h => List.mem_cons_of_mem _ (List.mem_append_right _ h)
  have lk30 := lkX1_setWage_30
  have hc27 : ∀ (k : Nat), k ≤ 0 → ∀ (x1 x2 y0 : Int32) (st : ST), G k 27 [(0, .ref (ad 0)), (1, .int x1), (2, .int x2)] [.int y0, .ref (ad 0)] st (FX1_setWage_j27 x1 x2 y0 st) := by
    intro k hk x1 x2 y0 st
    unfold FX1_setWage_j27
    refine oz_callV X rfl (As := [.int y0]) (S := []) (mX1_goes l hst D cI cZ ad y0) gX1_setWage_X1_goes rfl rfl rfl hX1_goes ⟨by decide, by decide⟩ rfl rfl (Nat.le_of_ble_eq_true rfl) dX1_setWage_27 (by omega) (by decide) (by decide) (fun r2 s2 => ?_)
    refine oz_if_ne X (tgt := 35) dX1_setWage_30 (by decide) (fun q3 => ?_) (fun q3 => ?_)
    · refine oz_aload_n X dX1_setWage_35 rfl 0 rfl ?_
      refine oz_getA X hin (j := 7) rfl lk30 dX1_setWage_36 ?_
      refine oz_iload_n X dX1_setWage_39 rfl 1 rfl ?_
      refine oz_iald X (j := 7) rfl (by decide) dX1_setWage_40 (fun g4 => ?_)
      refine oz_istore_n X (L2 := [(3, .int (s2 8 x1.toNatClampNeg)), (0, .ref (ad 0)), (1, .int x1), (2, .int x2)]) dX1_setWage_41 rfl (by decide) rfl ?_
      refine oz_aload_n X dX1_setWage_42 rfl 1 rfl ?_
      refine oz_getA X hin (j := 7) rfl lk30 dX1_setWage_43 ?_
      refine oz_iload_n X dX1_setWage_46 rfl 2 rfl ?_
      refine oz_iload_n X dX1_setWage_47 rfl 3 rfl ?_
      refine oz_iast X (j := 7) rfl (by decide) dX1_setWage_48 (fun s5 e5 g5 => ?_)
      refine oz_iload_n X dX1_setWage_49 rfl 0 rfl ?_
      exact oz_iret X rfl hr (by omega) dX1_setWage_50
    · refine oz_iconst X (v := 0) dX1_setWage_33 (by decide) ?_
      exact oz_iret X rfl hr (by omega) dX1_setWage_34
  show G 0 0 [(0, .ref (ad 0)), (1, .int a1), (2, .int a2)] [] st (FX1_setWage a1 a2 st)
  unfold FX1_setWage
  refine oz_aload_n X dX1_setWage_0 rfl 0 rfl ?_
  refine oz_iload_n X dX1_setWage_1 rfl 1 rfl ?_
  refine oz_callS X rfl (As := [.int a1]) (S := [.ref (ad 0)]) (mX1_isProcess l hst D cI cZ ad a1) gX1_setWage_X1_isProcess rfl rfl rfl hX1_isProcess ⟨by decide, by decide⟩ rfl rfl (Nat.le_of_ble_eq_true rfl) dX1_setWage_2 (by omega) (by decide) (by decide) (fun r6 s6 => ?_)
  refine oz_if_ne X (tgt := 12) dX1_setWage_5 (by decide) (fun q7 => ?_) (fun q7 => ?_)
  · refine oz_iload_n X dX1_setWage_12 rfl 2 rfl ?_
    refine oz_iconst X (v := 0) dX1_setWage_13 (by decide) ?_
    refine oz_bipush X (v := 9) dX1_setWage_14 (by decide) ?_
    refine oz_callS X rfl (As := [.int a2, .int 0, .int 9]) (S := [.ref (ad 0)]) (mX1_isIn l hst D cI cZ ad a2 0 9) gX1_setWage_X1_isIn rfl rfl rfl hX1_isIn ⟨by decide, by decide⟩ rfl rfl (Nat.le_of_ble_eq_true rfl) dX1_setWage_16 (by omega) (by decide) (by decide) (fun r8 s8 => ?_)
    refine oz_if_eq X (tgt := 26) dX1_setWage_19 (by decide) (fun q9 => ?_) (fun q9 => ?_)
    · refine oz_iconst X (v := 2) dX1_setWage_26 (by decide) ?_
      exact oz_sub X [0, 1, 2] (L2 := [(0, .ref (ad 0)), (1, .int a1), (2, .int a2)]) rfl (hc27 _ (by omega) a1 a2 2 s8)
    · refine oz_iconst X (v := 0) dX1_setWage_22 (by decide) ?_
      refine oz_goto X (tgt := 27) dX1_setWage_23 (by decide) ?_
      exact oz_sub X [0, 1, 2] (L2 := [(0, .ref (ad 0)), (1, .int a1), (2, .int a2)]) rfl (hc27 _ (by omega) a1 a2 0 s8)
  · refine oz_iconst X (v := 1) dX1_setWage_8 (by decide) ?_
    refine oz_goto X (tgt := 27) dX1_setWage_9 (by decide) ?_
    exact oz_sub X [0, 1, 2] (L2 := [(0, .ref (ad 0)), (1, .int a1), (2, .int a2)]) rfl (hc27 _ (by omega) a1 a2 1 s6)

/-! AlmsKernelModel.setRate -/
def FX1_setRate_j16 (x1 y0 : Int32) (st : ST) : Option Res := bnd (FX1_goes y0 st) (fun r2 s2 => (if r2 = 0 then some (0, 0, s2) else stp (oz_se s2 0 1 x1) (fun s4 => some (0, s2 0 1, s4))))
def FX1_setRate (a1 : Int32) (st : ST) : Option Res := bnd (FX1_isIn a1 0 9 st) (fun r5 s5 => (if r5 = 0 then (FX1_setRate_j16 a1 1 s5) else (FX1_setRate_j16 a1 0 s5)))
def rmX1_setRate : Room := { frames := 1, cells := 0, slots := 0, locals := 22 }
theorem hX1_setRate : yX1_setRate.cls = RX1 ∧ yX1_setRate.cls ≠ "java/lang/invoke/MethodHandle" ∧ yX1_setRate.cls ≠ "java/lang/invoke/VarHandle" ∧ (parseMethodDescriptor yX1_setRate.desc).map (fun d => d.parameters.length) = some 1 := by decide +kernel
theorem lkX1_setRate_7 : Cond.fieldLink RX1 7 RX1 (TX1 1).2.1 (TX1 1).2.2.1 ∈ wsX1_setRate := by decide +kernel
set_option maxHeartbeats 4000000 in
set_option maxRecDepth 100000 in
theorem mX1_setRate (l : Launch) (hst : l.stackTraces = false) (D : va_G) (cI cZ : ClassId) (ad : Nat → Nat) (a1 : Int32) : oz_MI l yX1_setRate wsX1_setRate rmX1_setRate D cI cZ RX1 1 oz_KSX1 ad oz_lyX1 0 [.ref (ad 0), .int a1] (FX1_setRate a1) := by
  refine oz_ofI (bytes := cX1_setRate) (maxL := 3) (ret := (some .int)) (T := TX1) (N := 19) (by decide) rfl rfl oz_CX1 hst (Nat.le_of_ble_eq_true rfl) ?_
  intro p e s m below meth c st A res G hr X
  have hin : ∀ w ∈ u_ws RX1 TX1 19, w ∈ wsX1_setRate := fun w h => List.mem_cons_of_mem _ (List.mem_append_right _ h)
  have lk7 := lkX1_setRate_7
  have hc16 : ∀ (k : Nat), k ≤ 0 → ∀ (x1 y0 : Int32) (st : ST), G k 16 [(0, .ref (ad 0)), (1, .int x1)] [.int y0, .ref (ad 0)] st (FX1_setRate_j16 x1 y0 st) := by
    intro k hk x1 y0 st
    unfold FX1_setRate_j16
    refine oz_callV X rfl (As := [.int y0]) (S := []) (mX1_goes l hst D cI cZ ad y0) gX1_setRate_X1_goes rfl rfl rfl hX1_goes ⟨by decide, by decide⟩ rfl rfl (Nat.le_of_ble_eq_true rfl) dX1_setRate_16 (by omega) (by decide) (by decide) (fun r2 s2 => ?_)
    refine oz_if_ne X (tgt := 24) dX1_setRate_19 (by decide) (fun q3 => ?_) (fun q3 => ?_)
    · refine oz_aload_n X dX1_setRate_24 rfl 0 rfl ?_
      refine oz_getS X hin (j := 1) rfl lk7 dX1_setRate_25 ?_
      refine oz_istore_n X (L2 := [(2, .int (s2 0 1)), (0, .ref (ad 0)), (1, .int x1)]) dX1_setRate_28 rfl (by decide) rfl ?_
      refine oz_aload_n X dX1_setRate_29 rfl 1 rfl ?_
      refine oz_iload_n X dX1_setRate_30 rfl 2 rfl ?_
      refine oz_putS X hin (j := 1) rfl lk7 dX1_setRate_31 (fun s4 e4 => ?_)
      refine oz_iload_n X dX1_setRate_34 rfl 0 rfl ?_
      exact oz_iret X rfl hr (by omega) dX1_setRate_35
    · refine oz_iconst X (v := 0) dX1_setRate_22 (by decide) ?_
      exact oz_iret X rfl hr (by omega) dX1_setRate_23
  show G 0 0 [(0, .ref (ad 0)), (1, .int a1)] [] st (FX1_setRate a1 st)
  unfold FX1_setRate
  refine oz_aload_n X dX1_setRate_0 rfl 0 rfl ?_
  refine oz_iload_n X dX1_setRate_1 rfl 1 rfl ?_
  refine oz_iconst X (v := 0) dX1_setRate_2 (by decide) ?_
  refine oz_bipush X (v := 9) dX1_setRate_3 (by decide) ?_
  refine oz_callS X rfl (As := [.int a1, .int 0, .int 9]) (S := [.ref (ad 0)]) (mX1_isIn l hst D cI cZ ad a1 0 9) gX1_setRate_X1_isIn rfl rfl rfl hX1_isIn ⟨by decide, by decide⟩ rfl rfl (Nat.le_of_ble_eq_true rfl) dX1_setRate_5 (by omega) (by decide) (by decide) (fun r5 s5 => ?_)
  refine oz_if_eq X (tgt := 15) dX1_setRate_8 (by decide) (fun q6 => ?_) (fun q6 => ?_)
  · refine oz_iconst X (v := 1) dX1_setRate_15 (by decide) ?_
    exact oz_sub X [0, 1] (L2 := [(0, .ref (ad 0)), (1, .int a1)]) rfl (hc16 _ (by omega) a1 1 s5)
  · refine oz_iconst X (v := 0) dX1_setRate_11 (by decide) ?_
    refine oz_goto X (tgt := 16) dX1_setRate_12 (by decide) ?_
    exact oz_sub X [0, 1] (L2 := [(0, .ref (ad 0)), (1, .int a1)]) rfl (hc16 _ (by omega) a1 0 s5)

/-! AlmsKernelModel.lowestFree -/
def FX1_lowestFree_w5 : Nat → Int32 → Int32 → ST → Option Res
  | 0, _, _, _ => none
  | n + 1, x1, x2, st => (if x2 < 0 then some (0, x1, st) else gd (oz_in x2 12) ((if st 3 x2.toNatClampNeg = (-1) then (FX1_lowestFree_w5 n x2 (x2 + (-1)) st) else (FX1_lowestFree_w5 n x1 (x2 + (-1)) st))))
def FX1_lowestFree (st : ST) : Option Res := (FX1_lowestFree_w5 300 (-1) 11 st)
def rmX1_lowestFree : Room := { frames := 0, cells := 0, slots := 0, locals := 0 }
theorem hX1_lowestFree : yX1_lowestFree.cls = RX1 ∧ yX1_lowestFree.cls ≠ "java/lang/invoke/MethodHandle" ∧ yX1_lowestFree.cls ≠ "java/lang/invoke/VarHandle" ∧ (parseMethodDescriptor yX1_lowestFree.desc).map (fun d => d.parameters.length) = some 0 := by decide +kernel
theorem lkX1_lowestFree_13 : Cond.fieldLink RX1 13 RX1 (TX1 2).2.1 (TX1 2).2.2.1 ∈ wsX1_lowestFree := by decide +kernel
set_option maxHeartbeats 4000000 in
set_option maxRecDepth 100000 in
theorem mX1_lowestFree (l : Launch) (hst : l.stackTraces = false) (D : va_G) (cI cZ : ClassId) (ad : Nat → Nat) : oz_MI l yX1_lowestFree wsX1_lowestFree rmX1_lowestFree D cI cZ RX1 1 oz_KSX1 ad oz_lyX1 0 [.ref (ad 0)] (FX1_lowestFree) := by
  refine oz_ofI (bytes := cX1_lowestFree) (maxL := 3) (ret := (some .int)) (T := TX1) (N := 19) (by decide) rfl rfl oz_CX1 hst (Nat.le_of_ble_eq_true rfl) ?_
  intro p e s m below meth c st A res G hr X
  have hin : ∀ w ∈ u_ws RX1 TX1 19, w ∈ wsX1_lowestFree := fun w h => List.mem_cons_of_mem _ (List.mem_append_right _ h)
  have lk13 := lkX1_lowestFree_13
  have hc5 : ∀ (n k : Nat), k ≤ 0 → ∀ (x1 x2 : Int32) (st : ST), G k 5 [(0, .ref (ad 0)), (1, .int x1), (2, .int x2)] [] st (FX1_lowestFree_w5 n x1 x2 st) := by
    intro n
    induction n with
    | zero => intros; exact oz_none X
    | succ n ih =>
      intro k hk x1 x2 st
      rw [FX1_lowestFree_w5]
      refine oz_iload_n X dX1_lowestFree_5 rfl 2 rfl ?_
      refine oz_if_lt X (tgt := 31) dX1_lowestFree_6 (by decide) (fun q2 => ?_) (fun q2 => ?_)
      · refine oz_iload_n X dX1_lowestFree_31 rfl 1 rfl ?_
        exact oz_iret X rfl hr (by omega) dX1_lowestFree_32
      · refine oz_aload_n X dX1_lowestFree_9 rfl 0 rfl ?_
        refine oz_getA X hin (j := 2) rfl lk13 dX1_lowestFree_10 ?_
        refine oz_iload_n X dX1_lowestFree_13 rfl 2 rfl ?_
        refine oz_iald X (j := 2) rfl (by decide) dX1_lowestFree_14 (fun g3 => ?_)
        refine oz_iconst X (v := (-1)) dX1_lowestFree_15 (by decide) ?_
        refine oz_icmp_ne X (tgt := 23) dX1_lowestFree_16 (by decide) (fun q4 => ?_) (fun q4 => ?_)
        · refine oz_iload_n X dX1_lowestFree_23 rfl 1 rfl ?_
          refine oz_istore_n X (L2 := [(1, .int x1), (0, .ref (ad 0)), (2, .int x2)]) dX1_lowestFree_24 rfl (by decide) rfl ?_
          refine oz_iinc X (q := 2) (v := x2 + (-1)) (L2 := [(2, .int (x2 + (-1))), (1, .int x1), (0, .ref (ad 0))]) dX1_lowestFree_25 rfl rfl (by decide) rfl ?_
          refine oz_goto X (tgt := 5) dX1_lowestFree_28 (by decide) ?_
          exact oz_sub X [2, 1, 0] (L2 := [(0, .ref (ad 0)), (1, .int x1), (2, .int (x2 + (-1)))]) rfl (ih _ (by omega) x1 (x2 + (-1)) st)
        · refine oz_iload_n X dX1_lowestFree_19 rfl 2 rfl ?_
          refine oz_goto X (tgt := 24) dX1_lowestFree_20 (by decide) ?_
          refine oz_istore_n X (L2 := [(1, .int x2), (0, .ref (ad 0)), (2, .int x2)]) dX1_lowestFree_24 rfl (by decide) rfl ?_
          refine oz_iinc X (q := 2) (v := x2 + (-1)) (L2 := [(2, .int (x2 + (-1))), (1, .int x2), (0, .ref (ad 0))]) dX1_lowestFree_25 rfl rfl (by decide) rfl ?_
          refine oz_goto X (tgt := 5) dX1_lowestFree_28 (by decide) ?_
          exact oz_sub X [2, 1, 0] (L2 := [(0, .ref (ad 0)), (1, .int x2), (2, .int (x2 + (-1)))]) rfl (ih _ (by omega) x2 (x2 + (-1)) st)
  show G 0 0 [(0, .ref (ad 0))] [] st (FX1_lowestFree st)
  unfold FX1_lowestFree
  refine oz_iconst X (v := (-1)) dX1_lowestFree_0 (by decide) ?_
  refine oz_istore_n X (L2 := [(1, .int (-1)), (0, .ref (ad 0))]) dX1_lowestFree_1 rfl (by decide) rfl ?_
  refine oz_bipush X (v := 11) dX1_lowestFree_2 (by decide) ?_
  refine oz_istore_n X (L2 := [(2, .int 11), (1, .int (-1)), (0, .ref (ad 0))]) dX1_lowestFree_4 rfl (by decide) rfl ?_
  exact oz_sub X [2, 1, 0] (L2 := [(0, .ref (ad 0)), (1, .int (-1)), (2, .int 11)]) rfl (hc5 300 _ (by omega) (-1) 11 st)

/-! AlmsKernelModel.buy -/
def FX1_buy_j56 (x1 x2 y0 : Int32) (st : ST) : Option Res := bnd (FX1_goes y0 st) (fun r2 s2 => (if r2 = 0 then some (0, 0, s2) else gd (oz_in x1 5) (gd (oz_in x1 5) (stp (oz_se s2 9 x1.toNatClampNeg ((s2 9 x1.toNatClampNeg) - 8)) (fun s5 => gd (oz_in x2 12) (stp (oz_se s5 3 x2.toNatClampNeg x1) (fun s6 => some (0, x2, s6))))))))
def FX1_buy_j18 (x1 x2 y0 : Int32) (st : ST) : Option Res := bnd (FX1_goes y0 st) (fun r8 s8 => (if r8 = 0 then some (0, 0, s8) else gd (oz_in x1 5) ((if s8 10 x1.toNatClampNeg = 2 then (FX1_buy_j56 x1 x2 2 s8) else (if x2 = (-1) then (FX1_buy_j56 x1 x2 2 s8) else gd (oz_in x1 5) ((if 8 ≤ s8 9 x1.toNatClampNeg then (FX1_buy_j56 x1 x2 0 s8) else (FX1_buy_j56 x1 x2 2 s8))))))))
def FX1_buy (a1 : Int32) (st : ST) : Option Res := bnd (FX1_lowestFree st) (fun r15 s15 => bnd (FX1_isProcess a1 s15) (fun r16 s16 => (if r16 = 0 then (FX1_buy_j18 a1 r15 1 s16) else (FX1_buy_j18 a1 r15 0 s16))))
def rmX1_buy : Room := { frames := 2, cells := 0, slots := 0, locals := 42 }
theorem hX1_buy : yX1_buy.cls = RX1 ∧ yX1_buy.cls ≠ "java/lang/invoke/MethodHandle" ∧ yX1_buy.cls ≠ "java/lang/invoke/VarHandle" ∧ (parseMethodDescriptor yX1_buy.desc).map (fun d => d.parameters.length) = some 1 := by decide +kernel
theorem lkX1_buy_13 : Cond.fieldLink RX1 13 RX1 (TX1 2).2.1 (TX1 2).2.2.1 ∈ wsX1_buy := by decide +kernel
theorem lkX1_buy_33 : Cond.fieldLink RX1 33 RX1 (TX1 8).2.1 (TX1 8).2.2.1 ∈ wsX1_buy := by decide +kernel
theorem lkX1_buy_36 : Cond.fieldLink RX1 36 RX1 (TX1 9).2.1 (TX1 9).2.2.1 ∈ wsX1_buy := by decide +kernel
set_option maxHeartbeats 4000000 in
set_option maxRecDepth 100000 in
theorem mX1_buy (l : Launch) (hst : l.stackTraces = false) (D : va_G) (cI cZ : ClassId) (ad : Nat → Nat) (a1 : Int32) : oz_MI l yX1_buy wsX1_buy rmX1_buy D cI cZ RX1 1 oz_KSX1 ad oz_lyX1 0 [.ref (ad 0), .int a1] (FX1_buy a1) := by
  refine oz_ofI (bytes := cX1_buy) (maxL := 3) (ret := (some .int)) (T := TX1) (N := 19) (by decide) rfl rfl oz_CX1 hst (Nat.le_of_ble_eq_true rfl) ?_
  intro p e s m below meth c st A res G hr X
  have hin : ∀ w ∈ u_ws RX1 TX1 19, w ∈ wsX1_buy := fun w h => List.mem_cons_of_mem _ (List.mem_append_right _ h)
  have lk13 := lkX1_buy_13
  have lk33 := lkX1_buy_33
  have lk36 := lkX1_buy_36
  have hc56 : ∀ (k : Nat), k ≤ 0 → ∀ (x1 x2 y0 : Int32) (st : ST), G k 56 [(0, .ref (ad 0)), (1, .int x1), (2, .int x2)] [.int y0, .ref (ad 0)] st (FX1_buy_j56 x1 x2 y0 st) := by
    intro k hk x1 x2 y0 st
    unfold FX1_buy_j56
    refine oz_callV X rfl (As := [.int y0]) (S := []) (mX1_goes l hst D cI cZ ad y0) gX1_buy_X1_goes rfl rfl rfl hX1_goes ⟨by decide, by decide⟩ rfl rfl (Nat.le_of_ble_eq_true rfl) dX1_buy_56 (by omega) (by decide) (by decide) (fun r2 s2 => ?_)
    refine oz_if_ne X (tgt := 64) dX1_buy_59 (by decide) (fun q3 => ?_) (fun q3 => ?_)
    · refine oz_aload_n X dX1_buy_64 rfl 0 rfl ?_
      refine oz_getA X hin (j := 8) rfl lk33 dX1_buy_65 ?_
      refine oz_iload_n X dX1_buy_68 rfl 1 rfl ?_
      refine oz_dup2 X dX1_buy_69 rfl rfl ?_
      refine oz_iald X (j := 8) rfl (by decide) dX1_buy_70 (fun g4 => ?_)
      refine oz_bipush X (v := 8) dX1_buy_71 (by decide) ?_
      refine oz_isub X dX1_buy_73 ?_
      refine oz_iast X (j := 8) rfl (by decide) dX1_buy_74 (fun s5 e5 g5 => ?_)
      refine oz_aload_n X dX1_buy_75 rfl 0 rfl ?_
      refine oz_getA X hin (j := 2) rfl lk13 dX1_buy_76 ?_
      refine oz_iload_n X dX1_buy_79 rfl 2 rfl ?_
      refine oz_iload_n X dX1_buy_80 rfl 1 rfl ?_
      refine oz_iast X (j := 2) rfl (by decide) dX1_buy_81 (fun s6 e6 g6 => ?_)
      refine oz_iload_n X dX1_buy_82 rfl 2 rfl ?_
      exact oz_iret X rfl hr (by omega) dX1_buy_83
    · refine oz_iconst X (v := 0) dX1_buy_62 (by decide) ?_
      exact oz_iret X rfl hr (by omega) dX1_buy_63
  have hc18 : ∀ (k : Nat), k ≤ 0 → ∀ (x1 x2 y0 : Int32) (st : ST), G k 18 [(0, .ref (ad 0)), (1, .int x1), (2, .int x2)] [.int y0, .ref (ad 0)] st (FX1_buy_j18 x1 x2 y0 st) := by
    intro k hk x1 x2 y0 st
    unfold FX1_buy_j18
    refine oz_callV X rfl (As := [.int y0]) (S := []) (mX1_goes l hst D cI cZ ad y0) gX1_buy_X1_goes rfl rfl rfl hX1_goes ⟨by decide, by decide⟩ rfl rfl (Nat.le_of_ble_eq_true rfl) dX1_buy_18 (by omega) (by decide) (by decide) (fun r8 s8 => ?_)
    refine oz_if_eq X (tgt := 62) dX1_buy_21 (by decide) (fun q9 => ?_) (fun q9 => ?_)
    · refine oz_iconst X (v := 0) dX1_buy_62 (by decide) ?_
      exact oz_iret X rfl hr (by omega) dX1_buy_63
    · refine oz_aload_n X dX1_buy_24 rfl 0 rfl ?_
      refine oz_aload_n X dX1_buy_25 rfl 0 rfl ?_
      refine oz_getA X hin (j := 9) rfl lk36 dX1_buy_26 ?_
      refine oz_iload_n X dX1_buy_29 rfl 1 rfl ?_
      refine oz_iald X (j := 9) rfl (by decide) dX1_buy_30 (fun g10 => ?_)
      refine oz_iconst X (v := 2) dX1_buy_31 (by decide) ?_
      refine oz_icmp_eq X (tgt := 51) dX1_buy_32 (by decide) (fun q11 => ?_) (fun q11 => ?_)
      · refine oz_iconst X (v := 2) dX1_buy_51 (by decide) ?_
        refine oz_goto X (tgt := 56) dX1_buy_52 (by decide) ?_
        exact oz_sub X [0, 1, 2] (L2 := [(0, .ref (ad 0)), (1, .int x1), (2, .int x2)]) rfl (hc56 _ (by omega) x1 x2 2 s8)
      · refine oz_iload_n X dX1_buy_35 rfl 2 rfl ?_
        refine oz_iconst X (v := (-1)) dX1_buy_36 (by decide) ?_
        refine oz_icmp_eq X (tgt := 51) dX1_buy_37 (by decide) (fun q12 => ?_) (fun q12 => ?_)
        · refine oz_iconst X (v := 2) dX1_buy_51 (by decide) ?_
          refine oz_goto X (tgt := 56) dX1_buy_52 (by decide) ?_
          exact oz_sub X [0, 1, 2] (L2 := [(0, .ref (ad 0)), (1, .int x1), (2, .int x2)]) rfl (hc56 _ (by omega) x1 x2 2 s8)
        · refine oz_aload_n X dX1_buy_40 rfl 0 rfl ?_
          refine oz_getA X hin (j := 8) rfl lk33 dX1_buy_41 ?_
          refine oz_iload_n X dX1_buy_44 rfl 1 rfl ?_
          refine oz_iald X (j := 8) rfl (by decide) dX1_buy_45 (fun g13 => ?_)
          refine oz_bipush X (v := 8) dX1_buy_46 (by decide) ?_
          refine oz_icmp_ge X (tgt := 55) dX1_buy_48 (by decide) (fun q14 => ?_) (fun q14 => ?_)
          · refine oz_iconst X (v := 0) dX1_buy_55 (by decide) ?_
            exact oz_sub X [0, 1, 2] (L2 := [(0, .ref (ad 0)), (1, .int x1), (2, .int x2)]) rfl (hc56 _ (by omega) x1 x2 0 s8)
          · refine oz_iconst X (v := 2) dX1_buy_51 (by decide) ?_
            refine oz_goto X (tgt := 56) dX1_buy_52 (by decide) ?_
            exact oz_sub X [0, 1, 2] (L2 := [(0, .ref (ad 0)), (1, .int x1), (2, .int x2)]) rfl (hc56 _ (by omega) x1 x2 2 s8)
  show G 0 0 [(0, .ref (ad 0)), (1, .int a1)] [] st (FX1_buy a1 st)
  unfold FX1_buy
  refine oz_aload_n X dX1_buy_0 rfl 0 rfl ?_
  refine oz_callV X rfl (As := []) (S := []) (mX1_lowestFree l hst D cI cZ ad) gX1_buy_X1_lowestFree rfl rfl rfl hX1_lowestFree ⟨by decide, by decide⟩ rfl rfl (Nat.le_of_ble_eq_true rfl) dX1_buy_1 (by omega) (by decide) (by decide) (fun r15 s15 => ?_)
  refine oz_istore_n X (L2 := [(2, .int r15), (0, .ref (ad 0)), (1, .int a1)]) dX1_buy_4 rfl (by decide) rfl ?_
  refine oz_aload_n X dX1_buy_5 rfl 1 rfl ?_
  refine oz_iload_n X dX1_buy_6 rfl 2 rfl ?_
  refine oz_callS X rfl (As := [.int a1]) (S := [.ref (ad 0)]) (mX1_isProcess l hst D cI cZ ad a1) gX1_buy_X1_isProcess rfl rfl rfl hX1_isProcess ⟨by decide, by decide⟩ rfl rfl (Nat.le_of_ble_eq_true rfl) dX1_buy_7 (by omega) (by decide) (by decide) (fun r16 s16 => ?_)
  refine oz_if_eq X (tgt := 17) dX1_buy_10 (by decide) (fun q17 => ?_) (fun q17 => ?_)
  · refine oz_iconst X (v := 1) dX1_buy_17 (by decide) ?_
    exact oz_sub X [1, 2, 0] (L2 := [(0, .ref (ad 0)), (1, .int a1), (2, .int r15)]) rfl (hc18 _ (by omega) a1 r15 1 s16)
  · refine oz_iconst X (v := 0) dX1_buy_13 (by decide) ?_
    refine oz_goto X (tgt := 18) dX1_buy_14 (by decide) ?_
    exact oz_sub X [1, 2, 0] (L2 := [(0, .ref (ad 0)), (1, .int a1), (2, .int r15)]) rfl (hc18 _ (by omega) a1 r15 0 s16)

/-! AlmsKernelModel.sell -/
def FX1_sell_j67 (x1 x2 y0 : Int32) (st : ST) : Option Res := bnd (FX1_goes y0 st) (fun r2 s2 => (if r2 = 0 then some (0, 0, s2) else gd (oz_in x2 5) (gd (oz_in x2 5) (stp (oz_se s2 9 x2.toNatClampNeg ((s2 9 x2.toNatClampNeg) + 4)) (fun s5 => gd (oz_in x1 12) (stp (oz_se s5 3 x1.toNatClampNeg (-1)) (fun s6 => gd (oz_in x2 5) (some (0, s6 9 x2.toNatClampNeg, s6)))))))))
def FX1_sell_j13 (x1 y0 : Int32) (st : ST) : Option Res := bnd (FX1_goes y0 st) (fun r9 s9 => (if r9 = 0 then some (0, 0, s9) else gd (oz_in x1 12) ((if s9 3 x1.toNatClampNeg = (-1) then (FX1_sell_j67 x1 (s9 3 x1.toNatClampNeg) 2 s9) else gd (oz_in x1 12) ((if s9 7 x1.toNatClampNeg = (-1) then bnd (FX1_isEmpty x1 s9) (fun r15 s15 => (if r15 = 0 then (FX1_sell_j67 x1 (s9 3 x1.toNatClampNeg) 2 s15) else gd (oz_in (s9 3 x1.toNatClampNeg) 5) ((if s15 10 (s9 3 x1.toNatClampNeg).toNatClampNeg = 2 then (FX1_sell_j67 x1 (s9 3 x1.toNatClampNeg) 2 s15) else (FX1_sell_j67 x1 (s9 3 x1.toNatClampNeg) 0 s15))))) else (FX1_sell_j67 x1 (s9 3 x1.toNatClampNeg) 2 s9)))))))
def FX1_sell (a1 : Int32) (st : ST) : Option Res := bnd (FX1_isFrame a1 st) (fun r19 s19 => (if r19 = 0 then (FX1_sell_j13 a1 1 s19) else (FX1_sell_j13 a1 0 s19)))
def rmX1_sell : Room := { frames := 2, cells := 0, slots := 0, locals := 42 }
theorem hX1_sell : yX1_sell.cls = RX1 ∧ yX1_sell.cls ≠ "java/lang/invoke/MethodHandle" ∧ yX1_sell.cls ≠ "java/lang/invoke/VarHandle" ∧ (parseMethodDescriptor yX1_sell.desc).map (fun d => d.parameters.length) = some 1 := by decide +kernel
theorem lkX1_sell_13 : Cond.fieldLink RX1 13 RX1 (TX1 2).2.1 (TX1 2).2.2.1 ∈ wsX1_sell := by decide +kernel
theorem lkX1_sell_27 : Cond.fieldLink RX1 27 RX1 (TX1 6).2.1 (TX1 6).2.2.1 ∈ wsX1_sell := by decide +kernel
theorem lkX1_sell_33 : Cond.fieldLink RX1 33 RX1 (TX1 8).2.1 (TX1 8).2.2.1 ∈ wsX1_sell := by decide +kernel
theorem lkX1_sell_36 : Cond.fieldLink RX1 36 RX1 (TX1 9).2.1 (TX1 9).2.2.1 ∈ wsX1_sell := by decide +kernel
set_option maxHeartbeats 4000000 in
set_option maxRecDepth 100000 in
theorem mX1_sell (l : Launch) (hst : l.stackTraces = false) (D : va_G) (cI cZ : ClassId) (ad : Nat → Nat) (a1 : Int32) : oz_MI l yX1_sell wsX1_sell rmX1_sell D cI cZ RX1 1 oz_KSX1 ad oz_lyX1 0 [.ref (ad 0), .int a1] (FX1_sell a1) := by
  refine oz_ofI (bytes := cX1_sell) (maxL := 3) (ret := (some .int)) (T := TX1) (N := 19) (by decide) rfl rfl oz_CX1 hst (Nat.le_of_ble_eq_true rfl) ?_
  intro p e s m below meth c st A res G hr X
  have hin : ∀ w ∈ u_ws RX1 TX1 19, w ∈ wsX1_sell := fun w h => List.mem_cons_of_mem _ (List.mem_append_right _ h)
  have lk13 := lkX1_sell_13
  have lk27 := lkX1_sell_27
  have lk33 := lkX1_sell_33
  have lk36 := lkX1_sell_36
  have hc67 : ∀ (k : Nat), k ≤ 0 → ∀ (x1 x2 y0 : Int32) (st : ST), G k 67 [(0, .ref (ad 0)), (1, .int x1), (2, .int x2)] [.int y0, .ref (ad 0)] st (FX1_sell_j67 x1 x2 y0 st) := by
    intro k hk x1 x2 y0 st
    unfold FX1_sell_j67
    refine oz_callV X rfl (As := [.int y0]) (S := []) (mX1_goes l hst D cI cZ ad y0) gX1_sell_X1_goes rfl rfl rfl hX1_goes ⟨by decide, by decide⟩ rfl rfl (Nat.le_of_ble_eq_true rfl) dX1_sell_67 (by omega) (by decide) (by decide) (fun r2 s2 => ?_)
    refine oz_if_ne X (tgt := 75) dX1_sell_70 (by decide) (fun q3 => ?_) (fun q3 => ?_)
    · refine oz_aload_n X dX1_sell_75 rfl 0 rfl ?_
      refine oz_getA X hin (j := 8) rfl lk33 dX1_sell_76 ?_
      refine oz_iload_n X dX1_sell_79 rfl 2 rfl ?_
      refine oz_dup2 X dX1_sell_80 rfl rfl ?_
      refine oz_iald X (j := 8) rfl (by decide) dX1_sell_81 (fun g4 => ?_)
      refine oz_iconst X (v := 4) dX1_sell_82 (by decide) ?_
      refine oz_iadd X dX1_sell_83 ?_
      refine oz_iast X (j := 8) rfl (by decide) dX1_sell_84 (fun s5 e5 g5 => ?_)
      refine oz_aload_n X dX1_sell_85 rfl 0 rfl ?_
      refine oz_getA X hin (j := 2) rfl lk13 dX1_sell_86 ?_
      refine oz_iload_n X dX1_sell_89 rfl 1 rfl ?_
      refine oz_iconst X (v := (-1)) dX1_sell_90 (by decide) ?_
      refine oz_iast X (j := 2) rfl (by decide) dX1_sell_91 (fun s6 e6 g6 => ?_)
      refine oz_aload_n X dX1_sell_92 rfl 0 rfl ?_
      refine oz_getA X hin (j := 8) rfl lk33 dX1_sell_93 ?_
      refine oz_iload_n X dX1_sell_96 rfl 2 rfl ?_
      refine oz_iald X (j := 8) rfl (by decide) dX1_sell_97 (fun g7 => ?_)
      exact oz_iret X rfl hr (by omega) dX1_sell_98
    · refine oz_iconst X (v := 0) dX1_sell_73 (by decide) ?_
      exact oz_iret X rfl hr (by omega) dX1_sell_74
  have hc13 : ∀ (k : Nat), k ≤ 0 → ∀ (x1 y0 : Int32) (st : ST), G k 13 [(0, .ref (ad 0)), (1, .int x1)] [.int y0, .ref (ad 0)] st (FX1_sell_j13 x1 y0 st) := by
    intro k hk x1 y0 st
    unfold FX1_sell_j13
    refine oz_callV X rfl (As := [.int y0]) (S := []) (mX1_goes l hst D cI cZ ad y0) gX1_sell_X1_goes rfl rfl rfl hX1_goes ⟨by decide, by decide⟩ rfl rfl (Nat.le_of_ble_eq_true rfl) dX1_sell_13 (by omega) (by decide) (by decide) (fun r9 s9 => ?_)
    refine oz_if_ne X (tgt := 21) dX1_sell_16 (by decide) (fun q10 => ?_) (fun q10 => ?_)
    · refine oz_aload_n X dX1_sell_21 rfl 0 rfl ?_
      refine oz_getA X hin (j := 2) rfl lk13 dX1_sell_22 ?_
      refine oz_iload_n X dX1_sell_25 rfl 1 rfl ?_
      refine oz_iald X (j := 2) rfl (by decide) dX1_sell_26 (fun g11 => ?_)
      refine oz_istore_n X (L2 := [(2, .int (s9 3 x1.toNatClampNeg)), (0, .ref (ad 0)), (1, .int x1)]) dX1_sell_27 rfl (by decide) rfl ?_
      refine oz_aload_n X dX1_sell_28 rfl 1 rfl ?_
      refine oz_iload_n X dX1_sell_29 rfl 0 rfl ?_
      refine oz_iconst X (v := (-1)) dX1_sell_30 (by decide) ?_
      refine oz_icmp_eq X (tgt := 62) dX1_sell_31 (by decide) (fun q12 => ?_) (fun q12 => ?_)
      · refine oz_iconst X (v := 2) dX1_sell_62 (by decide) ?_
        refine oz_goto X (tgt := 67) dX1_sell_63 (by decide) ?_
        exact oz_sub X [1, 2, 0] (L2 := [(0, .ref (ad 0)), (1, .int x1), (2, .int (s9 3 x1.toNatClampNeg))]) rfl (hc67 _ (by omega) x1 (s9 3 x1.toNatClampNeg) 2 s9)
      · refine oz_aload_n X dX1_sell_34 rfl 1 rfl ?_
        refine oz_getA X hin (j := 6) rfl lk27 dX1_sell_35 ?_
        refine oz_iload_n X dX1_sell_38 rfl 2 rfl ?_
        refine oz_iald X (j := 6) rfl (by decide) dX1_sell_39 (fun g13 => ?_)
        refine oz_iconst X (v := (-1)) dX1_sell_40 (by decide) ?_
        refine oz_icmp_ne X (tgt := 62) dX1_sell_41 (by decide) (fun q14 => ?_) (fun q14 => ?_)
        · refine oz_iconst X (v := 2) dX1_sell_62 (by decide) ?_
          refine oz_goto X (tgt := 67) dX1_sell_63 (by decide) ?_
          exact oz_sub X [1, 2, 0] (L2 := [(0, .ref (ad 0)), (1, .int x1), (2, .int (s9 3 x1.toNatClampNeg))]) rfl (hc67 _ (by omega) x1 (s9 3 x1.toNatClampNeg) 2 s9)
        · refine oz_aload_n X dX1_sell_44 rfl 1 rfl ?_
          refine oz_iload_n X dX1_sell_45 rfl 2 rfl ?_
          refine oz_callV X rfl (As := [.int x1]) (S := [.ref (ad 0)]) (mX1_isEmpty l hst D cI cZ ad x1) gX1_sell_X1_isEmpty rfl rfl rfl hX1_isEmpty ⟨by decide, by decide⟩ rfl rfl (Nat.le_of_ble_eq_true rfl) dX1_sell_46 (by omega) (by decide) (by decide) (fun r15 s15 => ?_)
          refine oz_if_eq X (tgt := 62) dX1_sell_49 (by decide) (fun q16 => ?_) (fun q16 => ?_)
          · refine oz_iconst X (v := 2) dX1_sell_62 (by decide) ?_
            refine oz_goto X (tgt := 67) dX1_sell_63 (by decide) ?_
            exact oz_sub X [1, 2, 0] (L2 := [(0, .ref (ad 0)), (1, .int x1), (2, .int (s9 3 x1.toNatClampNeg))]) rfl (hc67 _ (by omega) x1 (s9 3 x1.toNatClampNeg) 2 s15)
          · refine oz_aload_n X dX1_sell_52 rfl 1 rfl ?_
            refine oz_getA X hin (j := 9) rfl lk36 dX1_sell_53 ?_
            refine oz_iload_n X dX1_sell_56 rfl 0 rfl ?_
            refine oz_iald X (j := 9) rfl (by decide) dX1_sell_57 (fun g17 => ?_)
            refine oz_iconst X (v := 2) dX1_sell_58 (by decide) ?_
            refine oz_icmp_ne X (tgt := 66) dX1_sell_59 (by decide) (fun q18 => ?_) (fun q18 => ?_)
            · refine oz_iconst X (v := 0) dX1_sell_66 (by decide) ?_
              exact oz_sub X [1, 2, 0] (L2 := [(0, .ref (ad 0)), (1, .int x1), (2, .int (s9 3 x1.toNatClampNeg))]) rfl (hc67 _ (by omega) x1 (s9 3 x1.toNatClampNeg) 0 s15)
            · refine oz_iconst X (v := 2) dX1_sell_62 (by decide) ?_
              refine oz_goto X (tgt := 67) dX1_sell_63 (by decide) ?_
              exact oz_sub X [1, 2, 0] (L2 := [(0, .ref (ad 0)), (1, .int x1), (2, .int (s9 3 x1.toNatClampNeg))]) rfl (hc67 _ (by omega) x1 (s9 3 x1.toNatClampNeg) 2 s15)
    · refine oz_iconst X (v := 0) dX1_sell_19 (by decide) ?_
      exact oz_iret X rfl hr (by omega) dX1_sell_20
  show G 0 0 [(0, .ref (ad 0)), (1, .int a1)] [] st (FX1_sell a1 st)
  unfold FX1_sell
  refine oz_aload_n X dX1_sell_0 rfl 0 rfl ?_
  refine oz_iload_n X dX1_sell_1 rfl 1 rfl ?_
  refine oz_callS X rfl (As := [.int a1]) (S := [.ref (ad 0)]) (mX1_isFrame l hst D cI cZ ad a1) gX1_sell_X1_isFrame rfl rfl rfl hX1_isFrame ⟨by decide, by decide⟩ rfl rfl (Nat.le_of_ble_eq_true rfl) dX1_sell_2 (by omega) (by decide) (by decide) (fun r19 s19 => ?_)
  refine oz_if_eq X (tgt := 12) dX1_sell_5 (by decide) (fun q20 => ?_) (fun q20 => ?_)
  · refine oz_iconst X (v := 1) dX1_sell_12 (by decide) ?_
    exact oz_sub X [0, 1] (L2 := [(0, .ref (ad 0)), (1, .int a1)]) rfl (hc13 _ (by omega) a1 1 s19)
  · refine oz_iconst X (v := 0) dX1_sell_8 (by decide) ?_
    refine oz_goto X (tgt := 13) dX1_sell_9 (by decide) ?_
    exact oz_sub X [0, 1] (L2 := [(0, .ref (ad 0)), (1, .int a1)]) rfl (hc13 _ (by omega) a1 0 s19)

/-! AlmsKernelModel.drop -/
def FX1_drop_j25 (x1 y0 : Int32) (st : ST) : Option Res := bnd (FX1_goes y0 st) (fun r2 s2 => (if r2 = 0 then some (0, 0, s2) else gd (oz_in x1 12) (gd (oz_in x1 12) (stp (oz_se s2 4 x1.toNatClampNeg (-1)) (fun s5 => some (0, s2 4 x1.toNatClampNeg, s5))))))
def FX1_drop (a1 : Int32) (st : ST) : Option Res := bnd (FX1_isFrame a1 st) (fun r6 s6 => (if r6 = 0 then (FX1_drop_j25 a1 1 s6) else bnd (FX1_hasPage a1 s6) (fun r8 s8 => (if r8 = 0 then (FX1_drop_j25 a1 2 s8) else (FX1_drop_j25 a1 0 s8)))))
def rmX1_drop : Room := { frames := 2, cells := 0, slots := 0, locals := 42 }
theorem hX1_drop : yX1_drop.cls = RX1 ∧ yX1_drop.cls ≠ "java/lang/invoke/MethodHandle" ∧ yX1_drop.cls ≠ "java/lang/invoke/VarHandle" ∧ (parseMethodDescriptor yX1_drop.desc).map (fun d => d.parameters.length) = some 1 := by decide +kernel
theorem lkX1_drop_17 : Cond.fieldLink RX1 17 RX1 (TX1 3).2.1 (TX1 3).2.2.1 ∈ wsX1_drop := by decide +kernel
set_option maxHeartbeats 4000000 in
set_option maxRecDepth 100000 in
theorem mX1_drop (l : Launch) (hst : l.stackTraces = false) (D : va_G) (cI cZ : ClassId) (ad : Nat → Nat) (a1 : Int32) : oz_MI l yX1_drop wsX1_drop rmX1_drop D cI cZ RX1 1 oz_KSX1 ad oz_lyX1 0 [.ref (ad 0), .int a1] (FX1_drop a1) := by
  refine oz_ofI (bytes := cX1_drop) (maxL := 3) (ret := (some .int)) (T := TX1) (N := 19) (by decide) rfl rfl oz_CX1 hst (Nat.le_of_ble_eq_true rfl) ?_
  intro p e s m below meth c st A res G hr X
  have hin : ∀ w ∈ u_ws RX1 TX1 19, w ∈ wsX1_drop := fun w h => List.mem_cons_of_mem _ (List.mem_append_right _ h)
  have lk17 := lkX1_drop_17
  have hc25 : ∀ (k : Nat), k ≤ 0 → ∀ (x1 y0 : Int32) (st : ST), G k 25 [(0, .ref (ad 0)), (1, .int x1)] [.int y0, .ref (ad 0)] st (FX1_drop_j25 x1 y0 st) := by
    intro k hk x1 y0 st
    unfold FX1_drop_j25
    refine oz_callV X rfl (As := [.int y0]) (S := []) (mX1_goes l hst D cI cZ ad y0) gX1_drop_X1_goes rfl rfl rfl hX1_goes ⟨by decide, by decide⟩ rfl rfl (Nat.le_of_ble_eq_true rfl) dX1_drop_25 (by omega) (by decide) (by decide) (fun r2 s2 => ?_)
    refine oz_if_ne X (tgt := 33) dX1_drop_28 (by decide) (fun q3 => ?_) (fun q3 => ?_)
    · refine oz_aload_n X dX1_drop_33 rfl 0 rfl ?_
      refine oz_getA X hin (j := 3) rfl lk17 dX1_drop_34 ?_
      refine oz_iload_n X dX1_drop_37 rfl 1 rfl ?_
      refine oz_iald X (j := 3) rfl (by decide) dX1_drop_38 (fun g4 => ?_)
      refine oz_istore_n X (L2 := [(2, .int (s2 4 x1.toNatClampNeg)), (0, .ref (ad 0)), (1, .int x1)]) dX1_drop_39 rfl (by decide) rfl ?_
      refine oz_aload_n X dX1_drop_40 rfl 1 rfl ?_
      refine oz_getA X hin (j := 3) rfl lk17 dX1_drop_41 ?_
      refine oz_iload_n X dX1_drop_44 rfl 2 rfl ?_
      refine oz_iconst X (v := (-1)) dX1_drop_45 (by decide) ?_
      refine oz_iast X (j := 3) rfl (by decide) dX1_drop_46 (fun s5 e5 g5 => ?_)
      refine oz_iload_n X dX1_drop_47 rfl 0 rfl ?_
      exact oz_iret X rfl hr (by omega) dX1_drop_48
    · refine oz_iconst X (v := 0) dX1_drop_31 (by decide) ?_
      exact oz_iret X rfl hr (by omega) dX1_drop_32
  show G 0 0 [(0, .ref (ad 0)), (1, .int a1)] [] st (FX1_drop a1 st)
  unfold FX1_drop
  refine oz_aload_n X dX1_drop_0 rfl 0 rfl ?_
  refine oz_iload_n X dX1_drop_1 rfl 1 rfl ?_
  refine oz_callS X rfl (As := [.int a1]) (S := [.ref (ad 0)]) (mX1_isFrame l hst D cI cZ ad a1) gX1_drop_X1_isFrame rfl rfl rfl hX1_isFrame ⟨by decide, by decide⟩ rfl rfl (Nat.le_of_ble_eq_true rfl) dX1_drop_2 (by omega) (by decide) (by decide) (fun r6 s6 => ?_)
  refine oz_if_ne X (tgt := 12) dX1_drop_5 (by decide) (fun q7 => ?_) (fun q7 => ?_)
  · refine oz_aload_n X dX1_drop_12 rfl 0 rfl ?_
    refine oz_iload_n X dX1_drop_13 rfl 1 rfl ?_
    refine oz_callV X rfl (As := [.int a1]) (S := [.ref (ad 0)]) (mX1_hasPage l hst D cI cZ ad a1) gX1_drop_X1_hasPage rfl rfl rfl hX1_hasPage ⟨by decide, by decide⟩ rfl rfl (Nat.le_of_ble_eq_true rfl) dX1_drop_14 (by omega) (by decide) (by decide) (fun r8 s8 => ?_)
    refine oz_if_eq X (tgt := 24) dX1_drop_17 (by decide) (fun q9 => ?_) (fun q9 => ?_)
    · refine oz_iconst X (v := 2) dX1_drop_24 (by decide) ?_
      exact oz_sub X [0, 1] (L2 := [(0, .ref (ad 0)), (1, .int a1)]) rfl (hc25 _ (by omega) a1 2 s8)
    · refine oz_iconst X (v := 0) dX1_drop_20 (by decide) ?_
      refine oz_goto X (tgt := 25) dX1_drop_21 (by decide) ?_
      exact oz_sub X [0, 1] (L2 := [(0, .ref (ad 0)), (1, .int a1)]) rfl (hc25 _ (by omega) a1 0 s8)
  · refine oz_iconst X (v := 1) dX1_drop_8 (by decide) ?_
    refine oz_goto X (tgt := 25) dX1_drop_9 (by decide) ?_
    exact oz_sub X [0, 1] (L2 := [(0, .ref (ad 0)), (1, .int a1)]) rfl (hc25 _ (by omega) a1 1 s6)

/-! AlmsKernelModel.frameWith -/
def FX1_frameWith_w5 : Nat → Int32 → Int32 → Int32 → Int32 → ST → Option Res
  | 0, _, _, _, _, _ => none
  | n + 1, x1, x2, x3, x4, st => (if 12 ≤ x4 then some (0, x3, st) else gd (oz_in x4 12) ((if st 4 x4.toNatClampNeg = x2 then bnd (FX1_holderOf x4 st) (fun r5 s5 => (if r5 = x1 then (FX1_frameWith_w5 n x1 x2 x4 (x4 + 1) s5) else (FX1_frameWith_w5 n x1 x2 x3 (x4 + 1) s5))) else (FX1_frameWith_w5 n x1 x2 x3 (x4 + 1) st))))
def FX1_frameWith (a1 a2 : Int32) (st : ST) : Option Res := (FX1_frameWith_w5 300 a1 a2 (-1) 0 st)
def rmX1_frameWith : Room := { frames := 1, cells := 0, slots := 0, locals := 21 }
theorem hX1_frameWith : yX1_frameWith.cls = RX1 ∧ yX1_frameWith.cls ≠ "java/lang/invoke/MethodHandle" ∧ yX1_frameWith.cls ≠ "java/lang/invoke/VarHandle" ∧ (parseMethodDescriptor yX1_frameWith.desc).map (fun d => d.parameters.length) = some 2 := by decide +kernel
theorem lkX1_frameWith_17 : Cond.fieldLink RX1 17 RX1 (TX1 3).2.1 (TX1 3).2.2.1 ∈ wsX1_frameWith := by decide +kernel
set_option maxHeartbeats 4000000 in
set_option maxRecDepth 100000 in
theorem mX1_frameWith (l : Launch) (hst : l.stackTraces = false) (D : va_G) (cI cZ : ClassId) (ad : Nat → Nat) (a1 a2 : Int32) : oz_MI l yX1_frameWith wsX1_frameWith rmX1_frameWith D cI cZ RX1 1 oz_KSX1 ad oz_lyX1 0 [.ref (ad 0), .int a1, .int a2] (FX1_frameWith a1 a2) := by
  refine oz_ofI (bytes := cX1_frameWith) (maxL := 5) (ret := (some .int)) (T := TX1) (N := 19) (by decide) rfl rfl oz_CX1 hst (Nat.le_of_ble_eq_true rfl) ?_
  intro p e s m below meth c st A res G hr X
  have hin : ∀ w ∈ u_ws RX1 TX1 19, w ∈ wsX1_frameWith := fun w h => List.mem_cons_of_mem _ (List.mem_append_right _ h)
  have lk17 := lkX1_frameWith_17
  have hc5 : ∀ (n k : Nat), k ≤ 0 → ∀ (x1 x2 x3 x4 : Int32) (st : ST), G k 5 [(0, .ref (ad 0)), (1, .int x1), (2, .int x2), (3, .int x3), (4, .int x4)] [] st (FX1_frameWith_w5 n x1 x2 x3 x4 st) := by
    intro n
    induction n with
    | zero => intros; exact oz_none X
    | succ n ih =>
      intro k hk x1 x2 x3 x4 st
      rw [FX1_frameWith_w5]
      refine oz_iload X dX1_frameWith_5 4 rfl ?_
      refine oz_bipush X (v := 12) dX1_frameWith_7 (by decide) ?_
      refine oz_icmp_ge X (tgt := 46) dX1_frameWith_9 (by decide) (fun q2 => ?_) (fun q2 => ?_)
      · refine oz_iload_n X dX1_frameWith_46 rfl 3 rfl ?_
        exact oz_iret X rfl hr (by omega) dX1_frameWith_47
      · refine oz_aload_n X dX1_frameWith_12 rfl 0 rfl ?_
        refine oz_getA X hin (j := 3) rfl lk17 dX1_frameWith_13 ?_
        refine oz_iload X dX1_frameWith_16 4 rfl ?_
        refine oz_iald X (j := 3) rfl (by decide) dX1_frameWith_18 (fun g3 => ?_)
        refine oz_iload_n X dX1_frameWith_19 rfl 2 rfl ?_
        refine oz_icmp_ne X (tgt := 38) dX1_frameWith_20 (by decide) (fun q4 => ?_) (fun q4 => ?_)
        · refine oz_iload_n X dX1_frameWith_38 rfl 3 rfl ?_
          refine oz_istore_n X (L2 := [(3, .int x3), (0, .ref (ad 0)), (1, .int x1), (2, .int x2), (4, .int x4)]) dX1_frameWith_39 rfl (by decide) rfl ?_
          refine oz_iinc X (q := 4) (v := x4 + 1) (L2 := [(4, .int (x4 + 1)), (3, .int x3), (0, .ref (ad 0)), (1, .int x1), (2, .int x2)]) dX1_frameWith_40 rfl rfl (by decide) rfl ?_
          refine oz_goto X (tgt := 5) dX1_frameWith_43 (by decide) ?_
          exact oz_sub X [2, 3, 4, 1, 0] (L2 := [(0, .ref (ad 0)), (1, .int x1), (2, .int x2), (3, .int x3), (4, .int (x4 + 1))]) rfl (ih _ (by omega) x1 x2 x3 (x4 + 1) st)
        · refine oz_aload_n X dX1_frameWith_23 rfl 0 rfl ?_
          refine oz_iload X dX1_frameWith_24 4 rfl ?_
          refine oz_callV X rfl (As := [.int x4]) (S := []) (mX1_holderOf l hst D cI cZ ad x4) gX1_frameWith_X1_holderOf rfl rfl rfl hX1_holderOf ⟨by decide, by decide⟩ rfl rfl (Nat.le_of_ble_eq_true rfl) dX1_frameWith_26 (by omega) (by decide) (by decide) (fun r5 s5 => ?_)
          refine oz_iload_n X dX1_frameWith_29 rfl 1 rfl ?_
          refine oz_icmp_ne X (tgt := 38) dX1_frameWith_30 (by decide) (fun q6 => ?_) (fun q6 => ?_)
          · refine oz_iload_n X dX1_frameWith_38 rfl 3 rfl ?_
            refine oz_istore_n X (L2 := [(3, .int x3), (0, .ref (ad 0)), (1, .int x1), (2, .int x2), (4, .int x4)]) dX1_frameWith_39 rfl (by decide) rfl ?_
            refine oz_iinc X (q := 4) (v := x4 + 1) (L2 := [(4, .int (x4 + 1)), (3, .int x3), (0, .ref (ad 0)), (1, .int x1), (2, .int x2)]) dX1_frameWith_40 rfl rfl (by decide) rfl ?_
            refine oz_goto X (tgt := 5) dX1_frameWith_43 (by decide) ?_
            exact oz_sub X [2, 3, 4, 1, 0] (L2 := [(0, .ref (ad 0)), (1, .int x1), (2, .int x2), (3, .int x3), (4, .int (x4 + 1))]) rfl (ih _ (by omega) x1 x2 x3 (x4 + 1) s5)
          · refine oz_iload X dX1_frameWith_33 4 rfl ?_
            refine oz_goto X (tgt := 39) dX1_frameWith_35 (by decide) ?_
            refine oz_istore_n X (L2 := [(3, .int x4), (0, .ref (ad 0)), (1, .int x1), (2, .int x2), (4, .int x4)]) dX1_frameWith_39 rfl (by decide) rfl ?_
            refine oz_iinc X (q := 4) (v := x4 + 1) (L2 := [(4, .int (x4 + 1)), (3, .int x4), (0, .ref (ad 0)), (1, .int x1), (2, .int x2)]) dX1_frameWith_40 rfl rfl (by decide) rfl ?_
            refine oz_goto X (tgt := 5) dX1_frameWith_43 (by decide) ?_
            exact oz_sub X [2, 3, 4, 1, 0] (L2 := [(0, .ref (ad 0)), (1, .int x1), (2, .int x2), (3, .int x4), (4, .int (x4 + 1))]) rfl (ih _ (by omega) x1 x2 x4 (x4 + 1) s5)
  show G 0 0 [(0, .ref (ad 0)), (1, .int a1), (2, .int a2)] [] st (FX1_frameWith a1 a2 st)
  unfold FX1_frameWith
  refine oz_iconst X (v := (-1)) dX1_frameWith_0 (by decide) ?_
  refine oz_istore_n X (L2 := [(3, .int (-1)), (0, .ref (ad 0)), (1, .int a1), (2, .int a2)]) dX1_frameWith_1 rfl (by decide) rfl ?_
  refine oz_iconst X (v := 0) dX1_frameWith_2 (by decide) ?_
  refine oz_istore X (L2 := [(4, .int 0), (3, .int (-1)), (0, .ref (ad 0)), (1, .int a1), (2, .int a2)]) dX1_frameWith_3 (by decide) rfl ?_
  exact oz_sub X [2, 3, 4, 1, 0] (L2 := [(0, .ref (ad 0)), (1, .int a1), (2, .int a2), (3, .int (-1)), (4, .int 0)]) rfl (hc5 300 _ (by omega) a1 a2 (-1) 0 st)

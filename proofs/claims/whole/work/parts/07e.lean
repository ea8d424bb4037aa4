/-! AlmsKernelModel.purse -/
def FX1_purse_j13 (x1 y0 : Int32) (st : ST) : Option Res := bnd (FX1_goes y0 st) (fun r2 s2 => (if r2 = 0 then some (0, 0, s2) else gd (oz_in x1 5) (some (0, s2 9 x1.toNatClampNeg, s2))))
def FX1_purse (a1 : Int32) (st : ST) : Option Res := bnd (FX1_isProcess a1 st) (fun r5 s5 => (if r5 = 0 then (FX1_purse_j13 a1 1 s5) else (FX1_purse_j13 a1 0 s5)))
def rmX1_purse : Room := { frames := 2, cells := 0, slots := 0, locals := 42 }
theorem hX1_purse : yX1_purse.cls = RX1 ∧ yX1_purse.cls ≠ "java/lang/invoke/MethodHandle" ∧ yX1_purse.cls ≠ "java/lang/invoke/VarHandle" ∧ (parseMethodDescriptor yX1_purse.desc).map (fun d => d.parameters.length) = some 1 := by decide +kernel
theorem lkX1_purse_33 : Cond.fieldLink RX1 33 RX1 (TX1 8).2.1 (TX1 8).2.2.1 ∈ wsX1_purse := by decide +kernel
set_option maxHeartbeats 4000000 in
set_option maxRecDepth 100000 in
theorem mX1_purse (l : Launch) (hst : l.stackTraces = false) (D : va_G) (cI cZ : ClassId) (ad : Nat → Nat) (a1 : Int32) : oz_MI l yX1_purse wsX1_purse rmX1_purse D cI cZ RX1 1 oz_KSX1 ad oz_lyX1 0 [.ref (ad 0), .int a1] (FX1_purse a1) := by
  refine oz_ofI (bytes := cX1_purse) (maxL := 2) (ret := (some .int)) (T := TX1) (N := 19) (by decide) rfl rfl oz_CX1 hst (Nat.le_of_ble_eq_true rfl) ?_
  intro p e s m below meth c st A res G hr X
  have hin : ∀ w ∈ u_ws RX1 TX1 19, w ∈ wsX1_purse := fun w h => List.mem_cons_of_mem _ (List.mem_append_right _ h)
  have lk33 := lkX1_purse_33
  have hc13 : ∀ (k : Nat), k ≤ 0 → ∀ (x1 y0 : Int32) (st : ST), G k 13 [(0, .ref (ad 0)), (1, .int x1)] [.int y0, .ref (ad 0)] st (FX1_purse_j13 x1 y0 st) := by
    intro k hk x1 y0 st
    unfold FX1_purse_j13
    refine oz_callV X rfl (As := [.int y0]) (S := []) (mX1_goes l hst D cI cZ ad y0) gX1_purse_X1_goes rfl rfl rfl hX1_goes ⟨by decide, by decide⟩ rfl rfl (Nat.le_of_ble_eq_true rfl) dX1_purse_13 (by omega) (by decide) (by decide) (fun r2 s2 => ?_)
    refine oz_if_eq X (tgt := 28) dX1_purse_16 (by decide) (fun q3 => ?_) (fun q3 => ?_)
    · refine oz_iconst X (v := 0) dX1_purse_28 (by decide) ?_
      exact oz_iret X rfl hr (by omega) dX1_purse_29
    · refine oz_aload_n X dX1_purse_19 rfl 0 rfl ?_
      refine oz_getA X hin (j := 8) rfl lk33 dX1_purse_20 ?_
      refine oz_iload_n X dX1_purse_23 rfl 1 rfl ?_
      refine oz_iald X (j := 8) rfl (by decide) dX1_purse_24 (fun g4 => ?_)
      refine oz_goto X (tgt := 29) dX1_purse_25 (by decide) ?_
      exact oz_iret X rfl hr (by omega) dX1_purse_29
  show G 0 0 [(0, .ref (ad 0)), (1, .int a1)] [] st (FX1_purse a1 st)
  unfold FX1_purse
  refine oz_aload_n X dX1_purse_0 rfl 0 rfl ?_
  refine oz_iload_n X dX1_purse_1 rfl 1 rfl ?_
  refine oz_callS X rfl (As := [.int a1]) (S := [.ref (ad 0)]) (mX1_isProcess l hst D cI cZ ad a1) gX1_purse_X1_isProcess rfl rfl rfl hX1_isProcess ⟨by decide, by decide⟩ rfl rfl (Nat.le_of_ble_eq_true rfl) dX1_purse_2 (by omega) (by decide) (by decide) (fun r5 s5 => ?_)
  refine oz_if_eq X (tgt := 12) dX1_purse_5 (by decide) (fun q6 => ?_) (fun q6 => ?_)
  · refine oz_iconst X (v := 1) dX1_purse_12 (by decide) ?_
    exact oz_sub X [0, 1] (L2 := [(0, .ref (ad 0)), (1, .int a1)]) rfl (hc13 _ (by omega) a1 1 s5)
  · refine oz_iconst X (v := 0) dX1_purse_8 (by decide) ?_
    refine oz_goto X (tgt := 13) dX1_purse_9 (by decide) ?_
    exact oz_sub X [0, 1] (L2 := [(0, .ref (ad 0)), (1, .int a1)]) rfl (hc13 _ (by omega) a1 0 s5)

/-! AlmsKernelModel.faults -/
def FX1_faults_j13 (x1 y0 : Int32) (st : ST) : Option Res := bnd (FX1_goes y0 st) (fun r2 s2 => (if r2 = 0 then some (0, 0, s2) else gd (oz_in x1 5) (some (0, s2 11 x1.toNatClampNeg, s2))))
def FX1_faults (a1 : Int32) (st : ST) : Option Res := bnd (FX1_isProcess a1 st) (fun r5 s5 => (if r5 = 0 then (FX1_faults_j13 a1 1 s5) else (FX1_faults_j13 a1 0 s5)))
def rmX1_faults : Room := { frames := 2, cells := 0, slots := 0, locals := 42 }
theorem hX1_faults : yX1_faults.cls = RX1 ∧ yX1_faults.cls ≠ "java/lang/invoke/MethodHandle" ∧ yX1_faults.cls ≠ "java/lang/invoke/VarHandle" ∧ (parseMethodDescriptor yX1_faults.desc).map (fun d => d.parameters.length) = some 1 := by decide +kernel
theorem lkX1_faults_39 : Cond.fieldLink RX1 39 RX1 (TX1 10).2.1 (TX1 10).2.2.1 ∈ wsX1_faults := by decide +kernel
set_option maxHeartbeats 4000000 in
set_option maxRecDepth 100000 in
theorem mX1_faults (l : Launch) (hst : l.stackTraces = false) (D : va_G) (cI cZ : ClassId) (ad : Nat → Nat) (a1 : Int32) : oz_MI l yX1_faults wsX1_faults rmX1_faults D cI cZ RX1 1 oz_KSX1 ad oz_lyX1 0 [.ref (ad 0), .int a1] (FX1_faults a1) := by
  refine oz_ofI (bytes := cX1_faults) (maxL := 2) (ret := (some .int)) (T := TX1) (N := 19) (by decide) rfl rfl oz_CX1 hst (Nat.le_of_ble_eq_true rfl) ?_
  intro p e s m below meth c st A res G hr X
  have hin : ∀ w ∈ u_ws RX1 TX1 19, w ∈ wsX1_faults := fun w h => List.mem_cons_of_mem _ (List.mem_append_right _ h)
  have lk39 := lkX1_faults_39
  have hc13 : ∀ (k : Nat), k ≤ 0 → ∀ (x1 y0 : Int32) (st : ST), G k 13 [(0, .ref (ad 0)), (1, .int x1)] [.int y0, .ref (ad 0)] st (FX1_faults_j13 x1 y0 st) := by
    intro k hk x1 y0 st
    unfold FX1_faults_j13
    refine oz_callV X rfl (As := [.int y0]) (S := []) (mX1_goes l hst D cI cZ ad y0) gX1_faults_X1_goes rfl rfl rfl hX1_goes ⟨by decide, by decide⟩ rfl rfl (Nat.le_of_ble_eq_true rfl) dX1_faults_13 (by omega) (by decide) (by decide) (fun r2 s2 => ?_)
    refine oz_if_eq X (tgt := 28) dX1_faults_16 (by decide) (fun q3 => ?_) (fun q3 => ?_)
    · refine oz_iconst X (v := 0) dX1_faults_28 (by decide) ?_
      exact oz_iret X rfl hr (by omega) dX1_faults_29
    · refine oz_aload_n X dX1_faults_19 rfl 0 rfl ?_
      refine oz_getA X hin (j := 10) rfl lk39 dX1_faults_20 ?_
      refine oz_iload_n X dX1_faults_23 rfl 1 rfl ?_
      refine oz_iald X (j := 10) rfl (by decide) dX1_faults_24 (fun g4 => ?_)
      refine oz_goto X (tgt := 29) dX1_faults_25 (by decide) ?_
      exact oz_iret X rfl hr (by omega) dX1_faults_29
  show G 0 0 [(0, .ref (ad 0)), (1, .int a1)] [] st (FX1_faults a1 st)
  unfold FX1_faults
  refine oz_aload_n X dX1_faults_0 rfl 0 rfl ?_
  refine oz_iload_n X dX1_faults_1 rfl 1 rfl ?_
  refine oz_callS X rfl (As := [.int a1]) (S := [.ref (ad 0)]) (mX1_isProcess l hst D cI cZ ad a1) gX1_faults_X1_isProcess rfl rfl rfl hX1_isProcess ⟨by decide, by decide⟩ rfl rfl (Nat.le_of_ble_eq_true rfl) dX1_faults_2 (by omega) (by decide) (by decide) (fun r5 s5 => ?_)
  refine oz_if_eq X (tgt := 12) dX1_faults_5 (by decide) (fun q6 => ?_) (fun q6 => ?_)
  · refine oz_iconst X (v := 1) dX1_faults_12 (by decide) ?_
    exact oz_sub X [0, 1] (L2 := [(0, .ref (ad 0)), (1, .int a1)]) rfl (hc13 _ (by omega) a1 1 s5)
  · refine oz_iconst X (v := 0) dX1_faults_8 (by decide) ?_
    refine oz_goto X (tgt := 13) dX1_faults_9 (by decide) ?_
    exact oz_sub X [0, 1] (L2 := [(0, .ref (ad 0)), (1, .int a1)]) rfl (hc13 _ (by omega) a1 0 s5)

/-! AlmsKernelModel.loans -/
def FX1_loans (st : ST) : Option Res := stp (oz_se st 0 18 0) (fun s1 => some (0, s1 0 11, s1))
def rmX1_loans : Room := { frames := 0, cells := 0, slots := 0, locals := 0 }
theorem hX1_loans : yX1_loans.cls = RX1 ∧ yX1_loans.cls ≠ "java/lang/invoke/MethodHandle" ∧ yX1_loans.cls ≠ "java/lang/invoke/VarHandle" ∧ (parseMethodDescriptor yX1_loans.desc).map (fun d => d.parameters.length) = some 0 := by decide +kernel
theorem lkX1_loans_57 : Cond.fieldLink RX1 57 RX1 (TX1 18).2.1 (TX1 18).2.2.1 ∈ wsX1_loans := by decide +kernel
theorem lkX1_loans_64 : Cond.fieldLink RX1 64 RX1 (TX1 11).2.1 (TX1 11).2.2.1 ∈ wsX1_loans := by decide +kernel
set_option maxHeartbeats 4000000 in
set_option maxRecDepth 100000 in
theorem mX1_loans (l : Launch) (hst : l.stackTraces = false) (D : va_G) (cI cZ : ClassId) (ad : Nat → Nat) : oz_MI l yX1_loans wsX1_loans rmX1_loans D cI cZ RX1 1 oz_KSX1 ad oz_lyX1 0 [.ref (ad 0)] (FX1_loans) := by
  refine oz_ofI (bytes := cX1_loans) (maxL := 1) (ret := (some .int)) (T := TX1) (N := 19) (by decide) rfl rfl oz_CX1 hst (Nat.le_of_ble_eq_true rfl) ?_
  intro p e s m below meth c st A res G hr X
  have hin : ∀ w ∈ u_ws RX1 TX1 19, w ∈ wsX1_loans := fun w h => List.mem_cons_of_mem _ (List.mem_append_right _ h)
  have lk57 := lkX1_loans_57
  have lk64 := lkX1_loans_64
  show G 0 0 [(0, .ref (ad 0))] [] st (FX1_loans st)
  unfold FX1_loans
  refine oz_aload_n X dX1_loans_0 rfl 0 rfl ?_
  refine oz_iconst X (v := 0) dX1_loans_1 (by decide) ?_
  refine oz_putS X hin (j := 18) rfl lk57 dX1_loans_2 (fun s1 e1 => ?_)
  refine oz_aload_n X dX1_loans_5 rfl 0 rfl ?_
  refine oz_getS X hin (j := 11) rfl lk64 dX1_loans_6 ?_
  exact oz_iret X rfl hr (by omega) dX1_loans_9

/-! AlmsKernelModel.lasts -/
def FX1_lasts_j14 (x1 y0 : Int32) (st : ST) : Option Res := bnd (FX1_goes y0 st) (fun r2 s2 => (if r2 = 0 then some (0, 0, s2) else bnd (FX1_doesLast x1 s2) (fun r4 s4 => (if r4 = 0 then some (0, 0, s4) else some (0, 1, s4)))))
def FX1_lasts (a1 : Int32) (st : ST) : Option Res := bnd (FX1_isLoan a1 st) (fun r6 s6 => (if r6 = 0 then (FX1_lasts_j14 a1 1 s6) else (FX1_lasts_j14 a1 0 s6)))
def rmX1_lasts : Room := { frames := 2, cells := 0, slots := 0, locals := 43 }
theorem hX1_lasts : yX1_lasts.cls = RX1 ∧ yX1_lasts.cls ≠ "java/lang/invoke/MethodHandle" ∧ yX1_lasts.cls ≠ "java/lang/invoke/VarHandle" ∧ (parseMethodDescriptor yX1_lasts.desc).map (fun d => d.parameters.length) = some 1 := by decide +kernel
set_option maxHeartbeats 4000000 in
set_option maxRecDepth 100000 in
theorem mX1_lasts (l : Launch) (hst : l.stackTraces = false) (D : va_G) (cI cZ : ClassId) (ad : Nat → Nat) (a1 : Int32) : oz_MI l yX1_lasts wsX1_lasts rmX1_lasts D cI cZ RX1 1 oz_KSX1 ad oz_lyX1 0 [.ref (ad 0), .int a1] (FX1_lasts a1) := by
  refine oz_ofI (bytes := cX1_lasts) (maxL := 2) (ret := (some .boolean)) (T := TX1) (N := 19) (by decide) rfl rfl oz_CX1 hst (Nat.le_of_ble_eq_true rfl) ?_
  intro p e s m below meth c st A res G hr X
  have hc14 : ∀ (k : Nat), k ≤ 0 → ∀ (x1 y0 : Int32) (st : ST), G k 14 [(0, .ref (ad 0)), (1, .int x1)] [.int y0, .ref (ad 0)] st (FX1_lasts_j14 x1 y0 st) := by
    intro k hk x1 y0 st
    unfold FX1_lasts_j14
    refine oz_callV X rfl (As := [.int y0]) (S := []) (mX1_goes l hst D cI cZ ad y0) gX1_lasts_X1_goes rfl rfl rfl hX1_goes ⟨by decide, by decide⟩ rfl rfl (Nat.le_of_ble_eq_true rfl) dX1_lasts_14 (by omega) (by decide) (by decide) (fun r2 s2 => ?_)
    refine oz_if_eq X (tgt := 32) dX1_lasts_17 (by decide) (fun q3 => ?_) (fun q3 => ?_)
    · refine oz_iconst X (v := 0) dX1_lasts_32 (by decide) ?_
      exact oz_zret X rfl hr rfl (by omega) dX1_lasts_33
    · refine oz_aload_n X dX1_lasts_20 rfl 0 rfl ?_
      refine oz_iload_n X dX1_lasts_21 rfl 1 rfl ?_
      refine oz_callV X rfl (As := [.int x1]) (S := []) (mX1_doesLast l hst D cI cZ ad x1) gX1_lasts_X1_doesLast rfl rfl rfl hX1_doesLast ⟨by decide, by decide⟩ rfl rfl (Nat.le_of_ble_eq_true rfl) dX1_lasts_22 (by omega) (by decide) (by decide) (fun r4 s4 => ?_)
      refine oz_if_eq X (tgt := 32) dX1_lasts_25 (by decide) (fun q5 => ?_) (fun q5 => ?_)
      · refine oz_iconst X (v := 0) dX1_lasts_32 (by decide) ?_
        exact oz_zret X rfl hr rfl (by omega) dX1_lasts_33
      · refine oz_iconst X (v := 1) dX1_lasts_28 (by decide) ?_
        refine oz_goto X (tgt := 33) dX1_lasts_29 (by decide) ?_
        exact oz_zret X rfl hr rfl (by omega) dX1_lasts_33
  show G 0 0 [(0, .ref (ad 0)), (1, .int a1)] [] st (FX1_lasts a1 st)
  unfold FX1_lasts
  refine oz_aload_n X dX1_lasts_0 rfl 0 rfl ?_
  refine oz_aload_n X dX1_lasts_1 rfl 0 rfl ?_
  refine oz_iload_n X dX1_lasts_2 rfl 1 rfl ?_
  refine oz_callV X rfl (As := [.int a1]) (S := [.ref (ad 0)]) (mX1_isLoan l hst D cI cZ ad a1) gX1_lasts_X1_isLoan rfl rfl rfl hX1_isLoan ⟨by decide, by decide⟩ rfl rfl (Nat.le_of_ble_eq_true rfl) dX1_lasts_3 (by omega) (by decide) (by decide) (fun r6 s6 => ?_)
  refine oz_if_eq X (tgt := 13) dX1_lasts_6 (by decide) (fun q7 => ?_) (fun q7 => ?_)
  · refine oz_iconst X (v := 1) dX1_lasts_13 (by decide) ?_
    exact oz_sub X [0, 1] (L2 := [(0, .ref (ad 0)), (1, .int a1)]) rfl (hc14 _ (by omega) a1 1 s6)
  · refine oz_iconst X (v := 0) dX1_lasts_9 (by decide) ?_
    refine oz_goto X (tgt := 14) dX1_lasts_10 (by decide) ?_
    exact oz_sub X [0, 1] (L2 := [(0, .ref (ad 0)), (1, .int a1)]) rfl (hc14 _ (by omega) a1 0 s6)

/-! AlmsKernelModel.partiesOf -/
def FX1_partiesOf_j14 (x1 y0 : Int32) (st : ST) : Option Res := bnd (FX1_goes y0 st) (fun r2 s2 => (if r2 = 0 then some (0, 0, s2) else gd (oz_in x1 60) (gd (oz_in x1 60) (gd (oz_in x1 60) (some (0, ((100 * (s2 13 x1.toNatClampNeg)) + (10 * (s2 14 x1.toNatClampNeg))) + (s2 15 x1.toNatClampNeg), s2))))))
def FX1_partiesOf (a1 : Int32) (st : ST) : Option Res := bnd (FX1_isLoan a1 st) (fun r7 s7 => (if r7 = 0 then (FX1_partiesOf_j14 a1 1 s7) else (FX1_partiesOf_j14 a1 0 s7)))
def rmX1_partiesOf : Room := { frames := 2, cells := 0, slots := 0, locals := 43 }
theorem hX1_partiesOf : yX1_partiesOf.cls = RX1 ∧ yX1_partiesOf.cls ≠ "java/lang/invoke/MethodHandle" ∧ yX1_partiesOf.cls ≠ "java/lang/invoke/VarHandle" ∧ (parseMethodDescriptor yX1_partiesOf.desc).map (fun d => d.parameters.length) = some 1 := by decide +kernel
theorem lkX1_partiesOf_42 : Cond.fieldLink RX1 42 RX1 (TX1 12).2.1 (TX1 12).2.2.1 ∈ wsX1_partiesOf := by decide +kernel
theorem lkX1_partiesOf_45 : Cond.fieldLink RX1 45 RX1 (TX1 13).2.1 (TX1 13).2.2.1 ∈ wsX1_partiesOf := by decide +kernel
theorem lkX1_partiesOf_48 : Cond.fieldLink RX1 48 RX1 (TX1 14).2.1 (TX1 14).2.2.1 ∈ wsX1_partiesOf := by decide +kernel
set_option maxHeartbeats 4000000 in
set_option maxRecDepth 100000 in
theorem mX1_partiesOf (l : Launch) (hst : l.stackTraces = false) (D : va_G) (cI cZ : ClassId) (ad : Nat → Nat) (a1 : Int32) : oz_MI l yX1_partiesOf wsX1_partiesOf rmX1_partiesOf D cI cZ RX1 1 oz_KSX1 ad oz_lyX1 0 [.ref (ad 0), .int a1] (FX1_partiesOf a1) := by
  refine oz_ofI (bytes := cX1_partiesOf) (maxL := 2) (ret := (some .int)) (T := TX1) (N := 19) (by decide) rfl rfl oz_CX1 hst (Nat.le_of_ble_eq_true rfl) ?_
  intro p e s m below meth c st A res G hr X
  have hin : ∀ w ∈ u_ws RX1 TX1 19, w ∈ wsX1_partiesOf := fun w h => List.mem_cons_of_mem _ (List.mem_append_right _ h)
  have lk42 := lkX1_partiesOf_42
  have lk45 := lkX1_partiesOf_45
  have lk48 := lkX1_partiesOf_48
  have hc14 : ∀ (k : Nat), k ≤ 0 → ∀ (x1 y0 : Int32) (st : ST), G k 14 [(0, .ref (ad 0)), (1, .int x1)] [.int y0, .ref (ad 0)] st (FX1_partiesOf_j14 x1 y0 st) := by
    intro k hk x1 y0 st
    unfold FX1_partiesOf_j14
    refine oz_callV X rfl (As := [.int y0]) (S := []) (mX1_goes l hst D cI cZ ad y0) gX1_partiesOf_X1_goes rfl rfl rfl hX1_goes ⟨by decide, by decide⟩ rfl rfl (Nat.le_of_ble_eq_true rfl) dX1_partiesOf_14 (by omega) (by decide) (by decide) (fun r2 s2 => ?_)
    refine oz_if_eq X (tgt := 49) dX1_partiesOf_17 (by decide) (fun q3 => ?_) (fun q3 => ?_)
    · refine oz_iconst X (v := 0) dX1_partiesOf_49 (by decide) ?_
      exact oz_iret X rfl hr (by omega) dX1_partiesOf_50
    · refine oz_bipush X (v := 100) dX1_partiesOf_20 (by decide) ?_
      refine oz_aload_n X dX1_partiesOf_22 rfl 0 rfl ?_
      refine oz_getA X hin (j := 12) rfl lk42 dX1_partiesOf_23 ?_
      refine oz_iload_n X dX1_partiesOf_26 rfl 1 rfl ?_
      refine oz_iald X (j := 12) rfl (by decide) dX1_partiesOf_27 (fun g4 => ?_)
      refine oz_imul X dX1_partiesOf_28 ?_
      refine oz_bipush X (v := 10) dX1_partiesOf_29 (by decide) ?_
      refine oz_aload_n X dX1_partiesOf_31 rfl 0 rfl ?_
      refine oz_getA X hin (j := 13) rfl lk45 dX1_partiesOf_32 ?_
      refine oz_iload_n X dX1_partiesOf_35 rfl 1 rfl ?_
      refine oz_iald X (j := 13) rfl (by decide) dX1_partiesOf_36 (fun g5 => ?_)
      refine oz_imul X dX1_partiesOf_37 ?_
      refine oz_iadd X dX1_partiesOf_38 ?_
      refine oz_aload_n X dX1_partiesOf_39 rfl 0 rfl ?_
      refine oz_getA X hin (j := 14) rfl lk48 dX1_partiesOf_40 ?_
      refine oz_iload_n X dX1_partiesOf_43 rfl 1 rfl ?_
      refine oz_iald X (j := 14) rfl (by decide) dX1_partiesOf_44 (fun g6 => ?_)
      refine oz_iadd X dX1_partiesOf_45 ?_
      refine oz_goto X (tgt := 50) dX1_partiesOf_46 (by decide) ?_
      exact oz_iret X rfl hr (by omega) dX1_partiesOf_50
  show G 0 0 [(0, .ref (ad 0)), (1, .int a1)] [] st (FX1_partiesOf a1 st)
  unfold FX1_partiesOf
  refine oz_aload_n X dX1_partiesOf_0 rfl 0 rfl ?_
  refine oz_aload_n X dX1_partiesOf_1 rfl 0 rfl ?_
  refine oz_iload_n X dX1_partiesOf_2 rfl 1 rfl ?_
  refine oz_callV X rfl (As := [.int a1]) (S := [.ref (ad 0)]) (mX1_isLoan l hst D cI cZ ad a1) gX1_partiesOf_X1_isLoan rfl rfl rfl hX1_isLoan ⟨by decide, by decide⟩ rfl rfl (Nat.le_of_ble_eq_true rfl) dX1_partiesOf_3 (by omega) (by decide) (by decide) (fun r7 s7 => ?_)
  refine oz_if_eq X (tgt := 13) dX1_partiesOf_6 (by decide) (fun q8 => ?_) (fun q8 => ?_)
  · refine oz_iconst X (v := 1) dX1_partiesOf_13 (by decide) ?_
    exact oz_sub X [0, 1] (L2 := [(0, .ref (ad 0)), (1, .int a1)]) rfl (hc14 _ (by omega) a1 1 s7)
  · refine oz_iconst X (v := 0) dX1_partiesOf_9 (by decide) ?_
    refine oz_goto X (tgt := 14) dX1_partiesOf_10 (by decide) ?_
    exact oz_sub X [0, 1] (L2 := [(0, .ref (ad 0)), (1, .int a1)]) rfl (hc14 _ (by omega) a1 0 s7)

/-! AlmsKernelModel.interest -/
def FX1_interest_j14 (x1 y0 : Int32) (st : ST) : Option Res := bnd (FX1_goes y0 st) (fun r2 s2 => (if r2 = 0 then some (0, 0, s2) else gd (oz_in x1 60) (some (0, s2 16 x1.toNatClampNeg, s2))))
def FX1_interest (a1 : Int32) (st : ST) : Option Res := bnd (FX1_isLoan a1 st) (fun r5 s5 => (if r5 = 0 then (FX1_interest_j14 a1 1 s5) else (FX1_interest_j14 a1 0 s5)))
def rmX1_interest : Room := { frames := 2, cells := 0, slots := 0, locals := 43 }
theorem hX1_interest : yX1_interest.cls = RX1 ∧ yX1_interest.cls ≠ "java/lang/invoke/MethodHandle" ∧ yX1_interest.cls ≠ "java/lang/invoke/VarHandle" ∧ (parseMethodDescriptor yX1_interest.desc).map (fun d => d.parameters.length) = some 1 := by decide +kernel
theorem lkX1_interest_51 : Cond.fieldLink RX1 51 RX1 (TX1 15).2.1 (TX1 15).2.2.1 ∈ wsX1_interest := by decide +kernel
set_option maxHeartbeats 4000000 in
set_option maxRecDepth 100000 in
theorem mX1_interest (l : Launch) (hst : l.stackTraces = false) (D : va_G) (cI cZ : ClassId) (ad : Nat → Nat) (a1 : Int32) : oz_MI l yX1_interest wsX1_interest rmX1_interest D cI cZ RX1 1 oz_KSX1 ad oz_lyX1 0 [.ref (ad 0), .int a1] (FX1_interest a1) := by
  refine oz_ofI (bytes := cX1_interest) (maxL := 2) (ret := (some .int)) (T := TX1) (N := 19) (by decide) rfl rfl oz_CX1 hst (Nat.le_of_ble_eq_true rfl) ?_
  intro p e s m below meth c st A res G hr X
  have hin : ∀ w ∈ u_ws RX1 TX1 19, w ∈ wsX1_interest := fun w h => List.mem_cons_of_mem _ (List.mem_append_right _ h)
  have lk51 := lkX1_interest_51
  have hc14 : ∀ (k : Nat), k ≤ 0 → ∀ (x1 y0 : Int32) (st : ST), G k 14 [(0, .ref (ad 0)), (1, .int x1)] [.int y0, .ref (ad 0)] st (FX1_interest_j14 x1 y0 st) := by
    intro k hk x1 y0 st
    unfold FX1_interest_j14
    refine oz_callV X rfl (As := [.int y0]) (S := []) (mX1_goes l hst D cI cZ ad y0) gX1_interest_X1_goes rfl rfl rfl hX1_goes ⟨by decide, by decide⟩ rfl rfl (Nat.le_of_ble_eq_true rfl) dX1_interest_14 (by omega) (by decide) (by decide) (fun r2 s2 => ?_)
    refine oz_if_eq X (tgt := 29) dX1_interest_17 (by decide) (fun q3 => ?_) (fun q3 => ?_)
    · refine oz_iconst X (v := 0) dX1_interest_29 (by decide) ?_
      exact oz_iret X rfl hr (by omega) dX1_interest_30
    · refine oz_aload_n X dX1_interest_20 rfl 0 rfl ?_
      refine oz_getA X hin (j := 15) rfl lk51 dX1_interest_21 ?_
      refine oz_iload_n X dX1_interest_24 rfl 1 rfl ?_
      refine oz_iald X (j := 15) rfl (by decide) dX1_interest_25 (fun g4 => ?_)
      refine oz_goto X (tgt := 30) dX1_interest_26 (by decide) ?_
      exact oz_iret X rfl hr (by omega) dX1_interest_30
  show G 0 0 [(0, .ref (ad 0)), (1, .int a1)] [] st (FX1_interest a1 st)
  unfold FX1_interest
  refine oz_aload_n X dX1_interest_0 rfl 0 rfl ?_
  refine oz_aload_n X dX1_interest_1 rfl 0 rfl ?_
  refine oz_iload_n X dX1_interest_2 rfl 1 rfl ?_
  refine oz_callV X rfl (As := [.int a1]) (S := [.ref (ad 0)]) (mX1_isLoan l hst D cI cZ ad a1) gX1_interest_X1_isLoan rfl rfl rfl hX1_isLoan ⟨by decide, by decide⟩ rfl rfl (Nat.le_of_ble_eq_true rfl) dX1_interest_3 (by omega) (by decide) (by decide) (fun r5 s5 => ?_)
  refine oz_if_eq X (tgt := 13) dX1_interest_6 (by decide) (fun q6 => ?_) (fun q6 => ?_)
  · refine oz_iconst X (v := 1) dX1_interest_13 (by decide) ?_
    exact oz_sub X [0, 1] (L2 := [(0, .ref (ad 0)), (1, .int a1)]) rfl (hc14 _ (by omega) a1 1 s5)
  · refine oz_iconst X (v := 0) dX1_interest_9 (by decide) ?_
    refine oz_goto X (tgt := 14) dX1_interest_10 (by decide) ?_
    exact oz_sub X [0, 1] (L2 := [(0, .ref (ad 0)), (1, .int a1)]) rfl (hc14 _ (by omega) a1 0 s5)

/-! AlmsKernelModel.head -/
def FX1_head (st : ST) : Option Res := stp (oz_se st 0 18 0) (fun s1 => some (0, s1 0 16, s1))
def rmX1_head : Room := { frames := 0, cells := 0, slots := 0, locals := 0 }
theorem hX1_head : yX1_head.cls = RX1 ∧ yX1_head.cls ≠ "java/lang/invoke/MethodHandle" ∧ yX1_head.cls ≠ "java/lang/invoke/VarHandle" ∧ (parseMethodDescriptor yX1_head.desc).map (fun d => d.parameters.length) = some 0 := by decide +kernel
theorem lkX1_head_57 : Cond.fieldLink RX1 57 RX1 (TX1 18).2.1 (TX1 18).2.2.1 ∈ wsX1_head := by decide +kernel
theorem lkX1_head_159 : Cond.fieldLink RX1 159 RX1 (TX1 16).2.1 (TX1 16).2.2.1 ∈ wsX1_head := by decide +kernel
set_option maxHeartbeats 4000000 in
set_option maxRecDepth 100000 in
theorem mX1_head (l : Launch) (hst : l.stackTraces = false) (D : va_G) (cI cZ : ClassId) (ad : Nat → Nat) : oz_MI l yX1_head wsX1_head rmX1_head D cI cZ RX1 1 oz_KSX1 ad oz_lyX1 0 [.ref (ad 0)] (FX1_head) := by
  refine oz_ofI (bytes := cX1_head) (maxL := 1) (ret := (some .int)) (T := TX1) (N := 19) (by decide) rfl rfl oz_CX1 hst (Nat.le_of_ble_eq_true rfl) ?_
  intro p e s m below meth c st A res G hr X
  have hin : ∀ w ∈ u_ws RX1 TX1 19, w ∈ wsX1_head := fun w h => List.mem_cons_of_mem _ (List.mem_append_right _ h)
  have lk57 := lkX1_head_57
  have lk159 := lkX1_head_159
  show G 0 0 [(0, .ref (ad 0))] [] st (FX1_head st)
  unfold FX1_head
  refine oz_aload_n X dX1_head_0 rfl 0 rfl ?_
  refine oz_iconst X (v := 0) dX1_head_1 (by decide) ?_
  refine oz_putS X hin (j := 18) rfl lk57 dX1_head_2 (fun s1 e1 => ?_)
  refine oz_aload_n X dX1_head_5 rfl 0 rfl ?_
  refine oz_getS X hin (j := 16) rfl lk159 dX1_head_6 ?_
  exact oz_iret X rfl hr (by omega) dX1_head_9

/-! AlmsKernelModel.requests -/
def FX1_requests_w9 : Nat → Int32 → Int32 → ST → Option Res
  | 0, _, _, _ => none
  | n + 1, x1, x2, st => (if 12 ≤ x2 then some (0, x1, st) else bnd (FX1_isComing x2 st) (fun r3 s3 => (if r3 = 0 then (FX1_requests_w9 n (x1 + 0) (x2 + 1) s3) else (FX1_requests_w9 n (x1 + 1) (x2 + 1) s3))))
def FX1_requests (st : ST) : Option Res := stp (oz_se st 0 18 0) (fun s5 => (FX1_requests_w9 300 0 0 s5))
def rmX1_requests : Room := { frames := 1, cells := 0, slots := 0, locals := 21 }
theorem hX1_requests : yX1_requests.cls = RX1 ∧ yX1_requests.cls ≠ "java/lang/invoke/MethodHandle" ∧ yX1_requests.cls ≠ "java/lang/invoke/VarHandle" ∧ (parseMethodDescriptor yX1_requests.desc).map (fun d => d.parameters.length) = some 0 := by decide +kernel
theorem lkX1_requests_57 : Cond.fieldLink RX1 57 RX1 (TX1 18).2.1 (TX1 18).2.2.1 ∈ wsX1_requests := by decide +kernel
set_option maxHeartbeats 4000000 in
set_option maxRecDepth 100000 in
theorem mX1_requests (l : Launch) (hst : l.stackTraces = false) (D : va_G) (cI cZ : ClassId) (ad : Nat → Nat) : oz_MI l yX1_requests wsX1_requests rmX1_requests D cI cZ RX1 1 oz_KSX1 ad oz_lyX1 0 [.ref (ad 0)] (FX1_requests) := by
  refine oz_ofI (bytes := cX1_requests) (maxL := 3) (ret := (some .int)) (T := TX1) (N := 19) (by decide) rfl rfl oz_CX1 hst (Nat.le_of_ble_eq_true rfl) ?_
  intro p e s m below meth c st A res G hr X
  have hin : ∀ w ∈ u_ws RX1 TX1 19, w ∈ wsX1_requests := fun w h => List.mem_cons_of_mem _ (List.mem_append_right _ h)
  have lk57 := lkX1_requests_57
  have hc9 : ∀ (n k : Nat), k ≤ 0 → ∀ (x1 x2 : Int32) (st : ST), G k 9 [(0, .ref (ad 0)), (1, .int x1), (2, .int x2)] [] st (FX1_requests_w9 n x1 x2 st) := by
    intro n
    induction n with
    | zero => intros; exact oz_none X
    | succ n ih =>
      intro k hk x1 x2 st
      rw [FX1_requests_w9]
      refine oz_iload_n X dX1_requests_9 rfl 2 rfl ?_
      refine oz_bipush X (v := 12) dX1_requests_10 (by decide) ?_
      refine oz_icmp_ge X (tgt := 37) dX1_requests_12 (by decide) (fun q2 => ?_) (fun q2 => ?_)
      · refine oz_iload_n X dX1_requests_37 rfl 1 rfl ?_
        exact oz_iret X rfl hr (by omega) dX1_requests_38
      · refine oz_iload_n X dX1_requests_15 rfl 1 rfl ?_
        refine oz_aload_n X dX1_requests_16 rfl 0 rfl ?_
        refine oz_iload_n X dX1_requests_17 rfl 2 rfl ?_
        refine oz_callV X rfl (As := [.int x2]) (S := [.int x1]) (mX1_isComing l hst D cI cZ ad x2) gX1_requests_X1_isComing rfl rfl rfl hX1_isComing ⟨by decide, by decide⟩ rfl rfl (Nat.le_of_ble_eq_true rfl) dX1_requests_18 (by omega) (by decide) (by decide) (fun r3 s3 => ?_)
        refine oz_if_eq X (tgt := 28) dX1_requests_21 (by decide) (fun q4 => ?_) (fun q4 => ?_)
        · refine oz_iconst X (v := 0) dX1_requests_28 (by decide) ?_
          refine oz_iadd X dX1_requests_29 ?_
          refine oz_istore_n X (L2 := [(1, .int (x1 + 0)), (0, .ref (ad 0)), (2, .int x2)]) dX1_requests_30 rfl (by decide) rfl ?_
          refine oz_iinc X (q := 2) (v := x2 + 1) (L2 := [(2, .int (x2 + 1)), (1, .int (x1 + 0)), (0, .ref (ad 0))]) dX1_requests_31 rfl rfl (by decide) rfl ?_
          refine oz_goto X (tgt := 9) dX1_requests_34 (by decide) ?_
          exact oz_sub X [2, 1, 0] (L2 := [(0, .ref (ad 0)), (1, .int (x1 + 0)), (2, .int (x2 + 1))]) rfl (ih _ (by omega) (x1 + 0) (x2 + 1) s3)
        · refine oz_iconst X (v := 1) dX1_requests_24 (by decide) ?_
          refine oz_goto X (tgt := 29) dX1_requests_25 (by decide) ?_
          refine oz_iadd X dX1_requests_29 ?_
          refine oz_istore_n X (L2 := [(1, .int (x1 + 1)), (0, .ref (ad 0)), (2, .int x2)]) dX1_requests_30 rfl (by decide) rfl ?_
          refine oz_iinc X (q := 2) (v := x2 + 1) (L2 := [(2, .int (x2 + 1)), (1, .int (x1 + 1)), (0, .ref (ad 0))]) dX1_requests_31 rfl rfl (by decide) rfl ?_
          refine oz_goto X (tgt := 9) dX1_requests_34 (by decide) ?_
          exact oz_sub X [2, 1, 0] (L2 := [(0, .ref (ad 0)), (1, .int (x1 + 1)), (2, .int (x2 + 1))]) rfl (ih _ (by omega) (x1 + 1) (x2 + 1) s3)
  show G 0 0 [(0, .ref (ad 0))] [] st (FX1_requests st)
  unfold FX1_requests
  refine oz_aload_n X dX1_requests_0 rfl 0 rfl ?_
  refine oz_iconst X (v := 0) dX1_requests_1 (by decide) ?_
  refine oz_putS X hin (j := 18) rfl lk57 dX1_requests_2 (fun s5 e5 => ?_)
  refine oz_iconst X (v := 0) dX1_requests_5 (by decide) ?_
  refine oz_istore_n X (L2 := [(1, .int 0), (0, .ref (ad 0))]) dX1_requests_6 rfl (by decide) rfl ?_
  refine oz_iconst X (v := 0) dX1_requests_7 (by decide) ?_
  refine oz_istore_n X (L2 := [(2, .int 0), (1, .int 0), (0, .ref (ad 0))]) dX1_requests_8 rfl (by decide) rfl ?_
  exact oz_sub X [2, 1, 0] (L2 := [(0, .ref (ad 0)), (1, .int 0), (2, .int 0)]) rfl (hc9 300 _ (by omega) 0 0 s5)

/-! AlmsKernelModel.requestAt -/
def FX1_requestAt_j88 (k22 : Int32 → Int32 → Int32 → ST → Option Res) (x1 x2 x3 x4 : Int32) (st : ST) : Option Res := bnd (FX1_isComing x3 st) (fun r2 s2 => (if r2 = 0 then (k22 x1 x2 (x3 + 1) s2) else (if x4 = x1 then bnd (FX1_trackOf x3 s2) (fun r5 s5 => (k22 x1 r5 (x3 + 1) s5)) else (k22 x1 x2 (x3 + 1) s2))))
def FX1_requestAt_w34 (k22 : Int32 → Int32 → Int32 → ST → Option Res) : Nat → Int32 → Int32 → Int32 → Int32 → Int32 → ST → Option Res
  | 0, _, _, _, _, _, _ => none
  | n + 1, x1, x2, x3, x4, x5, st => (if 12 ≤ x5 then (FX1_requestAt_j88 k22 x1 x2 x3 x4 st) else bnd (FX1_isComing x3 st) (fun r8 s8 => (if r8 = 0 then (FX1_requestAt_j88 k22 x1 x2 x3 x4 s8) else bnd (FX1_isComing x5 s8) (fun r10 s10 => (if r10 = 0 then (FX1_requestAt_w34 k22 n x1 x2 x3 (x4 + 0) (x5 + 1) s10) else bnd (FX1_trackOf x5 s10) (fun r12 s12 => bnd (FX1_trackOf x3 s12) (fun r13 s13 => (if r13 ≤ r12 then (FX1_requestAt_w34 k22 n x1 x2 x3 (x4 + 0) (x5 + 1) s13) else (FX1_requestAt_w34 k22 n x1 x2 x3 (x4 + 1) (x5 + 1) s13)))))))))
def FX1_requestAt_w22 : Nat → Int32 → Int32 → Int32 → ST → Option Res
  | 0, _, _, _, _ => none
  | n + 1, x1, x2, x3, st => (if 12 ≤ x3 then some (0, x2, st) else (FX1_requestAt_w34 (FX1_requestAt_w22 n) 300 x1 x2 x3 0 0 st))
def FX1_requestAt_j10 (x1 y0 : Int32) (st : ST) : Option Res := bnd (FX1_goes y0 st) (fun r18 s18 => (if r18 = 0 then some (0, 0, s18) else (FX1_requestAt_w22 300 x1 (-1) 0 s18)))
def FX1_requestAt (a1 : Int32) (st : ST) : Option Res := (if 0 ≤ a1 then (FX1_requestAt_j10 a1 0 st) else (FX1_requestAt_j10 a1 1 st))
def rmX1_requestAt : Room := { frames := 2, cells := 0, slots := 0, locals := 42 }
theorem hX1_requestAt : yX1_requestAt.cls = RX1 ∧ yX1_requestAt.cls ≠ "java/lang/invoke/MethodHandle" ∧ yX1_requestAt.cls ≠ "java/lang/invoke/VarHandle" ∧ (parseMethodDescriptor yX1_requestAt.desc).map (fun d => d.parameters.length) = some 1 := by decide +kernel
set_option maxHeartbeats 4000000 in
set_option maxRecDepth 100000 in
theorem mX1_requestAt (l : Launch) (hst : l.stackTraces = false) (D : va_G) (cI cZ : ClassId) (ad : Nat → Nat) (a1 : Int32) : oz_MI l yX1_requestAt wsX1_requestAt rmX1_requestAt D cI cZ RX1 1 oz_KSX1 ad oz_lyX1 0 [.ref (ad 0), .int a1] (FX1_requestAt a1) := by
  refine oz_ofI (bytes := cX1_requestAt) (maxL := 6) (ret := (some .int)) (T := TX1) (N := 19) (by decide) rfl rfl oz_CX1 hst (Nat.le_of_ble_eq_true rfl) ?_
  intro p e s m below meth c st A res G hr X
  have hc88 : ∀ (k22 : Int32 → Int32 → Int32 → ST → Option Res) (hk22 : ∀ (k : Nat), k ≤ 0 → ∀ (x1 x2 x3 : Int32) (st : ST), G k 22 [(0, .ref (ad 0)), (1, .int x1), (2, .int x2), (3, .int x3)] [] st (k22 x1 x2 x3 st)) (k : Nat), k ≤ 0 → ∀ (x1 x2 x3 x4 : Int32) (st : ST), G k 88 [(0, .ref (ad 0)), (1, .int x1), (2, .int x2), (3, .int x3), (4, .int x4)] [] st (FX1_requestAt_j88 k22 x1 x2 x3 x4 st) := by
    intro k22 hk22 k hk x1 x2 x3 x4 st
    unfold FX1_requestAt_j88
    refine oz_aload_n X dX1_requestAt_88 rfl 0 rfl ?_
    refine oz_iload_n X dX1_requestAt_89 rfl 3 rfl ?_
    refine oz_callV X rfl (As := [.int x3]) (S := []) (mX1_isComing l hst D cI cZ ad x3) gX1_requestAt_X1_isComing rfl rfl rfl hX1_isComing ⟨by decide, by decide⟩ rfl rfl (Nat.le_of_ble_eq_true rfl) dX1_requestAt_90 (by omega) (by decide) (by decide) (fun r2 s2 => ?_)
    refine oz_if_eq X (tgt := 110) dX1_requestAt_93 (by decide) (fun q3 => ?_) (fun q3 => ?_)
    · refine oz_iload_n X dX1_requestAt_110 rfl 2 rfl ?_
      refine oz_istore_n X (L2 := [(2, .int x2), (0, .ref (ad 0)), (1, .int x1), (3, .int x3), (4, .int x4)]) dX1_requestAt_111 rfl (by decide) rfl ?_
      refine oz_iinc X (q := 3) (v := x3 + 1) (L2 := [(3, .int (x3 + 1)), (2, .int x2), (0, .ref (ad 0)), (1, .int x1), (4, .int x4)]) dX1_requestAt_112 rfl rfl (by decide) rfl ?_
      refine oz_goto X (tgt := 22) dX1_requestAt_115 (by decide) ?_
      exact oz_sub X [2, 3, 1, 0] (L2 := [(0, .ref (ad 0)), (1, .int x1), (2, .int x2), (3, .int (x3 + 1))]) rfl (hk22 _ (by omega) x1 x2 (x3 + 1) s2)
    · refine oz_iload X dX1_requestAt_96 4 rfl ?_
      refine oz_iload_n X dX1_requestAt_98 rfl 1 rfl ?_
      refine oz_icmp_ne X (tgt := 110) dX1_requestAt_99 (by decide) (fun q4 => ?_) (fun q4 => ?_)
      · refine oz_iload_n X dX1_requestAt_110 rfl 2 rfl ?_
        refine oz_istore_n X (L2 := [(2, .int x2), (0, .ref (ad 0)), (1, .int x1), (3, .int x3), (4, .int x4)]) dX1_requestAt_111 rfl (by decide) rfl ?_
        refine oz_iinc X (q := 3) (v := x3 + 1) (L2 := [(3, .int (x3 + 1)), (2, .int x2), (0, .ref (ad 0)), (1, .int x1), (4, .int x4)]) dX1_requestAt_112 rfl rfl (by decide) rfl ?_
        refine oz_goto X (tgt := 22) dX1_requestAt_115 (by decide) ?_
        exact oz_sub X [2, 3, 1, 0] (L2 := [(0, .ref (ad 0)), (1, .int x1), (2, .int x2), (3, .int (x3 + 1))]) rfl (hk22 _ (by omega) x1 x2 (x3 + 1) s2)
      · refine oz_aload_n X dX1_requestAt_102 rfl 0 rfl ?_
        refine oz_iload_n X dX1_requestAt_103 rfl 3 rfl ?_
        refine oz_callV X rfl (As := [.int x3]) (S := []) (mX1_trackOf l hst D cI cZ ad x3) gX1_requestAt_X1_trackOf rfl rfl rfl hX1_trackOf ⟨by decide, by decide⟩ rfl rfl (Nat.le_of_ble_eq_true rfl) dX1_requestAt_104 (by omega) (by decide) (by decide) (fun r5 s5 => ?_)
        refine oz_goto X (tgt := 111) dX1_requestAt_107 (by decide) ?_
        refine oz_istore_n X (L2 := [(2, .int r5), (0, .ref (ad 0)), (1, .int x1), (3, .int x3), (4, .int x4)]) dX1_requestAt_111 rfl (by decide) rfl ?_
        refine oz_iinc X (q := 3) (v := x3 + 1) (L2 := [(3, .int (x3 + 1)), (2, .int r5), (0, .ref (ad 0)), (1, .int x1), (4, .int x4)]) dX1_requestAt_112 rfl rfl (by decide) rfl ?_
        refine oz_goto X (tgt := 22) dX1_requestAt_115 (by decide) ?_
        exact oz_sub X [2, 3, 1, 0] (L2 := [(0, .ref (ad 0)), (1, .int x1), (2, .int r5), (3, .int (x3 + 1))]) rfl (hk22 _ (by omega) x1 r5 (x3 + 1) s5)
  have hc34 : ∀ (k22 : Int32 → Int32 → Int32 → ST → Option Res) (hk22 : ∀ (k : Nat), k ≤ 0 → ∀ (x1 x2 x3 : Int32) (st : ST), G k 22 [(0, .ref (ad 0)), (1, .int x1), (2, .int x2), (3, .int x3)] [] st (k22 x1 x2 x3 st)) (n k : Nat), k ≤ 0 → ∀ (x1 x2 x3 x4 x5 : Int32) (st : ST), G k 34 [(0, .ref (ad 0)), (1, .int x1), (2, .int x2), (3, .int x3), (4, .int x4), (5, .int x5)] [] st (FX1_requestAt_w34 k22 n x1 x2 x3 x4 x5 st) := by
    intro k22 hk22 n
    induction n with
    | zero => intros; exact oz_none X
    | succ n ih =>
      intro k hk x1 x2 x3 x4 x5 st
      rw [FX1_requestAt_w34]
      refine oz_iload X dX1_requestAt_34 5 rfl ?_
      refine oz_bipush X (v := 12) dX1_requestAt_36 (by decide) ?_
      refine oz_icmp_ge X (tgt := 88) dX1_requestAt_38 (by decide) (fun q7 => ?_) (fun q7 => ?_)
      · exact oz_sub X [0, 1, 2, 3, 4] (L2 := [(0, .ref (ad 0)), (1, .int x1), (2, .int x2), (3, .int x3), (4, .int x4)]) rfl (hc88 k22 hk22 _ (by omega) x1 x2 x3 x4 st)
      · refine oz_aload_n X dX1_requestAt_41 rfl 0 rfl ?_
        refine oz_iload_n X dX1_requestAt_42 rfl 3 rfl ?_
        refine oz_callV X rfl (As := [.int x3]) (S := []) (mX1_isComing l hst D cI cZ ad x3) gX1_requestAt_X1_isComing rfl rfl rfl hX1_isComing ⟨by decide, by decide⟩ rfl rfl (Nat.le_of_ble_eq_true rfl) dX1_requestAt_43 (by omega) (by decide) (by decide) (fun r8 s8 => ?_)
        refine oz_if_eq X (tgt := 88) dX1_requestAt_46 (by decide) (fun q9 => ?_) (fun q9 => ?_)
        · exact oz_sub X [0, 1, 2, 3, 4] (L2 := [(0, .ref (ad 0)), (1, .int x1), (2, .int x2), (3, .int x3), (4, .int x4)]) rfl (hc88 k22 hk22 _ (by omega) x1 x2 x3 x4 s8)
        · refine oz_iload X dX1_requestAt_49 4 rfl ?_
          refine oz_aload_n X dX1_requestAt_51 rfl 0 rfl ?_
          refine oz_iload X dX1_requestAt_52 5 rfl ?_
          refine oz_callV X rfl (As := [.int x5]) (S := [.int x4]) (mX1_isComing l hst D cI cZ ad x5) gX1_requestAt_X1_isComing rfl rfl rfl hX1_isComing ⟨by decide, by decide⟩ rfl rfl (Nat.le_of_ble_eq_true rfl) dX1_requestAt_54 (by omega) (by decide) (by decide) (fun r10 s10 => ?_)
          refine oz_if_eq X (tgt := 78) dX1_requestAt_57 (by decide) (fun q11 => ?_) (fun q11 => ?_)
          · refine oz_iconst X (v := 0) dX1_requestAt_78 (by decide) ?_
            refine oz_iadd X dX1_requestAt_79 ?_
            refine oz_istore X (L2 := [(4, .int (x4 + 0)), (0, .ref (ad 0)), (1, .int x1), (2, .int x2), (3, .int x3), (5, .int x5)]) dX1_requestAt_80 (by decide) rfl ?_
            refine oz_iinc X (q := 5) (v := x5 + 1) (L2 := [(5, .int (x5 + 1)), (4, .int (x4 + 0)), (0, .ref (ad 0)), (1, .int x1), (2, .int x2), (3, .int x3)]) dX1_requestAt_82 rfl rfl (by decide) rfl ?_
            refine oz_goto X (tgt := 34) dX1_requestAt_85 (by decide) ?_
            exact oz_sub X [2, 3, 4, 5, 1, 0] (L2 := [(0, .ref (ad 0)), (1, .int x1), (2, .int x2), (3, .int x3), (4, .int (x4 + 0)), (5, .int (x5 + 1))]) rfl (ih _ (by omega) x1 x2 x3 (x4 + 0) (x5 + 1) s10)
          · refine oz_aload_n X dX1_requestAt_60 rfl 0 rfl ?_
            refine oz_iload X dX1_requestAt_61 5 rfl ?_
            refine oz_callV X rfl (As := [.int x5]) (S := [.int x4]) (mX1_trackOf l hst D cI cZ ad x5) gX1_requestAt_X1_trackOf rfl rfl rfl hX1_trackOf ⟨by decide, by decide⟩ rfl rfl (Nat.le_of_ble_eq_true rfl) dX1_requestAt_63 (by omega) (by decide) (by decide) (fun r12 s12 => ?_)
            refine oz_aload_n X dX1_requestAt_66 rfl 0 rfl ?_
            refine oz_iload_n X dX1_requestAt_67 rfl 3 rfl ?_
            refine oz_callV X rfl (As := [.int x3]) (S := [.int r12, .int x4]) (mX1_trackOf l hst D cI cZ ad x3) gX1_requestAt_X1_trackOf rfl rfl rfl hX1_trackOf ⟨by decide, by decide⟩ rfl rfl (Nat.le_of_ble_eq_true rfl) dX1_requestAt_68 (by omega) (by decide) (by decide) (fun r13 s13 => ?_)
            refine oz_icmp_ge X (tgt := 78) dX1_requestAt_71 (by decide) (fun q14 => ?_) (fun q14 => ?_)
            · refine oz_iconst X (v := 0) dX1_requestAt_78 (by decide) ?_
              refine oz_iadd X dX1_requestAt_79 ?_
              refine oz_istore X (L2 := [(4, .int (x4 + 0)), (0, .ref (ad 0)), (1, .int x1), (2, .int x2), (3, .int x3), (5, .int x5)]) dX1_requestAt_80 (by decide) rfl ?_
              refine oz_iinc X (q := 5) (v := x5 + 1) (L2 := [(5, .int (x5 + 1)), (4, .int (x4 + 0)), (0, .ref (ad 0)), (1, .int x1), (2, .int x2), (3, .int x3)]) dX1_requestAt_82 rfl rfl (by decide) rfl ?_
              refine oz_goto X (tgt := 34) dX1_requestAt_85 (by decide) ?_
              exact oz_sub X [2, 3, 4, 5, 1, 0] (L2 := [(0, .ref (ad 0)), (1, .int x1), (2, .int x2), (3, .int x3), (4, .int (x4 + 0)), (5, .int (x5 + 1))]) rfl (ih _ (by omega) x1 x2 x3 (x4 + 0) (x5 + 1) s13)
            · refine oz_iconst X (v := 1) dX1_requestAt_74 (by decide) ?_
              refine oz_goto X (tgt := 79) dX1_requestAt_75 (by decide) ?_
              refine oz_iadd X dX1_requestAt_79 ?_
              refine oz_istore X (L2 := [(4, .int (x4 + 1)), (0, .ref (ad 0)), (1, .int x1), (2, .int x2), (3, .int x3), (5, .int x5)]) dX1_requestAt_80 (by decide) rfl ?_
              refine oz_iinc X (q := 5) (v := x5 + 1) (L2 := [(5, .int (x5 + 1)), (4, .int (x4 + 1)), (0, .ref (ad 0)), (1, .int x1), (2, .int x2), (3, .int x3)]) dX1_requestAt_82 rfl rfl (by decide) rfl ?_
              refine oz_goto X (tgt := 34) dX1_requestAt_85 (by decide) ?_
              exact oz_sub X [2, 3, 4, 5, 1, 0] (L2 := [(0, .ref (ad 0)), (1, .int x1), (2, .int x2), (3, .int x3), (4, .int (x4 + 1)), (5, .int (x5 + 1))]) rfl (ih _ (by omega) x1 x2 x3 (x4 + 1) (x5 + 1) s13)
  have hc22 : ∀ (n k : Nat), k ≤ 0 → ∀ (x1 x2 x3 : Int32) (st : ST), G k 22 [(0, .ref (ad 0)), (1, .int x1), (2, .int x2), (3, .int x3)] [] st (FX1_requestAt_w22 n x1 x2 x3 st) := by
    intro n
    induction n with
    | zero => intros; exact oz_none X
    | succ n ih =>
      intro k hk x1 x2 x3 st
      rw [FX1_requestAt_w22]
      refine oz_iload_n X dX1_requestAt_22 rfl 3 rfl ?_
      refine oz_bipush X (v := 12) dX1_requestAt_23 (by decide) ?_
      refine oz_icmp_ge X (tgt := 118) dX1_requestAt_25 (by decide) (fun q16 => ?_) (fun q16 => ?_)
      · refine oz_iload_n X dX1_requestAt_118 rfl 2 rfl ?_
        exact oz_iret X rfl hr (by omega) dX1_requestAt_119
      · refine oz_iconst X (v := 0) dX1_requestAt_28 (by decide) ?_
        refine oz_istore X (L2 := [(4, .int 0), (0, .ref (ad 0)), (1, .int x1), (2, .int x2), (3, .int x3)]) dX1_requestAt_29 (by decide) rfl ?_
        refine oz_iconst X (v := 0) dX1_requestAt_31 (by decide) ?_
        refine oz_istore X (L2 := [(5, .int 0), (4, .int 0), (0, .ref (ad 0)), (1, .int x1), (2, .int x2), (3, .int x3)]) dX1_requestAt_32 (by decide) rfl ?_
        exact oz_sub X [2, 3, 4, 5, 1, 0] (L2 := [(0, .ref (ad 0)), (1, .int x1), (2, .int x2), (3, .int x3), (4, .int 0), (5, .int 0)]) rfl (hc34 (FX1_requestAt_w22 n) ih 300 _ (by omega) x1 x2 x3 0 0 st)
  have hc10 : ∀ (k : Nat), k ≤ 0 → ∀ (x1 y0 : Int32) (st : ST), G k 10 [(0, .ref (ad 0)), (1, .int x1)] [.int y0, .ref (ad 0)] st (FX1_requestAt_j10 x1 y0 st) := by
    intro k hk x1 y0 st
    unfold FX1_requestAt_j10
    refine oz_callV X rfl (As := [.int y0]) (S := []) (mX1_goes l hst D cI cZ ad y0) gX1_requestAt_X1_goes rfl rfl rfl hX1_goes ⟨by decide, by decide⟩ rfl rfl (Nat.le_of_ble_eq_true rfl) dX1_requestAt_10 (by omega) (by decide) (by decide) (fun r18 s18 => ?_)
    refine oz_if_ne X (tgt := 18) dX1_requestAt_13 (by decide) (fun q19 => ?_) (fun q19 => ?_)
    · refine oz_iconst X (v := (-1)) dX1_requestAt_18 (by decide) ?_
      refine oz_istore_n X (L2 := [(2, .int (-1)), (0, .ref (ad 0)), (1, .int x1)]) dX1_requestAt_19 rfl (by decide) rfl ?_
      refine oz_iconst X (v := 0) dX1_requestAt_20 (by decide) ?_
      refine oz_istore_n X (L2 := [(3, .int 0), (2, .int (-1)), (0, .ref (ad 0)), (1, .int x1)]) dX1_requestAt_21 rfl (by decide) rfl ?_
      exact oz_sub X [2, 3, 1, 0] (L2 := [(0, .ref (ad 0)), (1, .int x1), (2, .int (-1)), (3, .int 0)]) rfl (hc22 300 _ (by omega) x1 (-1) 0 s18)
    · refine oz_iconst X (v := 0) dX1_requestAt_16 (by decide) ?_
      exact oz_iret X rfl hr (by omega) dX1_requestAt_17
  show G 0 0 [(0, .ref (ad 0)), (1, .int a1)] [] st (FX1_requestAt a1 st)
  unfold FX1_requestAt
  refine oz_aload_n X dX1_requestAt_0 rfl 0 rfl ?_
  refine oz_iload_n X dX1_requestAt_1 rfl 1 rfl ?_
  refine oz_if_ge X (tgt := 9) dX1_requestAt_2 (by decide) (fun q20 => ?_) (fun q20 => ?_)
  · refine oz_iconst X (v := 0) dX1_requestAt_9 (by decide) ?_
    exact oz_sub X [0, 1] (L2 := [(0, .ref (ad 0)), (1, .int a1)]) rfl (hc10 _ (by omega) a1 0 st)
  · refine oz_iconst X (v := 1) dX1_requestAt_5 (by decide) ?_
    refine oz_goto X (tgt := 10) dX1_requestAt_6 (by decide) ?_
    exact oz_sub X [0, 1] (L2 := [(0, .ref (ad 0)), (1, .int a1)]) rfl (hc10 _ (by omega) a1 1 st)

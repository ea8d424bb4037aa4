/-! AlmsKernel.holder -/
def FX0_holder (a1 : Int32) (st : Int32) : Option RC := bnd (FX0_isFrameN a1 st) (fun r1 s1 => (if r1 = 0 then some (1, 0, bump s1) else none))
def rmX0_holder : Room := { frames := 6, cells := 1, slots := 6, locals := 86 }
theorem hX0_holder : yX0_holder.cls = RX0 ∧ yX0_holder.cls ≠ "java/lang/invoke/MethodHandle" ∧ yX0_holder.cls ≠ "java/lang/invoke/VarHandle" ∧ (parseMethodDescriptor yX0_holder.desc).map (fun d => d.parameters.length) = some 1 := by decide +kernel
set_option maxHeartbeats 4000000 in
set_option maxRecDepth 100000 in
theorem mX0_holder (l : Launch) (hst : l.stackTraces = false) (D : va_G) (cI cZ : ClassId) (ad : Nat → Nat) (a1 : Int32) : oz_MI l yX0_holder wsX0_holder rmX0_holder D cI cZ RX0 0 oz_KSX0 ad oz_lyX0 1 [.ref (ad 0), .int a1] (FX0_holder a1) := by
  refine oz_ofI (wn := RX0) (bytes := cX0_holder) (maxL := 2) (ret := (some .int)) (T := TX0) (N := 19) (by decide) rfl rfl oz_CX0 hst (Nat.le_of_ble_eq_true rfl) ?_
  intro p e s m below meth c st A res G hr X
  have tk1 : Cond.classLink RX0 79 (oz_exn 1) ∈ wsX0_holder := by decide +kernel
  have ti1 : Cond.initialized (oz_exn 1) ∈ wsX0_holder := by decide +kernel
  have tg1 : ∀ w ∈ (vx_atS RX0 83 (oz_exn 1) oz_names).filter goodWord, w ∈ wsX0_holder := fun w h => List.mem_cons_of_mem _ (List.mem_append_right _ h)
  show G 0 0 [(0, .ref (ad 0)), (1, .int a1)] [] st (FX0_holder a1 st)
  unfold FX0_holder
  refine oz_iload_n X dX0_holder_0 rfl 1 rfl ?_
  refine oz_callS X rfl (As := [.int a1]) (S := []) (mX0_isFrameN l hst D cI cZ ad a1) gX0_holder_X0_isFrame rfl rfl rfl hX0_isFrameN ⟨by decide, by decide⟩ rfl rfl (Nat.le_of_ble_eq_true rfl) dX0_holder_1 (by omega) (by decide) (by decide) (fun r1 s1 => ?_)
  refine oz_if_ne X (tgt := 17) dX0_holder_4 (by decide) (fun q2 => ?_) (fun q2 => ?_)
  · exact oz_none X
  · exact oz_throw X rfl 1 (text := "no such frame") (by decide) (oz_KSX0_107) (by decide +kernel) tk1 ti1 tg1 oz_tbX0_1 oz_twX0_1 dX0_holder_7 dX0_holder_10 dX0_holder_11 dX0_holder_13 dX0_holder_16 (by decide) (by decide) (by omega) (by decide) (by decide)

/-! AlmsKernel.holderByLog -/
def FX0_holderByLog (a1 : Int32) (st : Int32) : Option RC := bnd (FX0_isFrameN a1 st) (fun r1 s1 => (if r1 = 0 then some (1, 0, bump s1) else none))
def rmX0_holderByLog : Room := { frames := 6, cells := 1, slots := 6, locals := 86 }
theorem hX0_holderByLog : yX0_holderByLog.cls = RX0 ∧ yX0_holderByLog.cls ≠ "java/lang/invoke/MethodHandle" ∧ yX0_holderByLog.cls ≠ "java/lang/invoke/VarHandle" ∧ (parseMethodDescriptor yX0_holderByLog.desc).map (fun d => d.parameters.length) = some 1 := by decide +kernel
set_option maxHeartbeats 4000000 in
set_option maxRecDepth 100000 in
theorem mX0_holderByLog (l : Launch) (hst : l.stackTraces = false) (D : va_G) (cI cZ : ClassId) (ad : Nat → Nat) (a1 : Int32) : oz_MI l yX0_holderByLog wsX0_holderByLog rmX0_holderByLog D cI cZ RX0 0 oz_KSX0 ad oz_lyX0 1 [.ref (ad 0), .int a1] (FX0_holderByLog a1) := by
  refine oz_ofI (wn := RX0) (bytes := cX0_holderByLog) (maxL := 3) (ret := (some .int)) (T := TX0) (N := 19) (by decide) rfl rfl oz_CX0 hst (Nat.le_of_ble_eq_true rfl) ?_
  intro p e s m below meth c st A res G hr X
  have tk1 : Cond.classLink RX0 79 (oz_exn 1) ∈ wsX0_holderByLog := by decide +kernel
  have ti1 : Cond.initialized (oz_exn 1) ∈ wsX0_holderByLog := by decide +kernel
  have tg1 : ∀ w ∈ (vx_atS RX0 83 (oz_exn 1) oz_names).filter goodWord, w ∈ wsX0_holderByLog := fun w h => List.mem_cons_of_mem _ (List.mem_append_right _ h)
  show G 0 0 [(0, .ref (ad 0)), (1, .int a1)] [] st (FX0_holderByLog a1 st)
  unfold FX0_holderByLog
  refine oz_iload_n X dX0_holderByLog_0 rfl 1 rfl ?_
  refine oz_callS X rfl (As := [.int a1]) (S := []) (mX0_isFrameN l hst D cI cZ ad a1) gX0_holderByLog_X0_isFrame rfl rfl rfl hX0_isFrameN ⟨by decide, by decide⟩ rfl rfl (Nat.le_of_ble_eq_true rfl) dX0_holderByLog_1 (by omega) (by decide) (by decide) (fun r1 s1 => ?_)
  refine oz_if_ne X (tgt := 17) dX0_holderByLog_4 (by decide) (fun q2 => ?_) (fun q2 => ?_)
  · exact oz_none X
  · exact oz_throw X rfl 1 (text := "no such frame") (by decide) (oz_KSX0_107) (by decide +kernel) tk1 ti1 tg1 oz_tbX0_1 oz_twX0_1 dX0_holderByLog_7 dX0_holderByLog_10 dX0_holderByLog_11 dX0_holderByLog_13 dX0_holderByLog_16 (by decide) (by decide) (by omega) (by decide) (by decide)

/-! AlmsKernel.pageIn -/
def FX0_pageIn (a1 : Int32) (st : Int32) : Option RC := bnd (FX0_isFrameN a1 st) (fun r1 s1 => (if r1 = 0 then some (1, 0, bump s1) else none))
def rmX0_pageIn : Room := { frames := 6, cells := 1, slots := 6, locals := 86 }
theorem hX0_pageIn : yX0_pageIn.cls = RX0 ∧ yX0_pageIn.cls ≠ "java/lang/invoke/MethodHandle" ∧ yX0_pageIn.cls ≠ "java/lang/invoke/VarHandle" ∧ (parseMethodDescriptor yX0_pageIn.desc).map (fun d => d.parameters.length) = some 1 := by decide +kernel
set_option maxHeartbeats 4000000 in
set_option maxRecDepth 100000 in
theorem mX0_pageIn (l : Launch) (hst : l.stackTraces = false) (D : va_G) (cI cZ : ClassId) (ad : Nat → Nat) (a1 : Int32) : oz_MI l yX0_pageIn wsX0_pageIn rmX0_pageIn D cI cZ RX0 0 oz_KSX0 ad oz_lyX0 1 [.ref (ad 0), .int a1] (FX0_pageIn a1) := by
  refine oz_ofI (wn := RX0) (bytes := cX0_pageIn) (maxL := 2) (ret := (some .int)) (T := TX0) (N := 19) (by decide) rfl rfl oz_CX0 hst (Nat.le_of_ble_eq_true rfl) ?_
  intro p e s m below meth c st A res G hr X
  have tk1 : Cond.classLink RX0 79 (oz_exn 1) ∈ wsX0_pageIn := by decide +kernel
  have ti1 : Cond.initialized (oz_exn 1) ∈ wsX0_pageIn := by decide +kernel
  have tg1 : ∀ w ∈ (vx_atS RX0 83 (oz_exn 1) oz_names).filter goodWord, w ∈ wsX0_pageIn := fun w h => List.mem_cons_of_mem _ (List.mem_append_right _ h)
  show G 0 0 [(0, .ref (ad 0)), (1, .int a1)] [] st (FX0_pageIn a1 st)
  unfold FX0_pageIn
  refine oz_iload_n X dX0_pageIn_0 rfl 1 rfl ?_
  refine oz_callS X rfl (As := [.int a1]) (S := []) (mX0_isFrameN l hst D cI cZ ad a1) gX0_pageIn_X0_isFrame rfl rfl rfl hX0_isFrameN ⟨by decide, by decide⟩ rfl rfl (Nat.le_of_ble_eq_true rfl) dX0_pageIn_1 (by omega) (by decide) (by decide) (fun r1 s1 => ?_)
  refine oz_if_ne X (tgt := 17) dX0_pageIn_4 (by decide) (fun q2 => ?_) (fun q2 => ?_)
  · exact oz_none X
  · exact oz_throw X rfl 1 (text := "no such frame") (by decide) (oz_KSX0_107) (by decide +kernel) tk1 ti1 tg1 oz_tbX0_1 oz_twX0_1 dX0_pageIn_7 dX0_pageIn_10 dX0_pageIn_11 dX0_pageIn_13 dX0_pageIn_16 (by decide) (by decide) (by omega) (by decide) (by decide)

/-! AlmsKernel.age -/
def FX0_age (a1 : Int32) (st : Int32) : Option RC := bnd (FX0_isFrameN a1 st) (fun r1 s1 => (if r1 = 0 then some (1, 0, bump s1) else none))
def rmX0_age : Room := { frames := 6, cells := 1, slots := 6, locals := 86 }
theorem hX0_age : yX0_age.cls = RX0 ∧ yX0_age.cls ≠ "java/lang/invoke/MethodHandle" ∧ yX0_age.cls ≠ "java/lang/invoke/VarHandle" ∧ (parseMethodDescriptor yX0_age.desc).map (fun d => d.parameters.length) = some 1 := by decide +kernel
set_option maxHeartbeats 4000000 in
set_option maxRecDepth 100000 in
theorem mX0_age (l : Launch) (hst : l.stackTraces = false) (D : va_G) (cI cZ : ClassId) (ad : Nat → Nat) (a1 : Int32) : oz_MI l yX0_age wsX0_age rmX0_age D cI cZ RX0 0 oz_KSX0 ad oz_lyX0 1 [.ref (ad 0), .int a1] (FX0_age a1) := by
  refine oz_ofI (wn := RX0) (bytes := cX0_age) (maxL := 2) (ret := (some .int)) (T := TX0) (N := 19) (by decide) rfl rfl oz_CX0 hst (Nat.le_of_ble_eq_true rfl) ?_
  intro p e s m below meth c st A res G hr X
  have tk1 : Cond.classLink RX0 79 (oz_exn 1) ∈ wsX0_age := by decide +kernel
  have ti1 : Cond.initialized (oz_exn 1) ∈ wsX0_age := by decide +kernel
  have tg1 : ∀ w ∈ (vx_atS RX0 83 (oz_exn 1) oz_names).filter goodWord, w ∈ wsX0_age := fun w h => List.mem_cons_of_mem _ (List.mem_append_right _ h)
  show G 0 0 [(0, .ref (ad 0)), (1, .int a1)] [] st (FX0_age a1 st)
  unfold FX0_age
  refine oz_iload_n X dX0_age_0 rfl 1 rfl ?_
  refine oz_callS X rfl (As := [.int a1]) (S := []) (mX0_isFrameN l hst D cI cZ ad a1) gX0_age_X0_isFrame rfl rfl rfl hX0_isFrameN ⟨by decide, by decide⟩ rfl rfl (Nat.le_of_ble_eq_true rfl) dX0_age_1 (by omega) (by decide) (by decide) (fun r1 s1 => ?_)
  refine oz_if_ne X (tgt := 17) dX0_age_4 (by decide) (fun q2 => ?_) (fun q2 => ?_)
  · exact oz_none X
  · exact oz_throw X rfl 1 (text := "no such frame") (by decide) (oz_KSX0_107) (by decide +kernel) tk1 ti1 tg1 oz_tbX0_1 oz_twX0_1 dX0_age_7 dX0_age_10 dX0_age_11 dX0_age_13 dX0_age_16 (by decide) (by decide) (by omega) (by decide) (by decide)

/-! AlmsKernel.owns -/
def FX0_owns (a1 : Int32) (st : Int32) : Option RC := bnd (FX0_isProcessN a1 st) (fun r1 s1 => (if r1 = 0 then some (1, 0, bump s1) else none))
def rmX0_owns : Room := { frames := 6, cells := 1, slots := 6, locals := 86 }
theorem hX0_owns : yX0_owns.cls = RX0 ∧ yX0_owns.cls ≠ "java/lang/invoke/MethodHandle" ∧ yX0_owns.cls ≠ "java/lang/invoke/VarHandle" ∧ (parseMethodDescriptor yX0_owns.desc).map (fun d => d.parameters.length) = some 1 := by decide +kernel
set_option maxHeartbeats 4000000 in
set_option maxRecDepth 100000 in
theorem mX0_owns (l : Launch) (hst : l.stackTraces = false) (D : va_G) (cI cZ : ClassId) (ad : Nat → Nat) (a1 : Int32) : oz_MI l yX0_owns wsX0_owns rmX0_owns D cI cZ RX0 0 oz_KSX0 ad oz_lyX0 1 [.ref (ad 0), .int a1] (FX0_owns a1) := by
  refine oz_ofI (wn := RX0) (bytes := cX0_owns) (maxL := 4) (ret := (some .int)) (T := TX0) (N := 19) (by decide) rfl rfl oz_CX0 hst (Nat.le_of_ble_eq_true rfl) ?_
  intro p e s m below meth c st A res G hr X
  have tk1 : Cond.classLink RX0 79 (oz_exn 1) ∈ wsX0_owns := by decide +kernel
  have ti1 : Cond.initialized (oz_exn 1) ∈ wsX0_owns := by decide +kernel
  have tg1 : ∀ w ∈ (vx_atS RX0 83 (oz_exn 1) oz_names).filter goodWord, w ∈ wsX0_owns := fun w h => List.mem_cons_of_mem _ (List.mem_append_right _ h)
  show G 0 0 [(0, .ref (ad 0)), (1, .int a1)] [] st (FX0_owns a1 st)
  unfold FX0_owns
  refine oz_iload_n X dX0_owns_0 rfl 1 rfl ?_
  refine oz_callS X rfl (As := [.int a1]) (S := []) (mX0_isProcessN l hst D cI cZ ad a1) gX0_owns_X0_isProcess rfl rfl rfl hX0_isProcessN ⟨by decide, by decide⟩ rfl rfl (Nat.le_of_ble_eq_true rfl) dX0_owns_1 (by omega) (by decide) (by decide) (fun r1 s1 => ?_)
  refine oz_if_ne X (tgt := 17) dX0_owns_4 (by decide) (fun q2 => ?_) (fun q2 => ?_)
  · exact oz_none X
  · exact oz_throw X rfl 1 (text := "no such process") (by decide) (oz_KSX0_81) (by decide +kernel) tk1 ti1 tg1 oz_tbX0_1 oz_twX0_1 dX0_owns_7 dX0_owns_10 dX0_owns_11 dX0_owns_13 dX0_owns_16 (by decide) (by decide) (by omega) (by decide) (by decide)

/-! AlmsKernel.borrowed -/
def FX0_borrowed (a1 : Int32) (st : Int32) : Option RC := bnd (FX0_isProcessN a1 st) (fun r1 s1 => (if r1 = 0 then some (1, 0, bump s1) else none))
def rmX0_borrowed : Room := { frames := 6, cells := 1, slots := 6, locals := 86 }
theorem hX0_borrowed : yX0_borrowed.cls = RX0 ∧ yX0_borrowed.cls ≠ "java/lang/invoke/MethodHandle" ∧ yX0_borrowed.cls ≠ "java/lang/invoke/VarHandle" ∧ (parseMethodDescriptor yX0_borrowed.desc).map (fun d => d.parameters.length) = some 1 := by decide +kernel
set_option maxHeartbeats 4000000 in
set_option maxRecDepth 100000 in
theorem mX0_borrowed (l : Launch) (hst : l.stackTraces = false) (D : va_G) (cI cZ : ClassId) (ad : Nat → Nat) (a1 : Int32) : oz_MI l yX0_borrowed wsX0_borrowed rmX0_borrowed D cI cZ RX0 0 oz_KSX0 ad oz_lyX0 1 [.ref (ad 0), .int a1] (FX0_borrowed a1) := by
  refine oz_ofI (wn := RX0) (bytes := cX0_borrowed) (maxL := 2) (ret := (some .int)) (T := TX0) (N := 19) (by decide) rfl rfl oz_CX0 hst (Nat.le_of_ble_eq_true rfl) ?_
  intro p e s m below meth c st A res G hr X
  have tk1 : Cond.classLink RX0 79 (oz_exn 1) ∈ wsX0_borrowed := by decide +kernel
  have ti1 : Cond.initialized (oz_exn 1) ∈ wsX0_borrowed := by decide +kernel
  have tg1 : ∀ w ∈ (vx_atS RX0 83 (oz_exn 1) oz_names).filter goodWord, w ∈ wsX0_borrowed := fun w h => List.mem_cons_of_mem _ (List.mem_append_right _ h)
  show G 0 0 [(0, .ref (ad 0)), (1, .int a1)] [] st (FX0_borrowed a1 st)
  unfold FX0_borrowed
  refine oz_iload_n X dX0_borrowed_0 rfl 1 rfl ?_
  refine oz_callS X rfl (As := [.int a1]) (S := []) (mX0_isProcessN l hst D cI cZ ad a1) gX0_borrowed_X0_isProcess rfl rfl rfl hX0_isProcessN ⟨by decide, by decide⟩ rfl rfl (Nat.le_of_ble_eq_true rfl) dX0_borrowed_1 (by omega) (by decide) (by decide) (fun r1 s1 => ?_)
  refine oz_if_ne X (tgt := 17) dX0_borrowed_4 (by decide) (fun q2 => ?_) (fun q2 => ?_)
  · exact oz_none X
  · exact oz_throw X rfl 1 (text := "no such process") (by decide) (oz_KSX0_81) (by decide +kernel) tk1 ti1 tg1 oz_tbX0_1 oz_twX0_1 dX0_borrowed_7 dX0_borrowed_10 dX0_borrowed_11 dX0_borrowed_13 dX0_borrowed_16 (by decide) (by decide) (by omega) (by decide) (by decide)

/-! AlmsKernel.lent -/
def FX0_lent (a1 : Int32) (st : Int32) : Option RC := bnd (FX0_isProcessN a1 st) (fun r1 s1 => (if r1 = 0 then some (1, 0, bump s1) else none))
def rmX0_lent : Room := { frames := 6, cells := 1, slots := 6, locals := 86 }
theorem hX0_lent : yX0_lent.cls = RX0 ∧ yX0_lent.cls ≠ "java/lang/invoke/MethodHandle" ∧ yX0_lent.cls ≠ "java/lang/invoke/VarHandle" ∧ (parseMethodDescriptor yX0_lent.desc).map (fun d => d.parameters.length) = some 1 := by decide +kernel
set_option maxHeartbeats 4000000 in
set_option maxRecDepth 100000 in
theorem mX0_lent (l : Launch) (hst : l.stackTraces = false) (D : va_G) (cI cZ : ClassId) (ad : Nat → Nat) (a1 : Int32) : oz_MI l yX0_lent wsX0_lent rmX0_lent D cI cZ RX0 0 oz_KSX0 ad oz_lyX0 1 [.ref (ad 0), .int a1] (FX0_lent a1) := by
  refine oz_ofI (wn := RX0) (bytes := cX0_lent) (maxL := 4) (ret := (some .int)) (T := TX0) (N := 19) (by decide) rfl rfl oz_CX0 hst (Nat.le_of_ble_eq_true rfl) ?_
  intro p e s m below meth c st A res G hr X
  have tk1 : Cond.classLink RX0 79 (oz_exn 1) ∈ wsX0_lent := by decide +kernel
  have ti1 : Cond.initialized (oz_exn 1) ∈ wsX0_lent := by decide +kernel
  have tg1 : ∀ w ∈ (vx_atS RX0 83 (oz_exn 1) oz_names).filter goodWord, w ∈ wsX0_lent := fun w h => List.mem_cons_of_mem _ (List.mem_append_right _ h)
  show G 0 0 [(0, .ref (ad 0)), (1, .int a1)] [] st (FX0_lent a1 st)
  unfold FX0_lent
  refine oz_iload_n X dX0_lent_0 rfl 1 rfl ?_
  refine oz_callS X rfl (As := [.int a1]) (S := []) (mX0_isProcessN l hst D cI cZ ad a1) gX0_lent_X0_isProcess rfl rfl rfl hX0_isProcessN ⟨by decide, by decide⟩ rfl rfl (Nat.le_of_ble_eq_true rfl) dX0_lent_1 (by omega) (by decide) (by decide) (fun r1 s1 => ?_)
  refine oz_if_ne X (tgt := 17) dX0_lent_4 (by decide) (fun q2 => ?_) (fun q2 => ?_)
  · exact oz_none X
  · exact oz_throw X rfl 1 (text := "no such process") (by decide) (oz_KSX0_81) (by decide +kernel) tk1 ti1 tg1 oz_tbX0_1 oz_twX0_1 dX0_lent_7 dX0_lent_10 dX0_lent_11 dX0_lent_13 dX0_lent_16 (by decide) (by decide) (by omega) (by decide) (by decide)

/-! AlmsKernel.stateOf -/
def FX0_stateOf (a1 : Int32) (st : Int32) : Option RC := bnd (FX0_isProcessN a1 st) (fun r1 s1 => (if r1 = 0 then some (1, 0, bump s1) else none))
def rmX0_stateOf : Room := { frames := 6, cells := 1, slots := 6, locals := 86 }
theorem hX0_stateOf : yX0_stateOf.cls = RX0 ∧ yX0_stateOf.cls ≠ "java/lang/invoke/MethodHandle" ∧ yX0_stateOf.cls ≠ "java/lang/invoke/VarHandle" ∧ (parseMethodDescriptor yX0_stateOf.desc).map (fun d => d.parameters.length) = some 1 := by decide +kernel
set_option maxHeartbeats 4000000 in
set_option maxRecDepth 100000 in
theorem mX0_stateOf (l : Launch) (hst : l.stackTraces = false) (D : va_G) (cI cZ : ClassId) (ad : Nat → Nat) (a1 : Int32) : oz_MI l yX0_stateOf wsX0_stateOf rmX0_stateOf D cI cZ RX0 0 oz_KSX0 ad oz_lyX0 1 [.ref (ad 0), .int a1] (FX0_stateOf a1) := by
  refine oz_ofI (wn := RX0) (bytes := cX0_stateOf) (maxL := 2) (ret := (some .int)) (T := TX0) (N := 19) (by decide) rfl rfl oz_CX0 hst (Nat.le_of_ble_eq_true rfl) ?_
  intro p e s m below meth c st A res G hr X
  have tk1 : Cond.classLink RX0 79 (oz_exn 1) ∈ wsX0_stateOf := by decide +kernel
  have ti1 : Cond.initialized (oz_exn 1) ∈ wsX0_stateOf := by decide +kernel
  have tg1 : ∀ w ∈ (vx_atS RX0 83 (oz_exn 1) oz_names).filter goodWord, w ∈ wsX0_stateOf := fun w h => List.mem_cons_of_mem _ (List.mem_append_right _ h)
  show G 0 0 [(0, .ref (ad 0)), (1, .int a1)] [] st (FX0_stateOf a1 st)
  unfold FX0_stateOf
  refine oz_iload_n X dX0_stateOf_0 rfl 1 rfl ?_
  refine oz_callS X rfl (As := [.int a1]) (S := []) (mX0_isProcessN l hst D cI cZ ad a1) gX0_stateOf_X0_isProcess rfl rfl rfl hX0_isProcessN ⟨by decide, by decide⟩ rfl rfl (Nat.le_of_ble_eq_true rfl) dX0_stateOf_1 (by omega) (by decide) (by decide) (fun r1 s1 => ?_)
  refine oz_if_ne X (tgt := 17) dX0_stateOf_4 (by decide) (fun q2 => ?_) (fun q2 => ?_)
  · exact oz_none X
  · exact oz_throw X rfl 1 (text := "no such process") (by decide) (oz_KSX0_81) (by decide +kernel) tk1 ti1 tg1 oz_tbX0_1 oz_twX0_1 dX0_stateOf_7 dX0_stateOf_10 dX0_stateOf_11 dX0_stateOf_13 dX0_stateOf_16 (by decide) (by decide) (by omega) (by decide) (by decide)

/-! AlmsKernel.purse -/
def FX0_purse (a1 : Int32) (st : Int32) : Option RC := bnd (FX0_isProcessN a1 st) (fun r1 s1 => (if r1 = 0 then some (1, 0, bump s1) else none))
def rmX0_purse : Room := { frames := 6, cells := 1, slots := 6, locals := 86 }
theorem hX0_purse : yX0_purse.cls = RX0 ∧ yX0_purse.cls ≠ "java/lang/invoke/MethodHandle" ∧ yX0_purse.cls ≠ "java/lang/invoke/VarHandle" ∧ (parseMethodDescriptor yX0_purse.desc).map (fun d => d.parameters.length) = some 1 := by decide +kernel
set_option maxHeartbeats 4000000 in
set_option maxRecDepth 100000 in
theorem mX0_purse (l : Launch) (hst : l.stackTraces = false) (D : va_G) (cI cZ : ClassId) (ad : Nat → Nat) (a1 : Int32) : oz_MI l yX0_purse wsX0_purse rmX0_purse D cI cZ RX0 0 oz_KSX0 ad oz_lyX0 1 [.ref (ad 0), .int a1] (FX0_purse a1) := by
  refine oz_ofI (wn := RX0) (bytes := cX0_purse) (maxL := 2) (ret := (some .int)) (T := TX0) (N := 19) (by decide) rfl rfl oz_CX0 hst (Nat.le_of_ble_eq_true rfl) ?_
  intro p e s m below meth c st A res G hr X
  have tk1 : Cond.classLink RX0 79 (oz_exn 1) ∈ wsX0_purse := by decide +kernel
  have ti1 : Cond.initialized (oz_exn 1) ∈ wsX0_purse := by decide +kernel
  have tg1 : ∀ w ∈ (vx_atS RX0 83 (oz_exn 1) oz_names).filter goodWord, w ∈ wsX0_purse := fun w h => List.mem_cons_of_mem _ (List.mem_append_right _ h)
  show G 0 0 [(0, .ref (ad 0)), (1, .int a1)] [] st (FX0_purse a1 st)
  unfold FX0_purse
  refine oz_iload_n X dX0_purse_0 rfl 1 rfl ?_
  refine oz_callS X rfl (As := [.int a1]) (S := []) (mX0_isProcessN l hst D cI cZ ad a1) gX0_purse_X0_isProcess rfl rfl rfl hX0_isProcessN ⟨by decide, by decide⟩ rfl rfl (Nat.le_of_ble_eq_true rfl) dX0_purse_1 (by omega) (by decide) (by decide) (fun r1 s1 => ?_)
  refine oz_if_ne X (tgt := 17) dX0_purse_4 (by decide) (fun q2 => ?_) (fun q2 => ?_)
  · exact oz_none X
  · exact oz_throw X rfl 1 (text := "no such process") (by decide) (oz_KSX0_81) (by decide +kernel) tk1 ti1 tg1 oz_tbX0_1 oz_twX0_1 dX0_purse_7 dX0_purse_10 dX0_purse_11 dX0_purse_13 dX0_purse_16 (by decide) (by decide) (by omega) (by decide) (by decide)

/-! AlmsKernel.faults -/
def FX0_faults (a1 : Int32) (st : Int32) : Option RC := bnd (FX0_isProcessN a1 st) (fun r1 s1 => (if r1 = 0 then some (1, 0, bump s1) else none))
def rmX0_faults : Room := { frames := 6, cells := 1, slots := 6, locals := 86 }
theorem hX0_faults : yX0_faults.cls = RX0 ∧ yX0_faults.cls ≠ "java/lang/invoke/MethodHandle" ∧ yX0_faults.cls ≠ "java/lang/invoke/VarHandle" ∧ (parseMethodDescriptor yX0_faults.desc).map (fun d => d.parameters.length) = some 1 := by decide +kernel
set_option maxHeartbeats 4000000 in
set_option maxRecDepth 100000 in
theorem mX0_faults (l : Launch) (hst : l.stackTraces = false) (D : va_G) (cI cZ : ClassId) (ad : Nat → Nat) (a1 : Int32) : oz_MI l yX0_faults wsX0_faults rmX0_faults D cI cZ RX0 0 oz_KSX0 ad oz_lyX0 1 [.ref (ad 0), .int a1] (FX0_faults a1) := by
  refine oz_ofI (wn := RX0) (bytes := cX0_faults) (maxL := 2) (ret := (some .int)) (T := TX0) (N := 19) (by decide) rfl rfl oz_CX0 hst (Nat.le_of_ble_eq_true rfl) ?_
  intro p e s m below meth c st A res G hr X
  have tk1 : Cond.classLink RX0 79 (oz_exn 1) ∈ wsX0_faults := by decide +kernel
  have ti1 : Cond.initialized (oz_exn 1) ∈ wsX0_faults := by decide +kernel
  have tg1 : ∀ w ∈ (vx_atS RX0 83 (oz_exn 1) oz_names).filter goodWord, w ∈ wsX0_faults := fun w h => List.mem_cons_of_mem _ (List.mem_append_right _ h)
  show G 0 0 [(0, .ref (ad 0)), (1, .int a1)] [] st (FX0_faults a1 st)
  unfold FX0_faults
  refine oz_iload_n X dX0_faults_0 rfl 1 rfl ?_
  refine oz_callS X rfl (As := [.int a1]) (S := []) (mX0_isProcessN l hst D cI cZ ad a1) gX0_faults_X0_isProcess rfl rfl rfl hX0_isProcessN ⟨by decide, by decide⟩ rfl rfl (Nat.le_of_ble_eq_true rfl) dX0_faults_1 (by omega) (by decide) (by decide) (fun r1 s1 => ?_)
  refine oz_if_ne X (tgt := 17) dX0_faults_4 (by decide) (fun q2 => ?_) (fun q2 => ?_)
  · exact oz_none X
  · exact oz_throw X rfl 1 (text := "no such process") (by decide) (oz_KSX0_81) (by decide +kernel) tk1 ti1 tg1 oz_tbX0_1 oz_twX0_1 dX0_faults_7 dX0_faults_10 dX0_faults_11 dX0_faults_13 dX0_faults_16 (by decide) (by decide) (by omega) (by decide) (by decide)

/-! AlmsKernel.lasts -/
def FX0_lasts (a1 : Int32) (st : Int32) : Option RC := bnd (FX0_isLoanN a1 st) (fun r1 s1 => (if r1 = 0 then some (1, 0, bump s1) else none))
def rmX0_lasts : Room := { frames := 6, cells := 1, slots := 6, locals := 86 }
theorem hX0_lasts : yX0_lasts.cls = RX0 ∧ yX0_lasts.cls ≠ "java/lang/invoke/MethodHandle" ∧ yX0_lasts.cls ≠ "java/lang/invoke/VarHandle" ∧ (parseMethodDescriptor yX0_lasts.desc).map (fun d => d.parameters.length) = some 1 := by decide +kernel
set_option maxHeartbeats 4000000 in
set_option maxRecDepth 100000 in
theorem mX0_lasts (l : Launch) (hst : l.stackTraces = false) (D : va_G) (cI cZ : ClassId) (ad : Nat → Nat) (a1 : Int32) : oz_MI l yX0_lasts wsX0_lasts rmX0_lasts D cI cZ RX0 0 oz_KSX0 ad oz_lyX0 1 [.ref (ad 0), .int a1] (FX0_lasts a1) := by
  refine oz_ofI (wn := RX0) (bytes := cX0_lasts) (maxL := 2) (ret := (some .boolean)) (T := TX0) (N := 19) (by decide) rfl rfl oz_CX0 hst (Nat.le_of_ble_eq_true rfl) ?_
  intro p e s m below meth c st A res G hr X
  have tk1 : Cond.classLink RX0 79 (oz_exn 1) ∈ wsX0_lasts := by decide +kernel
  have ti1 : Cond.initialized (oz_exn 1) ∈ wsX0_lasts := by decide +kernel
  have tg1 : ∀ w ∈ (vx_atS RX0 83 (oz_exn 1) oz_names).filter goodWord, w ∈ wsX0_lasts := fun w h => List.mem_cons_of_mem _ (List.mem_append_right _ h)
  show G 0 0 [(0, .ref (ad 0)), (1, .int a1)] [] st (FX0_lasts a1 st)
  unfold FX0_lasts
  refine oz_aload_n X dX0_lasts_0 rfl 0 rfl ?_
  refine oz_iload_n X dX0_lasts_1 rfl 1 rfl ?_
  refine oz_callV X rfl (As := [.int a1]) (S := []) (mX0_isLoanN l hst D cI cZ ad a1) gX0_lasts_X0_isLoan rfl rfl rfl hX0_isLoanN ⟨by decide, by decide⟩ rfl rfl (Nat.le_of_ble_eq_true rfl) dX0_lasts_2 (by omega) (by decide) (by decide) (fun r1 s1 => ?_)
  refine oz_if_ne X (tgt := 18) dX0_lasts_5 (by decide) (fun q2 => ?_) (fun q2 => ?_)
  · exact oz_none X
  · exact oz_throw X rfl 1 (text := "no such loan") (by decide) (oz_KSX0_138) (by decide +kernel) tk1 ti1 tg1 oz_tbX0_1 oz_twX0_1 dX0_lasts_8 dX0_lasts_11 dX0_lasts_12 dX0_lasts_14 dX0_lasts_17 (by decide) (by decide) (by omega) (by decide) (by decide)

/-! AlmsKernel.partiesOf -/
def FX0_partiesOf (a1 : Int32) (st : Int32) : Option RC := bnd (FX0_isLoanN a1 st) (fun r1 s1 => (if r1 = 0 then some (1, 0, bump s1) else none))
def rmX0_partiesOf : Room := { frames := 6, cells := 1, slots := 6, locals := 86 }
theorem hX0_partiesOf : yX0_partiesOf.cls = RX0 ∧ yX0_partiesOf.cls ≠ "java/lang/invoke/MethodHandle" ∧ yX0_partiesOf.cls ≠ "java/lang/invoke/VarHandle" ∧ (parseMethodDescriptor yX0_partiesOf.desc).map (fun d => d.parameters.length) = some 1 := by decide +kernel
set_option maxHeartbeats 4000000 in
set_option maxRecDepth 100000 in
theorem mX0_partiesOf (l : Launch) (hst : l.stackTraces = false) (D : va_G) (cI cZ : ClassId) (ad : Nat → Nat) (a1 : Int32) : oz_MI l yX0_partiesOf wsX0_partiesOf rmX0_partiesOf D cI cZ RX0 0 oz_KSX0 ad oz_lyX0 1 [.ref (ad 0), .int a1] (FX0_partiesOf a1) := by
  refine oz_ofI (wn := RX0) (bytes := cX0_partiesOf) (maxL := 2) (ret := (some .int)) (T := TX0) (N := 19) (by decide) rfl rfl oz_CX0 hst (Nat.le_of_ble_eq_true rfl) ?_
  intro p e s m below meth c st A res G hr X
  have tk1 : Cond.classLink RX0 79 (oz_exn 1) ∈ wsX0_partiesOf := by decide +kernel
  have ti1 : Cond.initialized (oz_exn 1) ∈ wsX0_partiesOf := by decide +kernel
  have tg1 : ∀ w ∈ (vx_atS RX0 83 (oz_exn 1) oz_names).filter goodWord, w ∈ wsX0_partiesOf := fun w h => List.mem_cons_of_mem _ (List.mem_append_right _ h)
  show G 0 0 [(0, .ref (ad 0)), (1, .int a1)] [] st (FX0_partiesOf a1 st)
  unfold FX0_partiesOf
  refine oz_aload_n X dX0_partiesOf_0 rfl 0 rfl ?_
  refine oz_iload_n X dX0_partiesOf_1 rfl 1 rfl ?_
  refine oz_callV X rfl (As := [.int a1]) (S := []) (mX0_isLoanN l hst D cI cZ ad a1) gX0_partiesOf_X0_isLoan rfl rfl rfl hX0_isLoanN ⟨by decide, by decide⟩ rfl rfl (Nat.le_of_ble_eq_true rfl) dX0_partiesOf_2 (by omega) (by decide) (by decide) (fun r1 s1 => ?_)
  refine oz_if_ne X (tgt := 18) dX0_partiesOf_5 (by decide) (fun q2 => ?_) (fun q2 => ?_)
  · exact oz_none X
  · exact oz_throw X rfl 1 (text := "no such loan") (by decide) (oz_KSX0_138) (by decide +kernel) tk1 ti1 tg1 oz_tbX0_1 oz_twX0_1 dX0_partiesOf_8 dX0_partiesOf_11 dX0_partiesOf_12 dX0_partiesOf_14 dX0_partiesOf_17 (by decide) (by decide) (by omega) (by decide) (by decide)

/-! AlmsKernel.interest -/
def FX0_interest (a1 : Int32) (st : Int32) : Option RC := bnd (FX0_isLoanN a1 st) (fun r1 s1 => (if r1 = 0 then some (1, 0, bump s1) else none))
def rmX0_interest : Room := { frames := 6, cells := 1, slots := 6, locals := 86 }
theorem hX0_interest : yX0_interest.cls = RX0 ∧ yX0_interest.cls ≠ "java/lang/invoke/MethodHandle" ∧ yX0_interest.cls ≠ "java/lang/invoke/VarHandle" ∧ (parseMethodDescriptor yX0_interest.desc).map (fun d => d.parameters.length) = some 1 := by decide +kernel
set_option maxHeartbeats 4000000 in
set_option maxRecDepth 100000 in
theorem mX0_interest (l : Launch) (hst : l.stackTraces = false) (D : va_G) (cI cZ : ClassId) (ad : Nat → Nat) (a1 : Int32) : oz_MI l yX0_interest wsX0_interest rmX0_interest D cI cZ RX0 0 oz_KSX0 ad oz_lyX0 1 [.ref (ad 0), .int a1] (FX0_interest a1) := by
  refine oz_ofI (wn := RX0) (bytes := cX0_interest) (maxL := 2) (ret := (some .int)) (T := TX0) (N := 19) (by decide) rfl rfl oz_CX0 hst (Nat.le_of_ble_eq_true rfl) ?_
  intro p e s m below meth c st A res G hr X
  have tk1 : Cond.classLink RX0 79 (oz_exn 1) ∈ wsX0_interest := by decide +kernel
  have ti1 : Cond.initialized (oz_exn 1) ∈ wsX0_interest := by decide +kernel
  have tg1 : ∀ w ∈ (vx_atS RX0 83 (oz_exn 1) oz_names).filter goodWord, w ∈ wsX0_interest := fun w h => List.mem_cons_of_mem _ (List.mem_append_right _ h)
  show G 0 0 [(0, .ref (ad 0)), (1, .int a1)] [] st (FX0_interest a1 st)
  unfold FX0_interest
  refine oz_aload_n X dX0_interest_0 rfl 0 rfl ?_
  refine oz_iload_n X dX0_interest_1 rfl 1 rfl ?_
  refine oz_callV X rfl (As := [.int a1]) (S := []) (mX0_isLoanN l hst D cI cZ ad a1) gX0_interest_X0_isLoan rfl rfl rfl hX0_isLoanN ⟨by decide, by decide⟩ rfl rfl (Nat.le_of_ble_eq_true rfl) dX0_interest_2 (by omega) (by decide) (by decide) (fun r1 s1 => ?_)
  refine oz_if_ne X (tgt := 18) dX0_interest_5 (by decide) (fun q2 => ?_) (fun q2 => ?_)
  · exact oz_none X
  · exact oz_throw X rfl 1 (text := "no such loan") (by decide) (oz_KSX0_138) (by decide +kernel) tk1 ti1 tg1 oz_tbX0_1 oz_twX0_1 dX0_interest_8 dX0_interest_11 dX0_interest_12 dX0_interest_14 dX0_interest_17 (by decide) (by decide) (by omega) (by decide) (by decide)

/-! AlmsKernel.requestAt -/
def FX0_requestAt (a1 : Int32) (st : Int32) : Option RC := (if 0 ≤ a1 then none else some (1, 0, bump st))
def rmX0_requestAt : Room := { frames := 6, cells := 1, slots := 6, locals := 86 }
theorem hX0_requestAt : yX0_requestAt.cls = RX0 ∧ yX0_requestAt.cls ≠ "java/lang/invoke/MethodHandle" ∧ yX0_requestAt.cls ≠ "java/lang/invoke/VarHandle" ∧ (parseMethodDescriptor yX0_requestAt.desc).map (fun d => d.parameters.length) = some 1 := by decide +kernel
set_option maxHeartbeats 4000000 in
set_option maxRecDepth 100000 in
theorem mX0_requestAt (l : Launch) (hst : l.stackTraces = false) (D : va_G) (cI cZ : ClassId) (ad : Nat → Nat) (a1 : Int32) : oz_MI l yX0_requestAt wsX0_requestAt rmX0_requestAt D cI cZ RX0 0 oz_KSX0 ad oz_lyX0 1 [.ref (ad 0), .int a1] (FX0_requestAt a1) := by
  refine oz_ofI (wn := RX0) (bytes := cX0_requestAt) (maxL := 4) (ret := (some .int)) (T := TX0) (N := 19) (by decide) rfl rfl oz_CX0 hst (Nat.le_of_ble_eq_true rfl) ?_
  intro p e s m below meth c st A res G hr X
  have tk1 : Cond.classLink RX0 79 (oz_exn 1) ∈ wsX0_requestAt := by decide +kernel
  have ti1 : Cond.initialized (oz_exn 1) ∈ wsX0_requestAt := by decide +kernel
  have tg1 : ∀ w ∈ (vx_atS RX0 83 (oz_exn 1) oz_names).filter goodWord, w ∈ wsX0_requestAt := fun w h => List.mem_cons_of_mem _ (List.mem_append_right _ h)
  show G 0 0 [(0, .ref (ad 0)), (1, .int a1)] [] st (FX0_requestAt a1 st)
  unfold FX0_requestAt
  refine oz_iload_n X dX0_requestAt_0 rfl 1 rfl ?_
  refine oz_if_ge X (tgt := 14) dX0_requestAt_1 (by decide) (fun q1 => ?_) (fun q1 => ?_)
  · exact oz_none X
  · exact oz_throw X rfl 1 (text := "place is below 0") (by decide) (oz_KSX0_162) (by decide +kernel) tk1 ti1 tg1 oz_tbX0_1 oz_twX0_1 dX0_requestAt_4 dX0_requestAt_7 dX0_requestAt_8 dX0_requestAt_10 dX0_requestAt_13 (by decide) (by decide) (by omega) (by decide) (by decide)

/-! AlmsKernel.free -/
def FX0_freeN_w4 : Nat → Int32 → Int32 → Int32 → Option RC
  | 0, _, _, _ => none
  | n + 1, x1, x2, st => (if 12 ≤ x2 then some (0, x1, st) else gd (oz_in x2 12) ((if FX 5 x2.toNatClampNeg = (-1) then (FX0_freeN_w4 n (x1 + 1) (x2 + 1) st) else none)))
def FX0_freeN (st : Int32) : Option RC := (FX0_freeN_w4 62 0 0 st)
def rmX0_freeN : Room := { frames := 0, cells := 0, slots := 0, locals := 0 }
theorem hX0_freeN : yX0_free.cls = RX0 ∧ yX0_free.cls ≠ "java/lang/invoke/MethodHandle" ∧ yX0_free.cls ≠ "java/lang/invoke/VarHandle" ∧ (parseMethodDescriptor yX0_free.desc).map (fun d => d.parameters.length) = some 0 := by decide +kernel
theorem lkX0_freeN_22 : Cond.fieldLink RX0 22 RX0 (TX0 4).2.1 (TX0 4).2.2.1 ∈ wsX0_free := by decide +kernel
set_option maxHeartbeats 4000000 in
set_option maxRecDepth 100000 in
theorem mX0_freeN (l : Launch) (hst : l.stackTraces = false) (D : va_G) (cI cZ : ClassId) (ad : Nat → Nat) : oz_MI l yX0_free wsX0_free rmX0_freeN D cI cZ RX0 0 oz_KSX0 ad oz_lyX0 0 [.ref (ad 0)] (FX0_freeN) := by
  refine oz_ofI (wn := RX0) (bytes := cX0_free) (maxL := 3) (ret := (some .int)) (T := TX0) (N := 19) (by decide) rfl rfl oz_CX0 hst (Nat.le_of_ble_eq_true rfl) ?_
  intro p e s m below meth c st A res G hr X
  have hin : ∀ w ∈ u_ws RX0 TX0 19, w ∈ wsX0_free := fun w h => List.mem_cons_of_mem _ (List.mem_append_right _ h)
  have lk22 := lkX0_freeN_22
  have hc4 : ∀ (n k : Nat), k ≤ 0 → ∀ (x1 : Int32) (x2 : Int32) (st : Int32), G k 4 [(0, .ref (ad 0)), (1, .int x1), (2, .int x2)] [] st (FX0_freeN_w4 n x1 x2 st) := by
    intro n
    induction n with
    | zero => intros; exact oz_none X
    | succ n ih =>
      intro k hk x1 x2 st
      rw [FX0_freeN_w4]
      refine oz_iload_n X dX0_free_4 rfl 2 rfl ?_
      refine oz_bipush X (v := 12) dX0_free_5 (by decide) ?_
      refine oz_icmp_ge X (tgt := 29) dX0_free_7 (by decide) (fun q2 => ?_) (fun q2 => ?_)
      · refine oz_iload_n X dX0_free_29 rfl 1 rfl ?_
        exact oz_iret X rfl hr (by omega) dX0_free_30
      · refine oz_aload_n X dX0_free_10 rfl 0 rfl ?_
        refine oz_getA X hin (j := 4) rfl lk22 dX0_free_11 ?_
        refine oz_iload_n X dX0_free_14 rfl 2 rfl ?_
        refine oz_iald X (j := 4) rfl (by decide) dX0_free_15 (fun g3 => ?_)
        refine oz_iconst X (v := (-1)) dX0_free_16 (by decide) ?_
        refine oz_icmp_ne X (tgt := 23) dX0_free_17 (by decide) (fun q4 => ?_) (fun q4 => ?_)
        · exact oz_none X
        · refine oz_iinc X (q := 1) (v := x1 + 1) (L2 := [(1, .int (x1 + 1)), (0, .ref (ad 0)), (2, .int x2)]) dX0_free_20 rfl rfl (by decide) rfl ?_
          refine oz_iinc X (q := 2) (v := x2 + 1) (L2 := [(2, .int (x2 + 1)), (1, .int (x1 + 1)), (0, .ref (ad 0))]) dX0_free_23 rfl rfl (by decide) rfl ?_
          refine oz_goto X (tgt := 4) dX0_free_26 (by decide) ?_
          exact oz_sub X [2, 1, 0] (L2 := [(0, .ref (ad 0)), (1, .int (x1 + 1)), (2, .int (x2 + 1))]) rfl (ih _ (by omega) (x1 + 1) (x2 + 1) st)
  show G 0 0 [(0, .ref (ad 0))] [] st (FX0_freeN st)
  unfold FX0_freeN
  refine oz_iconst X (v := 0) dX0_free_0 (by decide) ?_
  refine oz_istore_n X (L2 := [(1, .int 0), (0, .ref (ad 0))]) dX0_free_1 rfl (by decide) rfl ?_
  refine oz_iconst X (v := 0) dX0_free_2 (by decide) ?_
  refine oz_istore_n X (L2 := [(2, .int 0), (1, .int 0), (0, .ref (ad 0))]) dX0_free_3 rfl (by decide) rfl ?_
  exact oz_sub X [2, 1, 0] (L2 := [(0, .ref (ad 0)), (1, .int 0), (2, .int 0)]) rfl (hc4 62 _ (by omega) 0 0 st)

/-! AlmsKernel.holderByLog -/
def FX0_holderByLogN (a1 : Int32) (st : Int32) : Option RC := bnd (FX0_isFrameN a1 st) (fun r1 s1 => (if r1 = 0 then none else (if 60 ≤ (0 : Int32) then none else (if FX 0 14 ≤ 0 then gd (oz_in a1 12) (some (0, FX 5 a1.toNatClampNeg, s1)) else none))))
def rmX0_holderByLogN : Room := { frames := 1, cells := 0, slots := 0, locals := 20 }
theorem hX0_holderByLogN : yX0_holderByLog.cls = RX0 ∧ yX0_holderByLog.cls ≠ "java/lang/invoke/MethodHandle" ∧ yX0_holderByLog.cls ≠ "java/lang/invoke/VarHandle" ∧ (parseMethodDescriptor yX0_holderByLog.desc).map (fun d => d.parameters.length) = some 1 := by decide +kernel
theorem lkX0_holderByLogN_22 : Cond.fieldLink RX0 22 RX0 (TX0 4).2.1 (TX0 4).2.2.1 ∈ wsX0_holderByLog := by decide +kernel
theorem lkX0_holderByLogN_53 : Cond.fieldLink RX0 53 RX0 (TX0 14).2.1 (TX0 14).2.2.1 ∈ wsX0_holderByLog := by decide +kernel
set_option maxHeartbeats 4000000 in
set_option maxRecDepth 100000 in
theorem mX0_holderByLogN (l : Launch) (hst : l.stackTraces = false) (D : va_G) (cI cZ : ClassId) (ad : Nat → Nat) (a1 : Int32) : oz_MI l yX0_holderByLog wsX0_holderByLog rmX0_holderByLogN D cI cZ RX0 0 oz_KSX0 ad oz_lyX0 0 [.ref (ad 0), .int a1] (FX0_holderByLogN a1) := by
  refine oz_ofI (wn := RX0) (bytes := cX0_holderByLog) (maxL := 3) (ret := (some .int)) (T := TX0) (N := 19) (by decide) rfl rfl oz_CX0 hst (Nat.le_of_ble_eq_true rfl) ?_
  intro p e s m below meth c st A res G hr X
  have hin : ∀ w ∈ u_ws RX0 TX0 19, w ∈ wsX0_holderByLog := fun w h => List.mem_cons_of_mem _ (List.mem_append_left _ (List.mem_append_right _ h))
  have lk22 := lkX0_holderByLogN_22
  have lk53 := lkX0_holderByLogN_53
  show G 0 0 [(0, .ref (ad 0)), (1, .int a1)] [] st (FX0_holderByLogN a1 st)
  unfold FX0_holderByLogN
  refine oz_iload_n X dX0_holderByLog_0 rfl 1 rfl ?_
  refine oz_callS X rfl (As := [.int a1]) (S := []) (mX0_isFrameN l hst D cI cZ ad a1) gX0_holderByLog_X0_isFrame rfl rfl rfl hX0_isFrameN ⟨by decide, by decide⟩ rfl rfl (Nat.le_of_ble_eq_true rfl) dX0_holderByLog_1 (by omega) (by decide) (by decide) (fun r1 s1 => ?_)
  refine oz_if_ne X (tgt := 17) dX0_holderByLog_4 (by decide) (fun q2 => ?_) (fun q2 => ?_)
  · refine oz_iconst X (v := 0) dX0_holderByLog_17 (by decide) ?_
    refine oz_istore_n X (L2 := [(2, .int 0), (0, .ref (ad 0)), (1, .int a1)]) dX0_holderByLog_18 rfl (by decide) rfl ?_
    refine oz_iload_n X dX0_holderByLog_19 rfl 0 rfl ?_
    refine oz_bipush X (v := 60) dX0_holderByLog_20 (by decide) ?_
    refine oz_icmp_ge X (tgt := 65) dX0_holderByLog_22 (by decide) (fun q3 => ?_) (fun q3 => ?_)
    · exact oz_none X
    · refine oz_iload_n X dX0_holderByLog_25 rfl 0 rfl ?_
      refine oz_aload_n X dX0_holderByLog_26 rfl 1 rfl ?_
      refine oz_getS X hin (j := 14) rfl lk53 dX0_holderByLog_27 ?_
      refine oz_icmp_ge X (tgt := 65) dX0_holderByLog_30 (by decide) (fun q4 => ?_) (fun q4 => ?_)
      · refine oz_aload_n X dX0_holderByLog_65 rfl 1 rfl ?_
        refine oz_getA X hin (j := 4) rfl lk22 dX0_holderByLog_66 ?_
        refine oz_iload_n X dX0_holderByLog_69 rfl 2 rfl ?_
        refine oz_iald X (j := 4) rfl (by decide) dX0_holderByLog_70 (fun g5 => ?_)
        exact oz_iret X rfl hr (by omega) dX0_holderByLog_71
      · exact oz_none X
  · exact oz_none X

/-! AlmsKernel.owns -/
def FX0_ownsN_w21 : Nat → Int32 → Int32 → Int32 → Int32 → Option RC
  | 0, _, _, _, _ => none
  | n + 1, x1, x2, x3, st => (if 12 ≤ x3 then some (0, x2, st) else gd (oz_in x3 12) ((if FX 5 x3.toNatClampNeg = x1 then none else (FX0_ownsN_w21 n x1 x2 (x3 + 1) st))))
def FX0_ownsN (a1 : Int32) (st : Int32) : Option RC := bnd (FX0_isProcessN a1 st) (fun r5 s5 => (if r5 = 0 then none else (FX0_ownsN_w21 62 a1 0 0 s5)))
def rmX0_ownsN : Room := { frames := 1, cells := 0, slots := 0, locals := 20 }
theorem hX0_ownsN : yX0_owns.cls = RX0 ∧ yX0_owns.cls ≠ "java/lang/invoke/MethodHandle" ∧ yX0_owns.cls ≠ "java/lang/invoke/VarHandle" ∧ (parseMethodDescriptor yX0_owns.desc).map (fun d => d.parameters.length) = some 1 := by decide +kernel
theorem lkX0_ownsN_22 : Cond.fieldLink RX0 22 RX0 (TX0 4).2.1 (TX0 4).2.2.1 ∈ wsX0_owns := by decide +kernel
set_option maxHeartbeats 4000000 in
set_option maxRecDepth 100000 in
theorem mX0_ownsN (l : Launch) (hst : l.stackTraces = false) (D : va_G) (cI cZ : ClassId) (ad : Nat → Nat) (a1 : Int32) : oz_MI l yX0_owns wsX0_owns rmX0_ownsN D cI cZ RX0 0 oz_KSX0 ad oz_lyX0 0 [.ref (ad 0), .int a1] (FX0_ownsN a1) := by
  refine oz_ofI (wn := RX0) (bytes := cX0_owns) (maxL := 4) (ret := (some .int)) (T := TX0) (N := 19) (by decide) rfl rfl oz_CX0 hst (Nat.le_of_ble_eq_true rfl) ?_
  intro p e s m below meth c st A res G hr X
  have hin : ∀ w ∈ u_ws RX0 TX0 19, w ∈ wsX0_owns := fun w h => List.mem_cons_of_mem _ (List.mem_append_left _ (List.mem_append_right _ h))
  have lk22 := lkX0_ownsN_22
  have hc21 : ∀ (n k : Nat), k ≤ 0 → ∀ (x1 : Int32) (x2 : Int32) (x3 : Int32) (st : Int32), G k 21 [(0, .ref (ad 0)), (1, .int x1), (2, .int x2), (3, .int x3)] [] st (FX0_ownsN_w21 n x1 x2 x3 st) := by
    intro n
    induction n with
    | zero => intros; exact oz_none X
    | succ n ih =>
      intro k hk x1 x2 x3 st
      rw [FX0_ownsN_w21]
      refine oz_iload_n X dX0_owns_21 rfl 3 rfl ?_
      refine oz_bipush X (v := 12) dX0_owns_22 (by decide) ?_
      refine oz_icmp_ge X (tgt := 46) dX0_owns_24 (by decide) (fun q2 => ?_) (fun q2 => ?_)
      · refine oz_iload_n X dX0_owns_46 rfl 2 rfl ?_
        exact oz_iret X rfl hr (by omega) dX0_owns_47
      · refine oz_aload_n X dX0_owns_27 rfl 0 rfl ?_
        refine oz_getA X hin (j := 4) rfl lk22 dX0_owns_28 ?_
        refine oz_iload_n X dX0_owns_31 rfl 3 rfl ?_
        refine oz_iald X (j := 4) rfl (by decide) dX0_owns_32 (fun g3 => ?_)
        refine oz_iload_n X dX0_owns_33 rfl 1 rfl ?_
        refine oz_icmp_ne X (tgt := 40) dX0_owns_34 (by decide) (fun q4 => ?_) (fun q4 => ?_)
        · refine oz_iinc X (q := 3) (v := x3 + 1) (L2 := [(3, .int (x3 + 1)), (0, .ref (ad 0)), (1, .int x1), (2, .int x2)]) dX0_owns_40 rfl rfl (by decide) rfl ?_
          refine oz_goto X (tgt := 21) dX0_owns_43 (by decide) ?_
          exact oz_sub X [1, 2, 3, 0] (L2 := [(0, .ref (ad 0)), (1, .int x1), (2, .int x2), (3, .int (x3 + 1))]) rfl (ih _ (by omega) x1 x2 (x3 + 1) st)
        · exact oz_none X
  show G 0 0 [(0, .ref (ad 0)), (1, .int a1)] [] st (FX0_ownsN a1 st)
  unfold FX0_ownsN
  refine oz_iload_n X dX0_owns_0 rfl 1 rfl ?_
  refine oz_callS X rfl (As := [.int a1]) (S := []) (mX0_isProcessN l hst D cI cZ ad a1) gX0_owns_X0_isProcess rfl rfl rfl hX0_isProcessN ⟨by decide, by decide⟩ rfl rfl (Nat.le_of_ble_eq_true rfl) dX0_owns_1 (by omega) (by decide) (by decide) (fun r5 s5 => ?_)
  refine oz_if_ne X (tgt := 17) dX0_owns_4 (by decide) (fun q6 => ?_) (fun q6 => ?_)
  · refine oz_iconst X (v := 0) dX0_owns_17 (by decide) ?_
    refine oz_istore_n X (L2 := [(2, .int 0), (0, .ref (ad 0)), (1, .int a1)]) dX0_owns_18 rfl (by decide) rfl ?_
    refine oz_iconst X (v := 0) dX0_owns_19 (by decide) ?_
    refine oz_istore_n X (L2 := [(3, .int 0), (2, .int 0), (0, .ref (ad 0)), (1, .int a1)]) dX0_owns_20 rfl (by decide) rfl ?_
    exact oz_sub X [2, 3, 1, 0] (L2 := [(0, .ref (ad 0)), (1, .int a1), (2, .int 0), (3, .int 0)]) rfl (hc21 62 _ (by omega) a1 0 0 s5)
  · exact oz_none X

/-! AlmsKernel.countBorrowed -/
def FX0_countBorrowedN_w4 : Nat → Int32 → Int32 → Int32 → Int32 → Option RC
  | 0, _, _, _, _ => none
  | n + 1, x1, x2, x3, st => (if 12 ≤ x3 then some (0, x2, st) else gd (oz_in x3 12) ((if FX 6 x3.toNatClampNeg = x1 then none else (FX0_countBorrowedN_w4 n x1 x2 (x3 + 1) st))))
def FX0_countBorrowedN (a1 : Int32) (st : Int32) : Option RC := (FX0_countBorrowedN_w4 62 a1 0 0 st)
def rmX0_countBorrowedN : Room := { frames := 0, cells := 0, slots := 0, locals := 0 }
theorem hX0_countBorrowedN : yX0_countBorrowed.cls = RX0 ∧ yX0_countBorrowed.cls ≠ "java/lang/invoke/MethodHandle" ∧ yX0_countBorrowed.cls ≠ "java/lang/invoke/VarHandle" ∧ (parseMethodDescriptor yX0_countBorrowed.desc).map (fun d => d.parameters.length) = some 1 := by decide +kernel
theorem lkX0_countBorrowedN_25 : Cond.fieldLink RX0 25 RX0 (TX0 5).2.1 (TX0 5).2.2.1 ∈ wsX0_countBorrowed := by decide +kernel
set_option maxHeartbeats 4000000 in
set_option maxRecDepth 100000 in
theorem mX0_countBorrowedN (l : Launch) (hst : l.stackTraces = false) (D : va_G) (cI cZ : ClassId) (ad : Nat → Nat) (a1 : Int32) : oz_MI l yX0_countBorrowed wsX0_countBorrowed rmX0_countBorrowedN D cI cZ RX0 0 oz_KSX0 ad oz_lyX0 0 [.ref (ad 0), .int a1] (FX0_countBorrowedN a1) := by
  refine oz_ofI (wn := RX0) (bytes := cX0_countBorrowed) (maxL := 4) (ret := (some .int)) (T := TX0) (N := 19) (by decide) rfl rfl oz_CX0 hst (Nat.le_of_ble_eq_true rfl) ?_
  intro p e s m below meth c st A res G hr X
  have hin : ∀ w ∈ u_ws RX0 TX0 19, w ∈ wsX0_countBorrowed := fun w h => List.mem_cons_of_mem _ (List.mem_append_right _ h)
  have lk25 := lkX0_countBorrowedN_25
  have hc4 : ∀ (n k : Nat), k ≤ 0 → ∀ (x1 : Int32) (x2 : Int32) (x3 : Int32) (st : Int32), G k 4 [(0, .ref (ad 0)), (1, .int x1), (2, .int x2), (3, .int x3)] [] st (FX0_countBorrowedN_w4 n x1 x2 x3 st) := by
    intro n
    induction n with
    | zero => intros; exact oz_none X
    | succ n ih =>
      intro k hk x1 x2 x3 st
      rw [FX0_countBorrowedN_w4]
      refine oz_iload_n X dX0_countBorrowed_4 rfl 3 rfl ?_
      refine oz_bipush X (v := 12) dX0_countBorrowed_5 (by decide) ?_
      refine oz_icmp_ge X (tgt := 39) dX0_countBorrowed_7 (by decide) (fun q2 => ?_) (fun q2 => ?_)
      · refine oz_iload_n X dX0_countBorrowed_39 rfl 2 rfl ?_
        exact oz_iret X rfl hr (by omega) dX0_countBorrowed_40
      · refine oz_aload_n X dX0_countBorrowed_10 rfl 0 rfl ?_
        refine oz_getA X hin (j := 5) rfl lk25 dX0_countBorrowed_11 ?_
        refine oz_iload_n X dX0_countBorrowed_14 rfl 3 rfl ?_
        refine oz_iald X (j := 5) rfl (by decide) dX0_countBorrowed_15 (fun g3 => ?_)
        refine oz_iload_n X dX0_countBorrowed_16 rfl 1 rfl ?_
        refine oz_icmp_ne X (tgt := 33) dX0_countBorrowed_17 (by decide) (fun q4 => ?_) (fun q4 => ?_)
        · refine oz_iinc X (q := 3) (v := x3 + 1) (L2 := [(3, .int (x3 + 1)), (0, .ref (ad 0)), (1, .int x1), (2, .int x2)]) dX0_countBorrowed_33 rfl rfl (by decide) rfl ?_
          refine oz_goto X (tgt := 4) dX0_countBorrowed_36 (by decide) ?_
          exact oz_sub X [1, 2, 3, 0] (L2 := [(0, .ref (ad 0)), (1, .int x1), (2, .int x2), (3, .int (x3 + 1))]) rfl (ih _ (by omega) x1 x2 (x3 + 1) st)
        · exact oz_none X
  show G 0 0 [(0, .ref (ad 0)), (1, .int a1)] [] st (FX0_countBorrowedN a1 st)
  unfold FX0_countBorrowedN
  refine oz_iconst X (v := 0) dX0_countBorrowed_0 (by decide) ?_
  refine oz_istore_n X (L2 := [(2, .int 0), (0, .ref (ad 0)), (1, .int a1)]) dX0_countBorrowed_1 rfl (by decide) rfl ?_
  refine oz_iconst X (v := 0) dX0_countBorrowed_2 (by decide) ?_
  refine oz_istore_n X (L2 := [(3, .int 0), (2, .int 0), (0, .ref (ad 0)), (1, .int a1)]) dX0_countBorrowed_3 rfl (by decide) rfl ?_
  exact oz_sub X [2, 3, 1, 0] (L2 := [(0, .ref (ad 0)), (1, .int a1), (2, .int 0), (3, .int 0)]) rfl (hc4 62 _ (by omega) a1 0 0 st)

/-! AlmsKernel.borrowed -/
def FX0_borrowedN (a1 : Int32) (st : Int32) : Option RC := bnd (FX0_isProcessN a1 st) (fun r1 s1 => (if r1 = 0 then none else bnd (FX0_countBorrowedN a1 s1) (fun r3 s3 => some (0, r3, s3))))
def rmX0_borrowedN : Room := { frames := 1, cells := 0, slots := 0, locals := 23 }
theorem hX0_borrowedN : yX0_borrowed.cls = RX0 ∧ yX0_borrowed.cls ≠ "java/lang/invoke/MethodHandle" ∧ yX0_borrowed.cls ≠ "java/lang/invoke/VarHandle" ∧ (parseMethodDescriptor yX0_borrowed.desc).map (fun d => d.parameters.length) = some 1 := by decide +kernel
set_option maxHeartbeats 4000000 in
set_option maxRecDepth 100000 in
theorem mX0_borrowedN (l : Launch) (hst : l.stackTraces = false) (D : va_G) (cI cZ : ClassId) (ad : Nat → Nat) (a1 : Int32) : oz_MI l yX0_borrowed wsX0_borrowed rmX0_borrowedN D cI cZ RX0 0 oz_KSX0 ad oz_lyX0 0 [.ref (ad 0), .int a1] (FX0_borrowedN a1) := by
  refine oz_ofI (wn := RX0) (bytes := cX0_borrowed) (maxL := 2) (ret := (some .int)) (T := TX0) (N := 19) (by decide) rfl rfl oz_CX0 hst (Nat.le_of_ble_eq_true rfl) ?_
  intro p e s m below meth c st A res G hr X
  show G 0 0 [(0, .ref (ad 0)), (1, .int a1)] [] st (FX0_borrowedN a1 st)
  unfold FX0_borrowedN
  refine oz_iload_n X dX0_borrowed_0 rfl 1 rfl ?_
  refine oz_callS X rfl (As := [.int a1]) (S := []) (mX0_isProcessN l hst D cI cZ ad a1) gX0_borrowed_X0_isProcess rfl rfl rfl hX0_isProcessN ⟨by decide, by decide⟩ rfl rfl (Nat.le_of_ble_eq_true rfl) dX0_borrowed_1 (by omega) (by decide) (by decide) (fun r1 s1 => ?_)
  refine oz_if_ne X (tgt := 17) dX0_borrowed_4 (by decide) (fun q2 => ?_) (fun q2 => ?_)
  · refine oz_aload_n X dX0_borrowed_17 rfl 0 rfl ?_
    refine oz_iload_n X dX0_borrowed_18 rfl 1 rfl ?_
    refine oz_callV X rfl (As := [.int a1]) (S := []) (mX0_countBorrowedN l hst D cI cZ ad a1) gX0_borrowed_X0_countBorrowed rfl rfl rfl hX0_countBorrowedN ⟨by decide, by decide⟩ rfl rfl (Nat.le_of_ble_eq_true rfl) dX0_borrowed_19 (by omega) (by decide) (by decide) (fun r3 s3 => ?_)
    exact oz_iret X rfl hr (by omega) dX0_borrowed_22
  · exact oz_none X

/-! AlmsKernel.lent -/
def FX0_lentN_w21 : Nat → Int32 → Int32 → Int32 → Int32 → Option RC
  | 0, _, _, _, _ => none
  | n + 1, x1, x2, x3, st => (if 12 ≤ x3 then some (0, x2, st) else gd (oz_in x3 12) ((if FX 5 x3.toNatClampNeg = x1 then none else (FX0_lentN_w21 n x1 x2 (x3 + 1) st))))
def FX0_lentN (a1 : Int32) (st : Int32) : Option RC := bnd (FX0_isProcessN a1 st) (fun r5 s5 => (if r5 = 0 then none else (FX0_lentN_w21 62 a1 0 0 s5)))
def rmX0_lentN : Room := { frames := 1, cells := 0, slots := 0, locals := 20 }
theorem hX0_lentN : yX0_lent.cls = RX0 ∧ yX0_lent.cls ≠ "java/lang/invoke/MethodHandle" ∧ yX0_lent.cls ≠ "java/lang/invoke/VarHandle" ∧ (parseMethodDescriptor yX0_lent.desc).map (fun d => d.parameters.length) = some 1 := by decide +kernel
theorem lkX0_lentN_22 : Cond.fieldLink RX0 22 RX0 (TX0 4).2.1 (TX0 4).2.2.1 ∈ wsX0_lent := by decide +kernel
set_option maxHeartbeats 4000000 in
set_option maxRecDepth 100000 in
theorem mX0_lentN (l : Launch) (hst : l.stackTraces = false) (D : va_G) (cI cZ : ClassId) (ad : Nat → Nat) (a1 : Int32) : oz_MI l yX0_lent wsX0_lent rmX0_lentN D cI cZ RX0 0 oz_KSX0 ad oz_lyX0 0 [.ref (ad 0), .int a1] (FX0_lentN a1) := by
  refine oz_ofI (wn := RX0) (bytes := cX0_lent) (maxL := 4) (ret := (some .int)) (T := TX0) (N := 19) (by decide) rfl rfl oz_CX0 hst (Nat.le_of_ble_eq_true rfl) ?_
  intro p e s m below meth c st A res G hr X
  have hin : ∀ w ∈ u_ws RX0 TX0 19, w ∈ wsX0_lent := fun w h => List.mem_cons_of_mem _ (List.mem_append_left _ (List.mem_append_right _ h))
  have lk22 := lkX0_lentN_22
  have hc21 : ∀ (n k : Nat), k ≤ 0 → ∀ (x1 : Int32) (x2 : Int32) (x3 : Int32) (st : Int32), G k 21 [(0, .ref (ad 0)), (1, .int x1), (2, .int x2), (3, .int x3)] [] st (FX0_lentN_w21 n x1 x2 x3 st) := by
    intro n
    induction n with
    | zero => intros; exact oz_none X
    | succ n ih =>
      intro k hk x1 x2 x3 st
      rw [FX0_lentN_w21]
      refine oz_iload_n X dX0_lent_21 rfl 3 rfl ?_
      refine oz_bipush X (v := 12) dX0_lent_22 (by decide) ?_
      refine oz_icmp_ge X (tgt := 56) dX0_lent_24 (by decide) (fun q2 => ?_) (fun q2 => ?_)
      · refine oz_iload_n X dX0_lent_56 rfl 2 rfl ?_
        exact oz_iret X rfl hr (by omega) dX0_lent_57
      · refine oz_aload_n X dX0_lent_27 rfl 0 rfl ?_
        refine oz_getA X hin (j := 4) rfl lk22 dX0_lent_28 ?_
        refine oz_iload_n X dX0_lent_31 rfl 3 rfl ?_
        refine oz_iald X (j := 4) rfl (by decide) dX0_lent_32 (fun g3 => ?_)
        refine oz_iload_n X dX0_lent_33 rfl 1 rfl ?_
        refine oz_icmp_ne X (tgt := 50) dX0_lent_34 (by decide) (fun q4 => ?_) (fun q4 => ?_)
        · refine oz_iinc X (q := 3) (v := x3 + 1) (L2 := [(3, .int (x3 + 1)), (0, .ref (ad 0)), (1, .int x1), (2, .int x2)]) dX0_lent_50 rfl rfl (by decide) rfl ?_
          refine oz_goto X (tgt := 21) dX0_lent_53 (by decide) ?_
          exact oz_sub X [1, 2, 3, 0] (L2 := [(0, .ref (ad 0)), (1, .int x1), (2, .int x2), (3, .int (x3 + 1))]) rfl (ih _ (by omega) x1 x2 (x3 + 1) st)
        · exact oz_none X
  show G 0 0 [(0, .ref (ad 0)), (1, .int a1)] [] st (FX0_lentN a1 st)
  unfold FX0_lentN
  refine oz_iload_n X dX0_lent_0 rfl 1 rfl ?_
  refine oz_callS X rfl (As := [.int a1]) (S := []) (mX0_isProcessN l hst D cI cZ ad a1) gX0_lent_X0_isProcess rfl rfl rfl hX0_isProcessN ⟨by decide, by decide⟩ rfl rfl (Nat.le_of_ble_eq_true rfl) dX0_lent_1 (by omega) (by decide) (by decide) (fun r5 s5 => ?_)
  refine oz_if_ne X (tgt := 17) dX0_lent_4 (by decide) (fun q6 => ?_) (fun q6 => ?_)
  · refine oz_iconst X (v := 0) dX0_lent_17 (by decide) ?_
    refine oz_istore_n X (L2 := [(2, .int 0), (0, .ref (ad 0)), (1, .int a1)]) dX0_lent_18 rfl (by decide) rfl ?_
    refine oz_iconst X (v := 0) dX0_lent_19 (by decide) ?_
    refine oz_istore_n X (L2 := [(3, .int 0), (2, .int 0), (0, .ref (ad 0)), (1, .int a1)]) dX0_lent_20 rfl (by decide) rfl ?_
    exact oz_sub X [2, 3, 1, 0] (L2 := [(0, .ref (ad 0)), (1, .int a1), (2, .int 0), (3, .int 0)]) rfl (hc21 62 _ (by omega) a1 0 0 s5)
  · exact oz_none X

/-! AlmsKernel.isRequested -/
def FX0_isRequestedN_w2 : Nat → Int32 → Int32 → Option RC
  | 0, _, _ => none
  | n + 1, x2, st => (if 12 ≤ x2 then some (0, 0, st) else bnd (FX0_isComingN x2 st) (fun r3 s3 => (if r3 = 0 then (FX0_isRequestedN_w2 n (x2 + 1) s3) else none)))
def FX0_isRequestedN (a1 : Int32) (st : Int32) : Option RC := (FX0_isRequestedN_w2 62 0 st)
def rmX0_isRequestedN : Room := { frames := 2, cells := 0, slots := 0, locals := 41 }
theorem hX0_isRequestedN : yX0_isRequested.cls = RX0 ∧ yX0_isRequested.cls ≠ "java/lang/invoke/MethodHandle" ∧ yX0_isRequested.cls ≠ "java/lang/invoke/VarHandle" ∧ (parseMethodDescriptor yX0_isRequested.desc).map (fun d => d.parameters.length) = some 1 := by decide +kernel
set_option maxHeartbeats 4000000 in
set_option maxRecDepth 100000 in
theorem mX0_isRequestedN (l : Launch) (hst : l.stackTraces = false) (D : va_G) (cI cZ : ClassId) (ad : Nat → Nat) (a1 : Int32) : oz_MI l yX0_isRequested wsX0_isRequested rmX0_isRequestedN D cI cZ RX0 0 oz_KSX0 ad oz_lyX0 0 [.ref (ad 0), .int a1] (FX0_isRequestedN a1) := by
  refine oz_ofI (wn := RX0) (bytes := cX0_isRequested) (maxL := 3) (ret := (some .boolean)) (T := TX0) (N := 19) (by decide) rfl rfl oz_CX0 hst (Nat.le_of_ble_eq_true rfl) ?_
  intro p e s m below meth c st A res G hr X
  have hc2 : ∀ (n k : Nat), k ≤ 0 → ∀ (x2 : Int32) (st : Int32), G k 2 [(0, .ref (ad 0)), (2, .int x2)] [] st (FX0_isRequestedN_w2 n x2 st) := by
    intro n
    induction n with
    | zero => intros; exact oz_none X
    | succ n ih =>
      intro k hk x2 st
      rw [FX0_isRequestedN_w2]
      refine oz_iload_n X dX0_isRequested_2 rfl 1 rfl ?_
      refine oz_bipush X (v := 12) dX0_isRequested_3 (by decide) ?_
      refine oz_icmp_ge X (tgt := 33) dX0_isRequested_5 (by decide) (fun q2 => ?_) (fun q2 => ?_)
      · refine oz_iconst X (v := 0) dX0_isRequested_33 (by decide) ?_
        exact oz_zret X rfl hr rfl (by omega) dX0_isRequested_34
      · refine oz_aload_n X dX0_isRequested_8 rfl 0 rfl ?_
        refine oz_iload_n X dX0_isRequested_9 rfl 1 rfl ?_
        refine oz_callV X rfl (As := [.int x2]) (S := []) (mX0_isComingN l hst D cI cZ ad x2) gX0_isRequested_X0_isComing rfl rfl rfl hX0_isComingN ⟨by decide, by decide⟩ rfl rfl (Nat.le_of_ble_eq_true rfl) dX0_isRequested_10 (by omega) (by decide) (by decide) (fun r3 s3 => ?_)
        refine oz_if_eq X (tgt := 27) dX0_isRequested_13 (by decide) (fun q4 => ?_) (fun q4 => ?_)
        · refine oz_iinc X (q := 1) (v := x2 + 1) (L2 := [(2, .int (x2 + 1)), (0, .ref (ad 0))]) dX0_isRequested_27 rfl rfl (by decide) rfl ?_
          refine oz_goto X (tgt := 2) dX0_isRequested_30 (by decide) ?_
          exact oz_sub X [1, 0] (L2 := [(0, .ref (ad 0)), (2, .int (x2 + 1))]) rfl (ih _ (by omega) (x2 + 1) s3)
        · exact oz_none X
  show G 0 0 [(0, .ref (ad 0)), (1, .int a1)] [] st (FX0_isRequestedN a1 st)
  unfold FX0_isRequestedN
  refine oz_iconst X (v := 0) dX0_isRequested_0 (by decide) ?_
  refine oz_istore_n X (L2 := [(2, .int 0), (0, .ref (ad 0)), (1, .int a1)]) dX0_isRequested_1 rfl (by decide) rfl ?_
  exact oz_sub X [1, 0] (L2 := [(0, .ref (ad 0)), (2, .int 0)]) rfl (hc2 62 _ (by omega) 0 st)

/-! AlmsKernel.requestAt -/
def FX0_requestAtN_w18 : Nat → Int32 → Int32 → Option RC
  | 0, _, _ => none
  | n + 1, x3, st => (if 40 ≤ x3 then some (0, (-1), st) else bnd (FX0_isRequestedN x3 st) (fun r3 s3 => (if r3 = 0 then (FX0_requestAtN_w18 n (x3 + 1) s3) else none)))
def FX0_requestAtN (a1 : Int32) (st : Int32) : Option RC := (if 0 ≤ a1 then (FX0_requestAtN_w18 62 0 st) else none)
def rmX0_requestAtN : Room := { frames := 3, cells := 0, slots := 0, locals := 63 }
theorem hX0_requestAtN : yX0_requestAt.cls = RX0 ∧ yX0_requestAt.cls ≠ "java/lang/invoke/MethodHandle" ∧ yX0_requestAt.cls ≠ "java/lang/invoke/VarHandle" ∧ (parseMethodDescriptor yX0_requestAt.desc).map (fun d => d.parameters.length) = some 1 := by decide +kernel
set_option maxHeartbeats 4000000 in
set_option maxRecDepth 100000 in
theorem mX0_requestAtN (l : Launch) (hst : l.stackTraces = false) (D : va_G) (cI cZ : ClassId) (ad : Nat → Nat) (a1 : Int32) : oz_MI l yX0_requestAt wsX0_requestAt rmX0_requestAtN D cI cZ RX0 0 oz_KSX0 ad oz_lyX0 0 [.ref (ad 0), .int a1] (FX0_requestAtN a1) := by
  refine oz_ofI (wn := RX0) (bytes := cX0_requestAt) (maxL := 4) (ret := (some .int)) (T := TX0) (N := 19) (by decide) rfl rfl oz_CX0 hst (Nat.le_of_ble_eq_true rfl) ?_
  intro p e s m below meth c st A res G hr X
  have hc18 : ∀ (n k : Nat), k ≤ 0 → ∀ (x3 : Int32) (st : Int32), G k 18 [(0, .ref (ad 0)), (3, .int x3)] [] st (FX0_requestAtN_w18 n x3 st) := by
    intro n
    induction n with
    | zero => intros; exact oz_none X
    | succ n ih =>
      intro k hk x3 st
      rw [FX0_requestAtN_w18]
      refine oz_iload_n X dX0_requestAt_18 rfl 1 rfl ?_
      refine oz_bipush X (v := 40) dX0_requestAt_19 (by decide) ?_
      refine oz_icmp_ge X (tgt := 48) dX0_requestAt_21 (by decide) (fun q2 => ?_) (fun q2 => ?_)
      · refine oz_iconst X (v := (-1)) dX0_requestAt_48 (by decide) ?_
        exact oz_iret X rfl hr (by omega) dX0_requestAt_49
      · refine oz_aload_n X dX0_requestAt_24 rfl 0 rfl ?_
        refine oz_iload_n X dX0_requestAt_25 rfl 1 rfl ?_
        refine oz_callV X rfl (As := [.int x3]) (S := []) (mX0_isRequestedN l hst D cI cZ ad x3) gX0_requestAt_X0_isRequested rfl rfl rfl hX0_isRequestedN ⟨by decide, by decide⟩ rfl rfl (Nat.le_of_ble_eq_true rfl) dX0_requestAt_26 (by omega) (by decide) (by decide) (fun r3 s3 => ?_)
        refine oz_if_eq X (tgt := 42) dX0_requestAt_29 (by decide) (fun q4 => ?_) (fun q4 => ?_)
        · refine oz_iinc X (q := 1) (v := x3 + 1) (L2 := [(3, .int (x3 + 1)), (0, .ref (ad 0))]) dX0_requestAt_42 rfl rfl (by decide) rfl ?_
          refine oz_goto X (tgt := 18) dX0_requestAt_45 (by decide) ?_
          exact oz_sub X [1, 0] (L2 := [(0, .ref (ad 0)), (3, .int (x3 + 1))]) rfl (ih _ (by omega) (x3 + 1) s3)
        · exact oz_none X
  show G 0 0 [(0, .ref (ad 0)), (1, .int a1)] [] st (FX0_requestAtN a1 st)
  unfold FX0_requestAtN
  refine oz_iload_n X dX0_requestAt_0 rfl 1 rfl ?_
  refine oz_if_ge X (tgt := 14) dX0_requestAt_1 (by decide) (fun q5 => ?_) (fun q5 => ?_)
  · refine oz_iconst X (v := 0) dX0_requestAt_14 (by decide) ?_
    refine oz_istore_n X (L2 := [(2, .int 0), (0, .ref (ad 0)), (1, .int a1)]) dX0_requestAt_15 rfl (by decide) rfl ?_
    refine oz_iconst X (v := 0) dX0_requestAt_16 (by decide) ?_
    refine oz_istore_n X (L2 := [(3, .int 0), (2, .int 0), (0, .ref (ad 0)), (1, .int a1)]) dX0_requestAt_17 rfl (by decide) rfl ?_
    exact oz_sub X [2, 0] (L2 := [(0, .ref (ad 0)), (3, .int 0)]) rfl (hc18 62 _ (by omega) 0 st)
  · exact oz_none X

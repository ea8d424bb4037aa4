/-! AlmsKernel.loans -/
def FX0_loansN (st : Int32) : Option RC := some (0, FX 0 14, st)
def rmX0_loansN : Room := { frames := 0, cells := 0, slots := 0, locals := 0 }
theorem hX0_loansN : yX0_loans.cls = RX0 ∧ yX0_loans.cls ≠ "java/lang/invoke/MethodHandle" ∧ yX0_loans.cls ≠ "java/lang/invoke/VarHandle" ∧ (parseMethodDescriptor yX0_loans.desc).map (fun d => d.parameters.length) = some 0 := by decide +kernel
theorem lkX0_loansN_53 : Cond.fieldLink RX0 53 RX0 (TX0 14).2.1 (TX0 14).2.2.1 ∈ wsX0_loans := by decide +kernel
set_option maxHeartbeats 4000000 in
set_option maxRecDepth 100000 in
theorem mX0_loansN (l : Launch) (hst : l.stackTraces = false) (D : va_G) (cI cZ : ClassId) (ad : Nat → Nat) : oz_MI l yX0_loans wsX0_loans rmX0_loansN D cI cZ RX0 0 oz_KSX0 ad oz_lyX0 0 [.ref (ad 0)] (FX0_loansN) := by
  refine oz_ofI (wn := RX0) (bytes := cX0_loans) (maxL := 1) (ret := (some .int)) (T := TX0) (N := 19) (by decide) rfl rfl oz_CX0 hst (Nat.le_of_ble_eq_true rfl) ?_
  intro p e s m below meth c st A res G hr X
  have hin : ∀ w ∈ u_ws RX0 TX0 19, w ∈ wsX0_loans := fun w h => List.mem_cons_of_mem _ (List.mem_append_right _ h)
  have lk53 := lkX0_loansN_53
  show G 0 0 [(0, .ref (ad 0))] [] st (FX0_loansN st)
  unfold FX0_loansN
  refine oz_aload_n X dX0_loans_0 rfl 0 rfl ?_
  refine oz_getS X hin (j := 14) rfl lk53 dX0_loans_1 ?_
  exact oz_iret X rfl hr (by omega) dX0_loans_4

/-! AlmsKernel.tick -/
def FX0_tickN (st : Int32) : Option RC := some (0, FX 0 16, st)
def rmX0_tickN : Room := { frames := 0, cells := 0, slots := 0, locals := 0 }
theorem hX0_tickN : yX0_tick.cls = RX0 ∧ yX0_tick.cls ≠ "java/lang/invoke/MethodHandle" ∧ yX0_tick.cls ≠ "java/lang/invoke/VarHandle" ∧ (parseMethodDescriptor yX0_tick.desc).map (fun d => d.parameters.length) = some 0 := by decide +kernel
theorem lkX0_tickN_60 : Cond.fieldLink RX0 60 RX0 (TX0 16).2.1 (TX0 16).2.2.1 ∈ wsX0_tick := by decide +kernel
set_option maxHeartbeats 4000000 in
set_option maxRecDepth 100000 in
theorem mX0_tickN (l : Launch) (hst : l.stackTraces = false) (D : va_G) (cI cZ : ClassId) (ad : Nat → Nat) : oz_MI l yX0_tick wsX0_tick rmX0_tickN D cI cZ RX0 0 oz_KSX0 ad oz_lyX0 0 [.ref (ad 0)] (FX0_tickN) := by
  refine oz_ofI (wn := RX0) (bytes := cX0_tick) (maxL := 1) (ret := (some .int)) (T := TX0) (N := 19) (by decide) rfl rfl oz_CX0 hst (Nat.le_of_ble_eq_true rfl) ?_
  intro p e s m below meth c st A res G hr X
  have hin : ∀ w ∈ u_ws RX0 TX0 19, w ∈ wsX0_tick := fun w h => List.mem_cons_of_mem _ (List.mem_append_right _ h)
  have lk60 := lkX0_tickN_60
  show G 0 0 [(0, .ref (ad 0))] [] st (FX0_tickN st)
  unfold FX0_tickN
  refine oz_aload_n X dX0_tick_0 rfl 0 rfl ?_
  refine oz_getS X hin (j := 16) rfl lk60 dX0_tick_1 ?_
  exact oz_iret X rfl hr (by omega) dX0_tick_4

/-! AlmsKernel.head -/
def FX0_headN (st : Int32) : Option RC := some (0, FX 0 17, st)
def rmX0_headN : Room := { frames := 0, cells := 0, slots := 0, locals := 0 }
theorem hX0_headN : yX0_head.cls = RX0 ∧ yX0_head.cls ≠ "java/lang/invoke/MethodHandle" ∧ yX0_head.cls ≠ "java/lang/invoke/VarHandle" ∧ (parseMethodDescriptor yX0_head.desc).map (fun d => d.parameters.length) = some 0 := by decide +kernel
theorem lkX0_headN_63 : Cond.fieldLink RX0 63 RX0 (TX0 17).2.1 (TX0 17).2.2.1 ∈ wsX0_head := by decide +kernel
set_option maxHeartbeats 4000000 in
set_option maxRecDepth 100000 in
theorem mX0_headN (l : Launch) (hst : l.stackTraces = false) (D : va_G) (cI cZ : ClassId) (ad : Nat → Nat) : oz_MI l yX0_head wsX0_head rmX0_headN D cI cZ RX0 0 oz_KSX0 ad oz_lyX0 0 [.ref (ad 0)] (FX0_headN) := by
  refine oz_ofI (wn := RX0) (bytes := cX0_head) (maxL := 1) (ret := (some .int)) (T := TX0) (N := 19) (by decide) rfl rfl oz_CX0 hst (Nat.le_of_ble_eq_true rfl) ?_
  intro p e s m below meth c st A res G hr X
  have hin : ∀ w ∈ u_ws RX0 TX0 19, w ∈ wsX0_head := fun w h => List.mem_cons_of_mem _ (List.mem_append_right _ h)
  have lk63 := lkX0_headN_63
  show G 0 0 [(0, .ref (ad 0))] [] st (FX0_headN st)
  unfold FX0_headN
  refine oz_aload_n X dX0_head_0 rfl 0 rfl ?_
  refine oz_getS X hin (j := 17) rfl lk63 dX0_head_1 ?_
  exact oz_iret X rfl hr (by omega) dX0_head_4

/-! AlmsKernel.isFrame -/
def FX0_isFrameN (a1 : Int32) (st : Int32) : Option RC := (if a1 < 0 then some (0, 0, st) else (if 12 ≤ a1 then some (0, 0, st) else some (0, 1, st)))
def rmX0_isFrameN : Room := { frames := 0, cells := 0, slots := 0, locals := 0 }
theorem hX0_isFrameN : yX0_isFrame.cls ≠ "java/lang/invoke/MethodHandle" ∧ yX0_isFrame.cls ≠ "java/lang/invoke/VarHandle" ∧ (parseMethodDescriptor yX0_isFrame.desc).map (fun d => d.parameters.length) = some 1 := by decide +kernel
set_option maxHeartbeats 4000000 in
set_option maxRecDepth 100000 in
theorem mX0_isFrameN (l : Launch) (hst : l.stackTraces = false) (D : va_G) (cI cZ : ClassId) (ad : Nat → Nat) (a1 : Int32) : oz_MI l yX0_isFrame wsX0_isFrame rmX0_isFrameN D cI cZ RX0 0 oz_KSX0 ad oz_lyX0 0 [.int a1] (FX0_isFrameN a1) := by
  refine oz_ofI (wn := RX0) (bytes := cX0_isFrame) (maxL := 1) (ret := (some .boolean)) (T := TX0) (N := 19) (by decide) rfl rfl oz_CX0 hst (Nat.le_of_ble_eq_true rfl) ?_
  intro p e s m below meth c st A res G hr X
  show G 0 0 [(0, .int a1)] [] st (FX0_isFrameN a1 st)
  unfold FX0_isFrameN
  refine oz_iload_n X dX0_isFrame_0 rfl 0 rfl ?_
  refine oz_if_lt X (tgt := 14) dX0_isFrame_1 (by decide) (fun q1 => ?_) (fun q1 => ?_)
  · refine oz_iconst X (v := 0) dX0_isFrame_14 (by decide) ?_
    exact oz_zret X rfl hr rfl (by omega) dX0_isFrame_15
  · refine oz_iload_n X dX0_isFrame_4 rfl 0 rfl ?_
    refine oz_bipush X (v := 12) dX0_isFrame_5 (by decide) ?_
    refine oz_icmp_ge X (tgt := 14) dX0_isFrame_7 (by decide) (fun q2 => ?_) (fun q2 => ?_)
    · refine oz_iconst X (v := 0) dX0_isFrame_14 (by decide) ?_
      exact oz_zret X rfl hr rfl (by omega) dX0_isFrame_15
    · refine oz_iconst X (v := 1) dX0_isFrame_10 (by decide) ?_
      refine oz_goto X (tgt := 15) dX0_isFrame_11 (by decide) ?_
      exact oz_zret X rfl hr rfl (by omega) dX0_isFrame_15

/-! AlmsKernel.isComing -/
def FX0_isComingN (a1 : Int32) (st : Int32) : Option RC := bnd (FX0_isFrameN a1 st) (fun r1 s1 => (if r1 = 0 then none else gd (oz_in a1 12) ((if FX 7 a1.toNatClampNeg = (-1) then some (0, 0, s1) else none))))
def rmX0_isComingN : Room := { frames := 1, cells := 0, slots := 0, locals := 20 }
theorem hX0_isComingN : yX0_isComing.cls = RX0 ∧ yX0_isComing.cls ≠ "java/lang/invoke/MethodHandle" ∧ yX0_isComing.cls ≠ "java/lang/invoke/VarHandle" ∧ (parseMethodDescriptor yX0_isComing.desc).map (fun d => d.parameters.length) = some 1 := by decide +kernel
theorem lkX0_isComingN_28 : Cond.fieldLink RX0 28 RX0 (TX0 6).2.1 (TX0 6).2.2.1 ∈ wsX0_isComing := by decide +kernel
set_option maxHeartbeats 4000000 in
set_option maxRecDepth 100000 in
theorem mX0_isComingN (l : Launch) (hst : l.stackTraces = false) (D : va_G) (cI cZ : ClassId) (ad : Nat → Nat) (a1 : Int32) : oz_MI l yX0_isComing wsX0_isComing rmX0_isComingN D cI cZ RX0 0 oz_KSX0 ad oz_lyX0 0 [.ref (ad 0), .int a1] (FX0_isComingN a1) := by
  refine oz_ofI (wn := RX0) (bytes := cX0_isComing) (maxL := 2) (ret := (some .boolean)) (T := TX0) (N := 19) (by decide) rfl rfl oz_CX0 hst (Nat.le_of_ble_eq_true rfl) ?_
  intro p e s m below meth c st A res G hr X
  have hin : ∀ w ∈ u_ws RX0 TX0 19, w ∈ wsX0_isComing := fun w h => List.mem_cons_of_mem _ (List.mem_append_right _ h)
  have lk28 := lkX0_isComingN_28
  show G 0 0 [(0, .ref (ad 0)), (1, .int a1)] [] st (FX0_isComingN a1 st)
  unfold FX0_isComingN
  refine oz_iload_n X dX0_isComing_0 rfl 1 rfl ?_
  refine oz_callS X rfl (As := [.int a1]) (S := []) (mX0_isFrameN l hst D cI cZ ad a1) gX0_isComing_X0_isFrame rfl rfl rfl hX0_isFrameN ⟨by decide, by decide⟩ rfl rfl (Nat.le_of_ble_eq_true rfl) dX0_isComing_1 (by omega) (by decide) (by decide) (fun r1 s1 => ?_)
  refine oz_if_eq X (tgt := 30) dX0_isComing_4 (by decide) (fun q2 => ?_) (fun q2 => ?_)
  · exact oz_none X
  · refine oz_aload_n X dX0_isComing_7 rfl 0 rfl ?_
    refine oz_getA X hin (j := 6) rfl lk28 dX0_isComing_8 ?_
    refine oz_iload_n X dX0_isComing_11 rfl 1 rfl ?_
    refine oz_iald X (j := 6) rfl (by decide) dX0_isComing_12 (fun g3 => ?_)
    refine oz_iconst X (v := (-1)) dX0_isComing_13 (by decide) ?_
    refine oz_icmp_eq X (tgt := 30) dX0_isComing_14 (by decide) (fun q4 => ?_) (fun q4 => ?_)
    · refine oz_iconst X (v := 0) dX0_isComing_30 (by decide) ?_
      exact oz_zret X rfl hr rfl (by omega) dX0_isComing_31
    · exact oz_none X

/-! AlmsKernel.requests -/
def FX0_requestsN_w4 : Nat → Int32 → Int32 → Int32 → Option RC
  | 0, _, _, _ => none
  | n + 1, x1, x2, st => (if 12 ≤ x2 then some (0, x1, st) else bnd (FX0_isComingN x2 st) (fun r3 s3 => (if r3 = 0 then (FX0_requestsN_w4 n x1 (x2 + 1) s3) else none)))
def FX0_requestsN (st : Int32) : Option RC := (FX0_requestsN_w4 62 0 0 st)
def rmX0_requestsN : Room := { frames := 2, cells := 0, slots := 0, locals := 41 }
theorem hX0_requestsN : yX0_requests.cls = RX0 ∧ yX0_requests.cls ≠ "java/lang/invoke/MethodHandle" ∧ yX0_requests.cls ≠ "java/lang/invoke/VarHandle" ∧ (parseMethodDescriptor yX0_requests.desc).map (fun d => d.parameters.length) = some 0 := by decide +kernel
set_option maxHeartbeats 4000000 in
set_option maxRecDepth 100000 in
theorem mX0_requestsN (l : Launch) (hst : l.stackTraces = false) (D : va_G) (cI cZ : ClassId) (ad : Nat → Nat) : oz_MI l yX0_requests wsX0_requests rmX0_requestsN D cI cZ RX0 0 oz_KSX0 ad oz_lyX0 0 [.ref (ad 0)] (FX0_requestsN) := by
  refine oz_ofI (wn := RX0) (bytes := cX0_requests) (maxL := 3) (ret := (some .int)) (T := TX0) (N := 19) (by decide) rfl rfl oz_CX0 hst (Nat.le_of_ble_eq_true rfl) ?_
  intro p e s m below meth c st A res G hr X
  have hc4 : ∀ (n k : Nat), k ≤ 0 → ∀ (x1 : Int32) (x2 : Int32) (st : Int32), G k 4 [(0, .ref (ad 0)), (1, .int x1), (2, .int x2)] [] st (FX0_requestsN_w4 n x1 x2 st) := by
    intro n
    induction n with
    | zero => intros; exact oz_none X
    | succ n ih =>
      intro k hk x1 x2 st
      rw [FX0_requestsN_w4]
      refine oz_iload_n X dX0_requests_4 rfl 2 rfl ?_
      refine oz_bipush X (v := 12) dX0_requests_5 (by decide) ?_
      refine oz_icmp_ge X (tgt := 27) dX0_requests_7 (by decide) (fun q2 => ?_) (fun q2 => ?_)
      · refine oz_iload_n X dX0_requests_27 rfl 1 rfl ?_
        exact oz_iret X rfl hr (by omega) dX0_requests_28
      · refine oz_aload_n X dX0_requests_10 rfl 0 rfl ?_
        refine oz_iload_n X dX0_requests_11 rfl 2 rfl ?_
        refine oz_callV X rfl (As := [.int x2]) (S := []) (mX0_isComingN l hst D cI cZ ad x2) gX0_requests_X0_isComing rfl rfl rfl hX0_isComingN ⟨by decide, by decide⟩ rfl rfl (Nat.le_of_ble_eq_true rfl) dX0_requests_12 (by omega) (by decide) (by decide) (fun r3 s3 => ?_)
        refine oz_if_eq X (tgt := 21) dX0_requests_15 (by decide) (fun q4 => ?_) (fun q4 => ?_)
        · refine oz_iinc X (q := 2) (v := x2 + 1) (L2 := [(2, .int (x2 + 1)), (0, .ref (ad 0)), (1, .int x1)]) dX0_requests_21 rfl rfl (by decide) rfl ?_
          refine oz_goto X (tgt := 4) dX0_requests_24 (by decide) ?_
          exact oz_sub X [1, 2, 0] (L2 := [(0, .ref (ad 0)), (1, .int x1), (2, .int (x2 + 1))]) rfl (ih _ (by omega) x1 (x2 + 1) s3)
        · exact oz_none X
  show G 0 0 [(0, .ref (ad 0))] [] st (FX0_requestsN st)
  unfold FX0_requestsN
  refine oz_iconst X (v := 0) dX0_requests_0 (by decide) ?_
  refine oz_istore_n X (L2 := [(1, .int 0), (0, .ref (ad 0))]) dX0_requests_1 rfl (by decide) rfl ?_
  refine oz_iconst X (v := 0) dX0_requests_2 (by decide) ?_
  refine oz_istore_n X (L2 := [(2, .int 0), (1, .int 0), (0, .ref (ad 0))]) dX0_requests_3 rfl (by decide) rfl ?_
  exact oz_sub X [2, 1, 0] (L2 := [(0, .ref (ad 0)), (1, .int 0), (2, .int 0)]) rfl (hc4 62 _ (by omega) 0 0 st)

/-! AlmsKernel.owner -/
def FX0_ownerN (a1 : Int32) (st : Int32) : Option RC := bnd (FX0_isFrameN a1 st) (fun r1 s1 => (if r1 = 0 then none else gd (oz_in a1 12) (some (0, FX 5 a1.toNatClampNeg, s1))))
def rmX0_ownerN : Room := { frames := 1, cells := 0, slots := 0, locals := 20 }
theorem hX0_ownerN : yX0_owner.cls = RX0 ∧ yX0_owner.cls ≠ "java/lang/invoke/MethodHandle" ∧ yX0_owner.cls ≠ "java/lang/invoke/VarHandle" ∧ (parseMethodDescriptor yX0_owner.desc).map (fun d => d.parameters.length) = some 1 := by decide +kernel
theorem lkX0_ownerN_22 : Cond.fieldLink RX0 22 RX0 (TX0 4).2.1 (TX0 4).2.2.1 ∈ wsX0_owner := by decide +kernel
set_option maxHeartbeats 4000000 in
set_option maxRecDepth 100000 in
theorem mX0_ownerN (l : Launch) (hst : l.stackTraces = false) (D : va_G) (cI cZ : ClassId) (ad : Nat → Nat) (a1 : Int32) : oz_MI l yX0_owner wsX0_owner rmX0_ownerN D cI cZ RX0 0 oz_KSX0 ad oz_lyX0 0 [.ref (ad 0), .int a1] (FX0_ownerN a1) := by
  refine oz_ofI (wn := RX0) (bytes := cX0_owner) (maxL := 2) (ret := (some .int)) (T := TX0) (N := 19) (by decide) rfl rfl oz_CX0 hst (Nat.le_of_ble_eq_true rfl) ?_
  intro p e s m below meth c st A res G hr X
  have hin : ∀ w ∈ u_ws RX0 TX0 19, w ∈ wsX0_owner := fun w h => List.mem_cons_of_mem _ (List.mem_append_left _ (List.mem_append_right _ h))
  have lk22 := lkX0_ownerN_22
  show G 0 0 [(0, .ref (ad 0)), (1, .int a1)] [] st (FX0_ownerN a1 st)
  unfold FX0_ownerN
  refine oz_iload_n X dX0_owner_0 rfl 1 rfl ?_
  refine oz_callS X rfl (As := [.int a1]) (S := []) (mX0_isFrameN l hst D cI cZ ad a1) gX0_owner_X0_isFrame rfl rfl rfl hX0_isFrameN ⟨by decide, by decide⟩ rfl rfl (Nat.le_of_ble_eq_true rfl) dX0_owner_1 (by omega) (by decide) (by decide) (fun r1 s1 => ?_)
  refine oz_if_ne X (tgt := 17) dX0_owner_4 (by decide) (fun q2 => ?_) (fun q2 => ?_)
  · refine oz_aload_n X dX0_owner_17 rfl 0 rfl ?_
    refine oz_getA X hin (j := 4) rfl lk22 dX0_owner_18 ?_
    refine oz_iload_n X dX0_owner_21 rfl 1 rfl ?_
    refine oz_iald X (j := 4) rfl (by decide) dX0_owner_22 (fun g3 => ?_)
    exact oz_iret X rfl hr (by omega) dX0_owner_23
  · exact oz_none X

/-! AlmsKernel.holder -/
def FX0_holderN (a1 : Int32) (st : Int32) : Option RC := bnd (FX0_isFrameN a1 st) (fun r1 s1 => (if r1 = 0 then none else gd (oz_in a1 12) (some (0, FX 6 a1.toNatClampNeg, s1))))
def rmX0_holderN : Room := { frames := 1, cells := 0, slots := 0, locals := 20 }
theorem hX0_holderN : yX0_holder.cls = RX0 ∧ yX0_holder.cls ≠ "java/lang/invoke/MethodHandle" ∧ yX0_holder.cls ≠ "java/lang/invoke/VarHandle" ∧ (parseMethodDescriptor yX0_holder.desc).map (fun d => d.parameters.length) = some 1 := by decide +kernel
theorem lkX0_holderN_25 : Cond.fieldLink RX0 25 RX0 (TX0 5).2.1 (TX0 5).2.2.1 ∈ wsX0_holder := by decide +kernel
set_option maxHeartbeats 4000000 in
set_option maxRecDepth 100000 in
theorem mX0_holderN (l : Launch) (hst : l.stackTraces = false) (D : va_G) (cI cZ : ClassId) (ad : Nat → Nat) (a1 : Int32) : oz_MI l yX0_holder wsX0_holder rmX0_holderN D cI cZ RX0 0 oz_KSX0 ad oz_lyX0 0 [.ref (ad 0), .int a1] (FX0_holderN a1) := by
  refine oz_ofI (wn := RX0) (bytes := cX0_holder) (maxL := 2) (ret := (some .int)) (T := TX0) (N := 19) (by decide) rfl rfl oz_CX0 hst (Nat.le_of_ble_eq_true rfl) ?_
  intro p e s m below meth c st A res G hr X
  have hin : ∀ w ∈ u_ws RX0 TX0 19, w ∈ wsX0_holder := fun w h => List.mem_cons_of_mem _ (List.mem_append_left _ (List.mem_append_right _ h))
  have lk25 := lkX0_holderN_25
  show G 0 0 [(0, .ref (ad 0)), (1, .int a1)] [] st (FX0_holderN a1 st)
  unfold FX0_holderN
  refine oz_iload_n X dX0_holder_0 rfl 1 rfl ?_
  refine oz_callS X rfl (As := [.int a1]) (S := []) (mX0_isFrameN l hst D cI cZ ad a1) gX0_holder_X0_isFrame rfl rfl rfl hX0_isFrameN ⟨by decide, by decide⟩ rfl rfl (Nat.le_of_ble_eq_true rfl) dX0_holder_1 (by omega) (by decide) (by decide) (fun r1 s1 => ?_)
  refine oz_if_ne X (tgt := 17) dX0_holder_4 (by decide) (fun q2 => ?_) (fun q2 => ?_)
  · refine oz_aload_n X dX0_holder_17 rfl 0 rfl ?_
    refine oz_getA X hin (j := 5) rfl lk25 dX0_holder_18 ?_
    refine oz_iload_n X dX0_holder_21 rfl 1 rfl ?_
    refine oz_iald X (j := 5) rfl (by decide) dX0_holder_22 (fun g3 => ?_)
    exact oz_iret X rfl hr (by omega) dX0_holder_23
  · exact oz_none X

/-! AlmsKernel.pageIn -/
def FX0_pageInN (a1 : Int32) (st : Int32) : Option RC := bnd (FX0_isFrameN a1 st) (fun r1 s1 => (if r1 = 0 then none else gd (oz_in a1 12) (some (0, FX 7 a1.toNatClampNeg, s1))))
def rmX0_pageInN : Room := { frames := 1, cells := 0, slots := 0, locals := 20 }
theorem hX0_pageInN : yX0_pageIn.cls = RX0 ∧ yX0_pageIn.cls ≠ "java/lang/invoke/MethodHandle" ∧ yX0_pageIn.cls ≠ "java/lang/invoke/VarHandle" ∧ (parseMethodDescriptor yX0_pageIn.desc).map (fun d => d.parameters.length) = some 1 := by decide +kernel
theorem lkX0_pageInN_28 : Cond.fieldLink RX0 28 RX0 (TX0 6).2.1 (TX0 6).2.2.1 ∈ wsX0_pageIn := by decide +kernel
set_option maxHeartbeats 4000000 in
set_option maxRecDepth 100000 in
theorem mX0_pageInN (l : Launch) (hst : l.stackTraces = false) (D : va_G) (cI cZ : ClassId) (ad : Nat → Nat) (a1 : Int32) : oz_MI l yX0_pageIn wsX0_pageIn rmX0_pageInN D cI cZ RX0 0 oz_KSX0 ad oz_lyX0 0 [.ref (ad 0), .int a1] (FX0_pageInN a1) := by
  refine oz_ofI (wn := RX0) (bytes := cX0_pageIn) (maxL := 2) (ret := (some .int)) (T := TX0) (N := 19) (by decide) rfl rfl oz_CX0 hst (Nat.le_of_ble_eq_true rfl) ?_
  intro p e s m below meth c st A res G hr X
  have hin : ∀ w ∈ u_ws RX0 TX0 19, w ∈ wsX0_pageIn := fun w h => List.mem_cons_of_mem _ (List.mem_append_left _ (List.mem_append_right _ h))
  have lk28 := lkX0_pageInN_28
  show G 0 0 [(0, .ref (ad 0)), (1, .int a1)] [] st (FX0_pageInN a1 st)
  unfold FX0_pageInN
  refine oz_iload_n X dX0_pageIn_0 rfl 1 rfl ?_
  refine oz_callS X rfl (As := [.int a1]) (S := []) (mX0_isFrameN l hst D cI cZ ad a1) gX0_pageIn_X0_isFrame rfl rfl rfl hX0_isFrameN ⟨by decide, by decide⟩ rfl rfl (Nat.le_of_ble_eq_true rfl) dX0_pageIn_1 (by omega) (by decide) (by decide) (fun r1 s1 => ?_)
  refine oz_if_ne X (tgt := 17) dX0_pageIn_4 (by decide) (fun q2 => ?_) (fun q2 => ?_)
  · refine oz_aload_n X dX0_pageIn_17 rfl 0 rfl ?_
    refine oz_getA X hin (j := 6) rfl lk28 dX0_pageIn_18 ?_
    refine oz_iload_n X dX0_pageIn_21 rfl 1 rfl ?_
    refine oz_iald X (j := 6) rfl (by decide) dX0_pageIn_22 (fun g3 => ?_)
    exact oz_iret X rfl hr (by omega) dX0_pageIn_23
  · exact oz_none X

/-! AlmsKernel.ageOf -/
def FX0_ageOfN (a1 : Int32) (st : Int32) : Option RC := gd (oz_in a1 12) ((if FX 8 a1.toNatClampNeg = 0 then some (0, (-1), st) else none))
def rmX0_ageOfN : Room := { frames := 0, cells := 0, slots := 0, locals := 0 }
theorem hX0_ageOfN : yX0_ageOf.cls = RX0 ∧ yX0_ageOf.cls ≠ "java/lang/invoke/MethodHandle" ∧ yX0_ageOf.cls ≠ "java/lang/invoke/VarHandle" ∧ (parseMethodDescriptor yX0_ageOf.desc).map (fun d => d.parameters.length) = some 1 := by decide +kernel
theorem lkX0_ageOfN_31 : Cond.fieldLink RX0 31 RX0 (TX0 7).2.1 (TX0 7).2.2.1 ∈ wsX0_ageOf := by decide +kernel
set_option maxHeartbeats 4000000 in
set_option maxRecDepth 100000 in
theorem mX0_ageOfN (l : Launch) (hst : l.stackTraces = false) (D : va_G) (cI cZ : ClassId) (ad : Nat → Nat) (a1 : Int32) : oz_MI l yX0_ageOf wsX0_ageOf rmX0_ageOfN D cI cZ RX0 0 oz_KSX0 ad oz_lyX0 0 [.ref (ad 0), .int a1] (FX0_ageOfN a1) := by
  refine oz_ofI (wn := RX0) (bytes := cX0_ageOf) (maxL := 2) (ret := (some .int)) (T := TX0) (N := 19) (by decide) rfl rfl oz_CX0 hst (Nat.le_of_ble_eq_true rfl) ?_
  intro p e s m below meth c st A res G hr X
  have hin : ∀ w ∈ u_ws RX0 TX0 19, w ∈ wsX0_ageOf := fun w h => List.mem_cons_of_mem _ (List.mem_append_right _ h)
  have lk31 := lkX0_ageOfN_31
  show G 0 0 [(0, .ref (ad 0)), (1, .int a1)] [] st (FX0_ageOfN a1 st)
  unfold FX0_ageOfN
  refine oz_aload_n X dX0_ageOf_0 rfl 0 rfl ?_
  refine oz_getA X hin (j := 7) rfl lk31 dX0_ageOf_1 ?_
  refine oz_iload_n X dX0_ageOf_4 rfl 1 rfl ?_
  refine oz_zald X (j := 7) rfl (by decide) dX0_ageOf_5 (fun g1 => ?_)
  refine oz_if_eq X (tgt := 23) dX0_ageOf_6 (by decide) (fun q2 => ?_) (fun q2 => ?_)
  · refine oz_iconst X (v := (-1)) dX0_ageOf_23 (by decide) ?_
    exact oz_iret X rfl hr (by omega) dX0_ageOf_24
  · exact oz_none X

/-! AlmsKernel.age -/
def FX0_ageN (a1 : Int32) (st : Int32) : Option RC := bnd (FX0_isFrameN a1 st) (fun r1 s1 => (if r1 = 0 then none else bnd (FX0_ageOfN a1 s1) (fun r3 s3 => some (0, r3, s3))))
def rmX0_ageN : Room := { frames := 1, cells := 0, slots := 0, locals := 21 }
theorem hX0_ageN : yX0_age.cls = RX0 ∧ yX0_age.cls ≠ "java/lang/invoke/MethodHandle" ∧ yX0_age.cls ≠ "java/lang/invoke/VarHandle" ∧ (parseMethodDescriptor yX0_age.desc).map (fun d => d.parameters.length) = some 1 := by decide +kernel
set_option maxHeartbeats 4000000 in
set_option maxRecDepth 100000 in
theorem mX0_ageN (l : Launch) (hst : l.stackTraces = false) (D : va_G) (cI cZ : ClassId) (ad : Nat → Nat) (a1 : Int32) : oz_MI l yX0_age wsX0_age rmX0_ageN D cI cZ RX0 0 oz_KSX0 ad oz_lyX0 0 [.ref (ad 0), .int a1] (FX0_ageN a1) := by
  refine oz_ofI (wn := RX0) (bytes := cX0_age) (maxL := 2) (ret := (some .int)) (T := TX0) (N := 19) (by decide) rfl rfl oz_CX0 hst (Nat.le_of_ble_eq_true rfl) ?_
  intro p e s m below meth c st A res G hr X
  show G 0 0 [(0, .ref (ad 0)), (1, .int a1)] [] st (FX0_ageN a1 st)
  unfold FX0_ageN
  refine oz_iload_n X dX0_age_0 rfl 1 rfl ?_
  refine oz_callS X rfl (As := [.int a1]) (S := []) (mX0_isFrameN l hst D cI cZ ad a1) gX0_age_X0_isFrame rfl rfl rfl hX0_isFrameN ⟨by decide, by decide⟩ rfl rfl (Nat.le_of_ble_eq_true rfl) dX0_age_1 (by omega) (by decide) (by decide) (fun r1 s1 => ?_)
  refine oz_if_ne X (tgt := 17) dX0_age_4 (by decide) (fun q2 => ?_) (fun q2 => ?_)
  · refine oz_aload_n X dX0_age_17 rfl 0 rfl ?_
    refine oz_iload_n X dX0_age_18 rfl 1 rfl ?_
    refine oz_callV X rfl (As := [.int a1]) (S := []) (mX0_ageOfN l hst D cI cZ ad a1) gX0_age_X0_ageOf rfl rfl rfl hX0_ageOfN ⟨by decide, by decide⟩ rfl rfl (Nat.le_of_ble_eq_true rfl) dX0_age_19 (by omega) (by decide) (by decide) (fun r3 s3 => ?_)
    exact oz_iret X rfl hr (by omega) dX0_age_22
  · exact oz_none X

/-! AlmsKernel.isProcess -/
def FX0_isProcessN (a1 : Int32) (st : Int32) : Option RC := (if a1 < 0 then some (0, 0, st) else (if 5 ≤ a1 then some (0, 0, st) else some (0, 1, st)))
def rmX0_isProcessN : Room := { frames := 0, cells := 0, slots := 0, locals := 0 }
theorem hX0_isProcessN : yX0_isProcess.cls ≠ "java/lang/invoke/MethodHandle" ∧ yX0_isProcess.cls ≠ "java/lang/invoke/VarHandle" ∧ (parseMethodDescriptor yX0_isProcess.desc).map (fun d => d.parameters.length) = some 1 := by decide +kernel
set_option maxHeartbeats 4000000 in
set_option maxRecDepth 100000 in
theorem mX0_isProcessN (l : Launch) (hst : l.stackTraces = false) (D : va_G) (cI cZ : ClassId) (ad : Nat → Nat) (a1 : Int32) : oz_MI l yX0_isProcess wsX0_isProcess rmX0_isProcessN D cI cZ RX0 0 oz_KSX0 ad oz_lyX0 0 [.int a1] (FX0_isProcessN a1) := by
  refine oz_ofI (wn := RX0) (bytes := cX0_isProcess) (maxL := 1) (ret := (some .boolean)) (T := TX0) (N := 19) (by decide) rfl rfl oz_CX0 hst (Nat.le_of_ble_eq_true rfl) ?_
  intro p e s m below meth c st A res G hr X
  show G 0 0 [(0, .int a1)] [] st (FX0_isProcessN a1 st)
  unfold FX0_isProcessN
  refine oz_iload_n X dX0_isProcess_0 rfl 0 rfl ?_
  refine oz_if_lt X (tgt := 13) dX0_isProcess_1 (by decide) (fun q1 => ?_) (fun q1 => ?_)
  · refine oz_iconst X (v := 0) dX0_isProcess_13 (by decide) ?_
    exact oz_zret X rfl hr rfl (by omega) dX0_isProcess_14
  · refine oz_iload_n X dX0_isProcess_4 rfl 0 rfl ?_
    refine oz_iconst X (v := 5) dX0_isProcess_5 (by decide) ?_
    refine oz_icmp_ge X (tgt := 13) dX0_isProcess_6 (by decide) (fun q2 => ?_) (fun q2 => ?_)
    · refine oz_iconst X (v := 0) dX0_isProcess_13 (by decide) ?_
      exact oz_zret X rfl hr rfl (by omega) dX0_isProcess_14
    · refine oz_iconst X (v := 1) dX0_isProcess_9 (by decide) ?_
      refine oz_goto X (tgt := 14) dX0_isProcess_10 (by decide) ?_
      exact oz_zret X rfl hr rfl (by omega) dX0_isProcess_14

/-! AlmsKernel.purse -/
def FX0_purseN (a1 : Int32) (st : Int32) : Option RC := bnd (FX0_isProcessN a1 st) (fun r1 s1 => (if r1 = 0 then none else gd (oz_in a1 5) (some (0, FX 2 a1.toNatClampNeg, s1))))
def rmX0_purseN : Room := { frames := 1, cells := 0, slots := 0, locals := 20 }
theorem hX0_purseN : yX0_purse.cls = RX0 ∧ yX0_purse.cls ≠ "java/lang/invoke/MethodHandle" ∧ yX0_purse.cls ≠ "java/lang/invoke/VarHandle" ∧ (parseMethodDescriptor yX0_purse.desc).map (fun d => d.parameters.length) = some 1 := by decide +kernel
theorem lkX0_purseN_13 : Cond.fieldLink RX0 13 RX0 (TX0 1).2.1 (TX0 1).2.2.1 ∈ wsX0_purse := by decide +kernel
set_option maxHeartbeats 4000000 in
set_option maxRecDepth 100000 in
theorem mX0_purseN (l : Launch) (hst : l.stackTraces = false) (D : va_G) (cI cZ : ClassId) (ad : Nat → Nat) (a1 : Int32) : oz_MI l yX0_purse wsX0_purse rmX0_purseN D cI cZ RX0 0 oz_KSX0 ad oz_lyX0 0 [.ref (ad 0), .int a1] (FX0_purseN a1) := by
  refine oz_ofI (wn := RX0) (bytes := cX0_purse) (maxL := 2) (ret := (some .int)) (T := TX0) (N := 19) (by decide) rfl rfl oz_CX0 hst (Nat.le_of_ble_eq_true rfl) ?_
  intro p e s m below meth c st A res G hr X
  have hin : ∀ w ∈ u_ws RX0 TX0 19, w ∈ wsX0_purse := fun w h => List.mem_cons_of_mem _ (List.mem_append_left _ (List.mem_append_right _ h))
  have lk13 := lkX0_purseN_13
  show G 0 0 [(0, .ref (ad 0)), (1, .int a1)] [] st (FX0_purseN a1 st)
  unfold FX0_purseN
  refine oz_iload_n X dX0_purse_0 rfl 1 rfl ?_
  refine oz_callS X rfl (As := [.int a1]) (S := []) (mX0_isProcessN l hst D cI cZ ad a1) gX0_purse_X0_isProcess rfl rfl rfl hX0_isProcessN ⟨by decide, by decide⟩ rfl rfl (Nat.le_of_ble_eq_true rfl) dX0_purse_1 (by omega) (by decide) (by decide) (fun r1 s1 => ?_)
  refine oz_if_ne X (tgt := 17) dX0_purse_4 (by decide) (fun q2 => ?_) (fun q2 => ?_)
  · refine oz_aload_n X dX0_purse_17 rfl 0 rfl ?_
    refine oz_getA X hin (j := 1) rfl lk13 dX0_purse_18 ?_
    refine oz_iload_n X dX0_purse_21 rfl 1 rfl ?_
    refine oz_iald X (j := 1) rfl (by decide) dX0_purse_22 (fun g3 => ?_)
    exact oz_iret X rfl hr (by omega) dX0_purse_23
  · exact oz_none X

/-! AlmsKernel.stateOf -/
def FX0_stateOfN (a1 : Int32) (st : Int32) : Option RC := bnd (FX0_isProcessN a1 st) (fun r1 s1 => (if r1 = 0 then none else gd (oz_in a1 5) (some (0, FX 3 a1.toNatClampNeg, s1))))
def rmX0_stateOfN : Room := { frames := 1, cells := 0, slots := 0, locals := 20 }
theorem hX0_stateOfN : yX0_stateOf.cls = RX0 ∧ yX0_stateOf.cls ≠ "java/lang/invoke/MethodHandle" ∧ yX0_stateOf.cls ≠ "java/lang/invoke/VarHandle" ∧ (parseMethodDescriptor yX0_stateOf.desc).map (fun d => d.parameters.length) = some 1 := by decide +kernel
theorem lkX0_stateOfN_16 : Cond.fieldLink RX0 16 RX0 (TX0 2).2.1 (TX0 2).2.2.1 ∈ wsX0_stateOf := by decide +kernel
set_option maxHeartbeats 4000000 in
set_option maxRecDepth 100000 in
theorem mX0_stateOfN (l : Launch) (hst : l.stackTraces = false) (D : va_G) (cI cZ : ClassId) (ad : Nat → Nat) (a1 : Int32) : oz_MI l yX0_stateOf wsX0_stateOf rmX0_stateOfN D cI cZ RX0 0 oz_KSX0 ad oz_lyX0 0 [.ref (ad 0), .int a1] (FX0_stateOfN a1) := by
  refine oz_ofI (wn := RX0) (bytes := cX0_stateOf) (maxL := 2) (ret := (some .int)) (T := TX0) (N := 19) (by decide) rfl rfl oz_CX0 hst (Nat.le_of_ble_eq_true rfl) ?_
  intro p e s m below meth c st A res G hr X
  have hin : ∀ w ∈ u_ws RX0 TX0 19, w ∈ wsX0_stateOf := fun w h => List.mem_cons_of_mem _ (List.mem_append_left _ (List.mem_append_right _ h))
  have lk16 := lkX0_stateOfN_16
  show G 0 0 [(0, .ref (ad 0)), (1, .int a1)] [] st (FX0_stateOfN a1 st)
  unfold FX0_stateOfN
  refine oz_iload_n X dX0_stateOf_0 rfl 1 rfl ?_
  refine oz_callS X rfl (As := [.int a1]) (S := []) (mX0_isProcessN l hst D cI cZ ad a1) gX0_stateOf_X0_isProcess rfl rfl rfl hX0_isProcessN ⟨by decide, by decide⟩ rfl rfl (Nat.le_of_ble_eq_true rfl) dX0_stateOf_1 (by omega) (by decide) (by decide) (fun r1 s1 => ?_)
  refine oz_if_ne X (tgt := 17) dX0_stateOf_4 (by decide) (fun q2 => ?_) (fun q2 => ?_)
  · refine oz_aload_n X dX0_stateOf_17 rfl 0 rfl ?_
    refine oz_getA X hin (j := 2) rfl lk16 dX0_stateOf_18 ?_
    refine oz_iload_n X dX0_stateOf_21 rfl 1 rfl ?_
    refine oz_iald X (j := 2) rfl (by decide) dX0_stateOf_22 (fun g3 => ?_)
    exact oz_iret X rfl hr (by omega) dX0_stateOf_23
  · exact oz_none X

/-! AlmsKernel.faults -/
def FX0_faultsN (a1 : Int32) (st : Int32) : Option RC := bnd (FX0_isProcessN a1 st) (fun r1 s1 => (if r1 = 0 then none else gd (oz_in a1 5) (some (0, FX 4 a1.toNatClampNeg, s1))))
def rmX0_faultsN : Room := { frames := 1, cells := 0, slots := 0, locals := 20 }
theorem hX0_faultsN : yX0_faults.cls = RX0 ∧ yX0_faults.cls ≠ "java/lang/invoke/MethodHandle" ∧ yX0_faults.cls ≠ "java/lang/invoke/VarHandle" ∧ (parseMethodDescriptor yX0_faults.desc).map (fun d => d.parameters.length) = some 1 := by decide +kernel
theorem lkX0_faultsN_19 : Cond.fieldLink RX0 19 RX0 (TX0 3).2.1 (TX0 3).2.2.1 ∈ wsX0_faults := by decide +kernel
set_option maxHeartbeats 4000000 in
set_option maxRecDepth 100000 in
theorem mX0_faultsN (l : Launch) (hst : l.stackTraces = false) (D : va_G) (cI cZ : ClassId) (ad : Nat → Nat) (a1 : Int32) : oz_MI l yX0_faults wsX0_faults rmX0_faultsN D cI cZ RX0 0 oz_KSX0 ad oz_lyX0 0 [.ref (ad 0), .int a1] (FX0_faultsN a1) := by
  refine oz_ofI (wn := RX0) (bytes := cX0_faults) (maxL := 2) (ret := (some .int)) (T := TX0) (N := 19) (by decide) rfl rfl oz_CX0 hst (Nat.le_of_ble_eq_true rfl) ?_
  intro p e s m below meth c st A res G hr X
  have hin : ∀ w ∈ u_ws RX0 TX0 19, w ∈ wsX0_faults := fun w h => List.mem_cons_of_mem _ (List.mem_append_left _ (List.mem_append_right _ h))
  have lk19 := lkX0_faultsN_19
  show G 0 0 [(0, .ref (ad 0)), (1, .int a1)] [] st (FX0_faultsN a1 st)
  unfold FX0_faultsN
  refine oz_iload_n X dX0_faults_0 rfl 1 rfl ?_
  refine oz_callS X rfl (As := [.int a1]) (S := []) (mX0_isProcessN l hst D cI cZ ad a1) gX0_faults_X0_isProcess rfl rfl rfl hX0_isProcessN ⟨by decide, by decide⟩ rfl rfl (Nat.le_of_ble_eq_true rfl) dX0_faults_1 (by omega) (by decide) (by decide) (fun r1 s1 => ?_)
  refine oz_if_ne X (tgt := 17) dX0_faults_4 (by decide) (fun q2 => ?_) (fun q2 => ?_)
  · refine oz_aload_n X dX0_faults_17 rfl 0 rfl ?_
    refine oz_getA X hin (j := 3) rfl lk19 dX0_faults_18 ?_
    refine oz_iload_n X dX0_faults_21 rfl 1 rfl ?_
    refine oz_iald X (j := 3) rfl (by decide) dX0_faults_22 (fun g3 => ?_)
    exact oz_iret X rfl hr (by omega) dX0_faults_23
  · exact oz_none X

/-! AlmsKernel.setWage -/
def FX0_setWage (a1 a2 : Int32) (st : Int32) : Option RC := bnd (FX0_isProcessN a1 st) (fun r1 s1 => (if r1 = 0 then some (1, 0, bump s1) else (if a2 < 0 then some (3, 0, bump s1) else (if a2 ≤ 9 then none else some (3, 0, bump s1)))))
def rmX0_setWage : Room := { frames := 6, cells := 1, slots := 6, locals := 86 }
theorem hX0_setWage : yX0_setWage.cls = RX0 ∧ yX0_setWage.cls ≠ "java/lang/invoke/MethodHandle" ∧ yX0_setWage.cls ≠ "java/lang/invoke/VarHandle" ∧ (parseMethodDescriptor yX0_setWage.desc).map (fun d => d.parameters.length) = some 2 := by decide +kernel
set_option maxHeartbeats 4000000 in
set_option maxRecDepth 100000 in
theorem mX0_setWage (l : Launch) (hst : l.stackTraces = false) (D : va_G) (cI cZ : ClassId) (ad : Nat → Nat) (a1 a2 : Int32) : oz_MI l yX0_setWage wsX0_setWage rmX0_setWage D cI cZ RX0 0 oz_KSX0 ad oz_lyX0 1 [.ref (ad 0), .int a1, .int a2] (FX0_setWage a1 a2) := by
  refine oz_ofI (wn := RX0) (bytes := cX0_setWage) (maxL := 4) (ret := (some .int)) (T := TX0) (N := 19) (by decide) rfl rfl oz_CX0 hst (Nat.le_of_ble_eq_true rfl) ?_
  intro p e s m below meth c st A res G hr X
  have tk1 : Cond.classLink RX0 79 (oz_exn 1) ∈ wsX0_setWage := by decide +kernel
  have ti1 : Cond.initialized (oz_exn 1) ∈ wsX0_setWage := by decide +kernel
  have tg1 : ∀ w ∈ (vx_atS RX0 83 (oz_exn 1) oz_names).filter goodWord, w ∈ wsX0_setWage := fun w h => List.mem_cons_of_mem _ (List.mem_append_left _ (List.mem_append_right _ h))
  have tk3 : Cond.classLink RX0 86 (oz_exn 3) ∈ wsX0_setWage := by decide +kernel
  have ti3 : Cond.initialized (oz_exn 3) ∈ wsX0_setWage := by decide +kernel
  have tg3 : ∀ w ∈ (vx_atS RX0 90 (oz_exn 3) oz_names).filter goodWord, w ∈ wsX0_setWage := fun w h => List.mem_cons_of_mem _ (List.mem_append_right _ h)
  show G 0 0 [(0, .ref (ad 0)), (1, .int a1), (2, .int a2)] [] st (FX0_setWage a1 a2 st)
  unfold FX0_setWage
  refine oz_iload_n X dX0_setWage_0 rfl 1 rfl ?_
  refine oz_callS X rfl (As := [.int a1]) (S := []) (mX0_isProcessN l hst D cI cZ ad a1) gX0_setWage_X0_isProcess rfl rfl rfl hX0_isProcessN ⟨by decide, by decide⟩ rfl rfl (Nat.le_of_ble_eq_true rfl) dX0_setWage_1 (by omega) (by decide) (by decide) (fun r1 s1 => ?_)
  refine oz_if_ne X (tgt := 17) dX0_setWage_4 (by decide) (fun q2 => ?_) (fun q2 => ?_)
  · refine oz_iload_n X dX0_setWage_17 rfl 2 rfl ?_
    refine oz_if_lt X (tgt := 27) dX0_setWage_18 (by decide) (fun q3 => ?_) (fun q3 => ?_)
    · exact oz_throw X rfl 3 (text := "wage is out of range") (by decide) (oz_KSX0_88) (by decide +kernel) tk3 ti3 tg3 oz_tbX0_3 oz_twX0_3 dX0_setWage_27 dX0_setWage_30 dX0_setWage_31 dX0_setWage_33 dX0_setWage_36 (by decide) (by decide) (by omega) (by decide) (by decide)
    · refine oz_iload_n X dX0_setWage_21 rfl 2 rfl ?_
      refine oz_bipush X (v := 9) dX0_setWage_22 (by decide) ?_
      refine oz_icmp_le X (tgt := 37) dX0_setWage_24 (by decide) (fun q4 => ?_) (fun q4 => ?_)
      · exact oz_none X
      · exact oz_throw X rfl 3 (text := "wage is out of range") (by decide) (oz_KSX0_88) (by decide +kernel) tk3 ti3 tg3 oz_tbX0_3 oz_twX0_3 dX0_setWage_27 dX0_setWage_30 dX0_setWage_31 dX0_setWage_33 dX0_setWage_36 (by decide) (by decide) (by omega) (by decide) (by decide)
  · exact oz_throw X rfl 1 (text := "no such process") (by decide) (oz_KSX0_81) (by decide +kernel) tk1 ti1 tg1 oz_tbX0_1 oz_twX0_1 dX0_setWage_7 dX0_setWage_10 dX0_setWage_11 dX0_setWage_13 dX0_setWage_16 (by decide) (by decide) (by omega) (by decide) (by decide)

/-! AlmsKernel.setRate -/
def FX0_setRate (a1 : Int32) (st : Int32) : Option RC := (if a1 < 0 then some (3, 0, bump st) else (if a1 ≤ 9 then none else some (3, 0, bump st)))
def rmX0_setRate : Room := { frames := 6, cells := 1, slots := 6, locals := 86 }
theorem hX0_setRate : yX0_setRate.cls = RX0 ∧ yX0_setRate.cls ≠ "java/lang/invoke/MethodHandle" ∧ yX0_setRate.cls ≠ "java/lang/invoke/VarHandle" ∧ (parseMethodDescriptor yX0_setRate.desc).map (fun d => d.parameters.length) = some 1 := by decide +kernel
set_option maxHeartbeats 4000000 in
set_option maxRecDepth 100000 in
theorem mX0_setRate (l : Launch) (hst : l.stackTraces = false) (D : va_G) (cI cZ : ClassId) (ad : Nat → Nat) (a1 : Int32) : oz_MI l yX0_setRate wsX0_setRate rmX0_setRate D cI cZ RX0 0 oz_KSX0 ad oz_lyX0 1 [.ref (ad 0), .int a1] (FX0_setRate a1) := by
  refine oz_ofI (wn := RX0) (bytes := cX0_setRate) (maxL := 3) (ret := (some .int)) (T := TX0) (N := 19) (by decide) rfl rfl oz_CX0 hst (Nat.le_of_ble_eq_true rfl) ?_
  intro p e s m below meth c st A res G hr X
  have tk3 : Cond.classLink RX0 86 (oz_exn 3) ∈ wsX0_setRate := by decide +kernel
  have ti3 : Cond.initialized (oz_exn 3) ∈ wsX0_setRate := by decide +kernel
  have tg3 : ∀ w ∈ (vx_atS RX0 90 (oz_exn 3) oz_names).filter goodWord, w ∈ wsX0_setRate := fun w h => List.mem_cons_of_mem _ (List.mem_append_right _ h)
  show G 0 0 [(0, .ref (ad 0)), (1, .int a1)] [] st (FX0_setRate a1 st)
  unfold FX0_setRate
  refine oz_iload_n X dX0_setRate_0 rfl 1 rfl ?_
  refine oz_if_lt X (tgt := 10) dX0_setRate_1 (by decide) (fun q1 => ?_) (fun q1 => ?_)
  · exact oz_throw X rfl 3 (text := "rate is out of range") (by decide) (oz_KSX0_91) (by decide +kernel) tk3 ti3 tg3 oz_tbX0_3 oz_twX0_3 dX0_setRate_10 dX0_setRate_13 dX0_setRate_14 dX0_setRate_16 dX0_setRate_19 (by decide) (by decide) (by omega) (by decide) (by decide)
  · refine oz_iload_n X dX0_setRate_4 rfl 1 rfl ?_
    refine oz_bipush X (v := 9) dX0_setRate_5 (by decide) ?_
    refine oz_icmp_le X (tgt := 20) dX0_setRate_7 (by decide) (fun q2 => ?_) (fun q2 => ?_)
    · exact oz_none X
    · exact oz_throw X rfl 3 (text := "rate is out of range") (by decide) (oz_KSX0_91) (by decide +kernel) tk3 ti3 tg3 oz_tbX0_3 oz_twX0_3 dX0_setRate_10 dX0_setRate_13 dX0_setRate_14 dX0_setRate_16 dX0_setRate_19 (by decide) (by decide) (by omega) (by decide) (by decide)

/-! AlmsKernel.buy -/
def FX0_buy (a1 : Int32) (st : Int32) : Option RC := bnd (FX0_isProcessN a1 st) (fun r1 s1 => (if r1 = 0 then some (1, 0, bump s1) else none))
def rmX0_buy : Room := { frames := 6, cells := 1, slots := 6, locals := 86 }
theorem hX0_buy : yX0_buy.cls = RX0 ∧ yX0_buy.cls ≠ "java/lang/invoke/MethodHandle" ∧ yX0_buy.cls ≠ "java/lang/invoke/VarHandle" ∧ (parseMethodDescriptor yX0_buy.desc).map (fun d => d.parameters.length) = some 1 := by decide +kernel
set_option maxHeartbeats 4000000 in
set_option maxRecDepth 100000 in
theorem mX0_buy (l : Launch) (hst : l.stackTraces = false) (D : va_G) (cI cZ : ClassId) (ad : Nat → Nat) (a1 : Int32) : oz_MI l yX0_buy wsX0_buy rmX0_buy D cI cZ RX0 0 oz_KSX0 ad oz_lyX0 1 [.ref (ad 0), .int a1] (FX0_buy a1) := by
  refine oz_ofI (wn := RX0) (bytes := cX0_buy) (maxL := 3) (ret := (some .int)) (T := TX0) (N := 19) (by decide) rfl rfl oz_CX0 hst (Nat.le_of_ble_eq_true rfl) ?_
  intro p e s m below meth c st A res G hr X
  have tk1 : Cond.classLink RX0 79 (oz_exn 1) ∈ wsX0_buy := by decide +kernel
  have ti1 : Cond.initialized (oz_exn 1) ∈ wsX0_buy := by decide +kernel
  have tg1 : ∀ w ∈ (vx_atS RX0 83 (oz_exn 1) oz_names).filter goodWord, w ∈ wsX0_buy := fun w h => List.mem_cons_of_mem _ (List.mem_append_left _ (List.mem_append_right _ h))
  show G 0 0 [(0, .ref (ad 0)), (1, .int a1)] [] st (FX0_buy a1 st)
  unfold FX0_buy
  refine oz_iload_n X dX0_buy_0 rfl 1 rfl ?_
  refine oz_callS X rfl (As := [.int a1]) (S := []) (mX0_isProcessN l hst D cI cZ ad a1) gX0_buy_X0_isProcess rfl rfl rfl hX0_isProcessN ⟨by decide, by decide⟩ rfl rfl (Nat.le_of_ble_eq_true rfl) dX0_buy_1 (by omega) (by decide) (by decide) (fun r1 s1 => ?_)
  refine oz_if_ne X (tgt := 17) dX0_buy_4 (by decide) (fun q2 => ?_) (fun q2 => ?_)
  · exact oz_none X
  · exact oz_throw X rfl 1 (text := "no such process") (by decide) (oz_KSX0_81) (by decide +kernel) tk1 ti1 tg1 oz_tbX0_1 oz_twX0_1 dX0_buy_7 dX0_buy_10 dX0_buy_11 dX0_buy_13 dX0_buy_16 (by decide) (by decide) (by omega) (by decide) (by decide)

/-! AlmsKernel.sell -/
def FX0_sell (a1 : Int32) (st : Int32) : Option RC := bnd (FX0_isFrameN a1 st) (fun r1 s1 => (if r1 = 0 then some (1, 0, bump s1) else gd (oz_in a1 12) (bnd (FX0_isProcessN (FX 5 a1.toNatClampNeg) s1) (fun r4 s4 => (if r4 = 0 then some (2, 0, bump s4) else none)))))
def rmX0_sell : Room := { frames := 6, cells := 1, slots := 6, locals := 86 }
theorem hX0_sell : yX0_sell.cls = RX0 ∧ yX0_sell.cls ≠ "java/lang/invoke/MethodHandle" ∧ yX0_sell.cls ≠ "java/lang/invoke/VarHandle" ∧ (parseMethodDescriptor yX0_sell.desc).map (fun d => d.parameters.length) = some 1 := by decide +kernel
theorem lkX0_sell_22 : Cond.fieldLink RX0 22 RX0 (TX0 4).2.1 (TX0 4).2.2.1 ∈ wsX0_sell := by decide +kernel
set_option maxHeartbeats 4000000 in
set_option maxRecDepth 100000 in
theorem mX0_sell (l : Launch) (hst : l.stackTraces = false) (D : va_G) (cI cZ : ClassId) (ad : Nat → Nat) (a1 : Int32) : oz_MI l yX0_sell wsX0_sell rmX0_sell D cI cZ RX0 0 oz_KSX0 ad oz_lyX0 1 [.ref (ad 0), .int a1] (FX0_sell a1) := by
  refine oz_ofI (wn := RX0) (bytes := cX0_sell) (maxL := 3) (ret := (some .int)) (T := TX0) (N := 19) (by decide) rfl rfl oz_CX0 hst (Nat.le_of_ble_eq_true rfl) ?_
  intro p e s m below meth c st A res G hr X
  have hin : ∀ w ∈ u_ws RX0 TX0 19, w ∈ wsX0_sell := fun w h => List.mem_cons_of_mem _ (List.mem_append_left _ (List.mem_append_left _ (List.mem_append_right _ h)))
  have lk22 := lkX0_sell_22
  have tk1 : Cond.classLink RX0 79 (oz_exn 1) ∈ wsX0_sell := by decide +kernel
  have ti1 : Cond.initialized (oz_exn 1) ∈ wsX0_sell := by decide +kernel
  have tg1 : ∀ w ∈ (vx_atS RX0 83 (oz_exn 1) oz_names).filter goodWord, w ∈ wsX0_sell := fun w h => List.mem_cons_of_mem _ (List.mem_append_left _ (List.mem_append_right _ h))
  have tk2 : Cond.classLink RX0 93 (oz_exn 2) ∈ wsX0_sell := by decide +kernel
  have ti2 : Cond.initialized (oz_exn 2) ∈ wsX0_sell := by decide +kernel
  have tg2 : ∀ w ∈ (vx_atS RX0 97 (oz_exn 2) oz_names).filter goodWord, w ∈ wsX0_sell := fun w h => List.mem_cons_of_mem _ (List.mem_append_right _ h)
  show G 0 0 [(0, .ref (ad 0)), (1, .int a1)] [] st (FX0_sell a1 st)
  unfold FX0_sell
  refine oz_iload_n X dX0_sell_0 rfl 1 rfl ?_
  refine oz_callS X rfl (As := [.int a1]) (S := []) (mX0_isFrameN l hst D cI cZ ad a1) gX0_sell_X0_isFrame rfl rfl rfl hX0_isFrameN ⟨by decide, by decide⟩ rfl rfl (Nat.le_of_ble_eq_true rfl) dX0_sell_1 (by omega) (by decide) (by decide) (fun r1 s1 => ?_)
  refine oz_if_ne X (tgt := 17) dX0_sell_4 (by decide) (fun q2 => ?_) (fun q2 => ?_)
  · refine oz_aload_n X dX0_sell_17 rfl 0 rfl ?_
    refine oz_getA X hin (j := 4) rfl lk22 dX0_sell_18 ?_
    refine oz_iload_n X dX0_sell_21 rfl 1 rfl ?_
    refine oz_iald X (j := 4) rfl (by decide) dX0_sell_22 (fun g3 => ?_)
    refine oz_istore_n X (L2 := [(2, .int (FX 5 a1.toNatClampNeg)), (0, .ref (ad 0)), (1, .int a1)]) dX0_sell_23 rfl (by decide) rfl ?_
    refine oz_iload_n X dX0_sell_24 rfl 0 rfl ?_
    refine oz_callS X rfl (As := [.int (FX 5 a1.toNatClampNeg)]) (S := []) (mX0_isProcessN l hst D cI cZ ad (FX 5 a1.toNatClampNeg)) gX0_sell_X0_isProcess rfl rfl rfl hX0_isProcessN ⟨by decide, by decide⟩ rfl rfl (Nat.le_of_ble_eq_true rfl) dX0_sell_25 (by omega) (by decide) (by decide) (fun r4 s4 => ?_)
    refine oz_if_ne X (tgt := 41) dX0_sell_28 (by decide) (fun q5 => ?_) (fun q5 => ?_)
    · exact oz_none X
    · exact oz_throw X rfl 2 (text := "the frame is free") (by decide) (oz_KSX0_109) (by decide +kernel) tk2 ti2 tg2 oz_tbX0_2 oz_twX0_2 dX0_sell_31 dX0_sell_34 dX0_sell_35 dX0_sell_37 dX0_sell_40 (by decide) (by decide) (by omega) (by decide) (by decide)
  · exact oz_throw X rfl 1 (text := "no such frame") (by decide) (oz_KSX0_107) (by decide +kernel) tk1 ti1 tg1 oz_tbX0_1 oz_twX0_1 dX0_sell_7 dX0_sell_10 dX0_sell_11 dX0_sell_13 dX0_sell_16 (by decide) (by decide) (by omega) (by decide) (by decide)

/-! AlmsKernel.drop -/
def FX0_drop (a1 : Int32) (st : Int32) : Option RC := bnd (FX0_isFrameN a1 st) (fun r1 s1 => (if r1 = 0 then some (1, 0, bump s1) else gd (oz_in a1 12) ((if FX 8 a1.toNatClampNeg = 0 then some (2, 0, bump s1) else none))))
def rmX0_drop : Room := { frames := 6, cells := 1, slots := 6, locals := 86 }
theorem hX0_drop : yX0_drop.cls = RX0 ∧ yX0_drop.cls ≠ "java/lang/invoke/MethodHandle" ∧ yX0_drop.cls ≠ "java/lang/invoke/VarHandle" ∧ (parseMethodDescriptor yX0_drop.desc).map (fun d => d.parameters.length) = some 1 := by decide +kernel
theorem lkX0_drop_31 : Cond.fieldLink RX0 31 RX0 (TX0 7).2.1 (TX0 7).2.2.1 ∈ wsX0_drop := by decide +kernel
set_option maxHeartbeats 4000000 in
set_option maxRecDepth 100000 in
theorem mX0_drop (l : Launch) (hst : l.stackTraces = false) (D : va_G) (cI cZ : ClassId) (ad : Nat → Nat) (a1 : Int32) : oz_MI l yX0_drop wsX0_drop rmX0_drop D cI cZ RX0 0 oz_KSX0 ad oz_lyX0 1 [.ref (ad 0), .int a1] (FX0_drop a1) := by
  refine oz_ofI (wn := RX0) (bytes := cX0_drop) (maxL := 3) (ret := (some .int)) (T := TX0) (N := 19) (by decide) rfl rfl oz_CX0 hst (Nat.le_of_ble_eq_true rfl) ?_
  intro p e s m below meth c st A res G hr X
  have hin : ∀ w ∈ u_ws RX0 TX0 19, w ∈ wsX0_drop := fun w h => List.mem_cons_of_mem _ (List.mem_append_left _ (List.mem_append_left _ (List.mem_append_right _ h)))
  have lk31 := lkX0_drop_31
  have tk1 : Cond.classLink RX0 79 (oz_exn 1) ∈ wsX0_drop := by decide +kernel
  have ti1 : Cond.initialized (oz_exn 1) ∈ wsX0_drop := by decide +kernel
  have tg1 : ∀ w ∈ (vx_atS RX0 83 (oz_exn 1) oz_names).filter goodWord, w ∈ wsX0_drop := fun w h => List.mem_cons_of_mem _ (List.mem_append_left _ (List.mem_append_right _ h))
  have tk2 : Cond.classLink RX0 93 (oz_exn 2) ∈ wsX0_drop := by decide +kernel
  have ti2 : Cond.initialized (oz_exn 2) ∈ wsX0_drop := by decide +kernel
  have tg2 : ∀ w ∈ (vx_atS RX0 97 (oz_exn 2) oz_names).filter goodWord, w ∈ wsX0_drop := fun w h => List.mem_cons_of_mem _ (List.mem_append_right _ h)
  show G 0 0 [(0, .ref (ad 0)), (1, .int a1)] [] st (FX0_drop a1 st)
  unfold FX0_drop
  refine oz_iload_n X dX0_drop_0 rfl 1 rfl ?_
  refine oz_callS X rfl (As := [.int a1]) (S := []) (mX0_isFrameN l hst D cI cZ ad a1) gX0_drop_X0_isFrame rfl rfl rfl hX0_isFrameN ⟨by decide, by decide⟩ rfl rfl (Nat.le_of_ble_eq_true rfl) dX0_drop_1 (by omega) (by decide) (by decide) (fun r1 s1 => ?_)
  refine oz_if_ne X (tgt := 17) dX0_drop_4 (by decide) (fun q2 => ?_) (fun q2 => ?_)
  · refine oz_aload_n X dX0_drop_17 rfl 0 rfl ?_
    refine oz_getA X hin (j := 7) rfl lk31 dX0_drop_18 ?_
    refine oz_iload_n X dX0_drop_21 rfl 1 rfl ?_
    refine oz_zald X (j := 7) rfl (by decide) dX0_drop_22 (fun g3 => ?_)
    refine oz_if_ne X (tgt := 36) dX0_drop_23 (by decide) (fun q4 => ?_) (fun q4 => ?_)
    · exact oz_none X
    · exact oz_throw X rfl 2 (text := "no page is there") (by decide) (oz_KSX0_113) (by decide +kernel) tk2 ti2 tg2 oz_tbX0_2 oz_twX0_2 dX0_drop_26 dX0_drop_29 dX0_drop_30 dX0_drop_32 dX0_drop_35 (by decide) (by decide) (by omega) (by decide) (by decide)
  · exact oz_throw X rfl 1 (text := "no such frame") (by decide) (oz_KSX0_107) (by decide +kernel) tk1 ti1 tg1 oz_tbX0_1 oz_twX0_1 dX0_drop_7 dX0_drop_10 dX0_drop_11 dX0_drop_13 dX0_drop_16 (by decide) (by decide) (by omega) (by decide) (by decide)

/-! AlmsKernel.isPage -/
def FX0_isPageN (a1 : Int32) (st : Int32) : Option RC := (if a1 < 0 then some (0, 0, st) else (if 8 ≤ a1 then some (0, 0, st) else none))
def rmX0_isPageN : Room := { frames := 0, cells := 0, slots := 0, locals := 0 }
theorem hX0_isPageN : yX0_isPage.cls ≠ "java/lang/invoke/MethodHandle" ∧ yX0_isPage.cls ≠ "java/lang/invoke/VarHandle" ∧ (parseMethodDescriptor yX0_isPage.desc).map (fun d => d.parameters.length) = some 1 := by decide +kernel
set_option maxHeartbeats 4000000 in
set_option maxRecDepth 100000 in
theorem mX0_isPageN (l : Launch) (hst : l.stackTraces = false) (D : va_G) (cI cZ : ClassId) (ad : Nat → Nat) (a1 : Int32) : oz_MI l yX0_isPage wsX0_isPage rmX0_isPageN D cI cZ RX0 0 oz_KSX0 ad oz_lyX0 0 [.int a1] (FX0_isPageN a1) := by
  refine oz_ofI (wn := RX0) (bytes := cX0_isPage) (maxL := 1) (ret := (some .boolean)) (T := TX0) (N := 19) (by decide) rfl rfl oz_CX0 hst (Nat.le_of_ble_eq_true rfl) ?_
  intro p e s m below meth c st A res G hr X
  show G 0 0 [(0, .int a1)] [] st (FX0_isPageN a1 st)
  unfold FX0_isPageN
  refine oz_iload_n X dX0_isPage_0 rfl 0 rfl ?_
  refine oz_if_lt X (tgt := 14) dX0_isPage_1 (by decide) (fun q1 => ?_) (fun q1 => ?_)
  · refine oz_iconst X (v := 0) dX0_isPage_14 (by decide) ?_
    exact oz_zret X rfl hr rfl (by omega) dX0_isPage_15
  · refine oz_iload_n X dX0_isPage_4 rfl 0 rfl ?_
    refine oz_bipush X (v := 8) dX0_isPage_5 (by decide) ?_
    refine oz_icmp_ge X (tgt := 14) dX0_isPage_7 (by decide) (fun q2 => ?_) (fun q2 => ?_)
    · refine oz_iconst X (v := 0) dX0_isPage_14 (by decide) ?_
      exact oz_zret X rfl hr rfl (by omega) dX0_isPage_15
    · exact oz_none X

/-! AlmsKernel.touch -/
def FX0_touch (a1 a2 : Int32) (st : Int32) : Option RC := bnd (FX0_isProcessN a1 st) (fun r1 s1 => (if r1 = 0 then some (1, 0, bump s1) else bnd (FX0_isPageN a2 s1) (fun r3 s3 => (if r3 = 0 then some (1, 0, bump s3) else none))))
def rmX0_touch : Room := { frames := 6, cells := 1, slots := 6, locals := 86 }
theorem hX0_touch : yX0_touch.cls = RX0 ∧ yX0_touch.cls ≠ "java/lang/invoke/MethodHandle" ∧ yX0_touch.cls ≠ "java/lang/invoke/VarHandle" ∧ (parseMethodDescriptor yX0_touch.desc).map (fun d => d.parameters.length) = some 2 := by decide +kernel
set_option maxHeartbeats 4000000 in
set_option maxRecDepth 100000 in
theorem mX0_touch (l : Launch) (hst : l.stackTraces = false) (D : va_G) (cI cZ : ClassId) (ad : Nat → Nat) (a1 a2 : Int32) : oz_MI l yX0_touch wsX0_touch rmX0_touch D cI cZ RX0 0 oz_KSX0 ad oz_lyX0 1 [.ref (ad 0), .int a1, .int a2] (FX0_touch a1 a2) := by
  refine oz_ofI (wn := RX0) (bytes := cX0_touch) (maxL := 5) (ret := (some .int)) (T := TX0) (N := 19) (by decide) rfl rfl oz_CX0 hst (Nat.le_of_ble_eq_true rfl) ?_
  intro p e s m below meth c st A res G hr X
  have tk1 : Cond.classLink RX0 79 (oz_exn 1) ∈ wsX0_touch := by decide +kernel
  have ti1 : Cond.initialized (oz_exn 1) ∈ wsX0_touch := by decide +kernel
  have tg1 : ∀ w ∈ (vx_atS RX0 83 (oz_exn 1) oz_names).filter goodWord, w ∈ wsX0_touch := fun w h => List.mem_cons_of_mem _ (List.mem_append_left _ (List.mem_append_right _ h))
  show G 0 0 [(0, .ref (ad 0)), (1, .int a1), (2, .int a2)] [] st (FX0_touch a1 a2 st)
  unfold FX0_touch
  refine oz_iload_n X dX0_touch_0 rfl 1 rfl ?_
  refine oz_callS X rfl (As := [.int a1]) (S := []) (mX0_isProcessN l hst D cI cZ ad a1) gX0_touch_X0_isProcess rfl rfl rfl hX0_isProcessN ⟨by decide, by decide⟩ rfl rfl (Nat.le_of_ble_eq_true rfl) dX0_touch_1 (by omega) (by decide) (by decide) (fun r1 s1 => ?_)
  refine oz_if_eq X (tgt := 14) dX0_touch_4 (by decide) (fun q2 => ?_) (fun q2 => ?_)
  · exact oz_throw X rfl 1 (text := "no such process or page") (by decide) (oz_KSX0_122) (by decide +kernel) tk1 ti1 tg1 oz_tbX0_1 oz_twX0_1 dX0_touch_14 dX0_touch_17 dX0_touch_18 dX0_touch_20 dX0_touch_23 (by decide) (by decide) (by omega) (by decide) (by decide)
  · refine oz_iload_n X dX0_touch_7 rfl 2 rfl ?_
    refine oz_callS X rfl (As := [.int a2]) (S := []) (mX0_isPageN l hst D cI cZ ad a2) gX0_touch_X0_isPage rfl rfl rfl hX0_isPageN ⟨by decide, by decide⟩ rfl rfl (Nat.le_of_ble_eq_true rfl) dX0_touch_8 (by omega) (by decide) (by decide) (fun r3 s3 => ?_)
    refine oz_if_ne X (tgt := 24) dX0_touch_11 (by decide) (fun q4 => ?_) (fun q4 => ?_)
    · exact oz_none X
    · exact oz_throw X rfl 1 (text := "no such process or page") (by decide) (oz_KSX0_122) (by decide +kernel) tk1 ti1 tg1 oz_tbX0_1 oz_twX0_1 dX0_touch_14 dX0_touch_17 dX0_touch_18 dX0_touch_20 dX0_touch_23 (by decide) (by decide) (by omega) (by decide) (by decide)

/-! AlmsKernel.isLoan -/
def FX0_isLoanN (a1 : Int32) (st : Int32) : Option RC := (if a1 < 0 then some (0, 0, st) else (if 60 ≤ a1 then none else (if FX 0 14 ≤ a1 then some (0, 0, st) else none)))
def rmX0_isLoanN : Room := { frames := 0, cells := 0, slots := 0, locals := 0 }
theorem hX0_isLoanN : yX0_isLoan.cls = RX0 ∧ yX0_isLoan.cls ≠ "java/lang/invoke/MethodHandle" ∧ yX0_isLoan.cls ≠ "java/lang/invoke/VarHandle" ∧ (parseMethodDescriptor yX0_isLoan.desc).map (fun d => d.parameters.length) = some 1 := by decide +kernel
theorem lkX0_isLoanN_53 : Cond.fieldLink RX0 53 RX0 (TX0 14).2.1 (TX0 14).2.2.1 ∈ wsX0_isLoan := by decide +kernel
set_option maxHeartbeats 4000000 in
set_option maxRecDepth 100000 in
theorem mX0_isLoanN (l : Launch) (hst : l.stackTraces = false) (D : va_G) (cI cZ : ClassId) (ad : Nat → Nat) (a1 : Int32) : oz_MI l yX0_isLoan wsX0_isLoan rmX0_isLoanN D cI cZ RX0 0 oz_KSX0 ad oz_lyX0 0 [.ref (ad 0), .int a1] (FX0_isLoanN a1) := by
  refine oz_ofI (wn := RX0) (bytes := cX0_isLoan) (maxL := 2) (ret := (some .boolean)) (T := TX0) (N := 19) (by decide) rfl rfl oz_CX0 hst (Nat.le_of_ble_eq_true rfl) ?_
  intro p e s m below meth c st A res G hr X
  have hin : ∀ w ∈ u_ws RX0 TX0 19, w ∈ wsX0_isLoan := fun w h => List.mem_cons_of_mem _ (List.mem_append_right _ h)
  have lk53 := lkX0_isLoanN_53
  show G 0 0 [(0, .ref (ad 0)), (1, .int a1)] [] st (FX0_isLoanN a1 st)
  unfold FX0_isLoanN
  refine oz_iload_n X dX0_isLoan_0 rfl 1 rfl ?_
  refine oz_if_lt X (tgt := 22) dX0_isLoan_1 (by decide) (fun q1 => ?_) (fun q1 => ?_)
  · refine oz_iconst X (v := 0) dX0_isLoan_22 (by decide) ?_
    exact oz_zret X rfl hr rfl (by omega) dX0_isLoan_23
  · refine oz_iload_n X dX0_isLoan_4 rfl 1 rfl ?_
    refine oz_bipush X (v := 60) dX0_isLoan_5 (by decide) ?_
    refine oz_icmp_ge X (tgt := 22) dX0_isLoan_7 (by decide) (fun q2 => ?_) (fun q2 => ?_)
    · exact oz_none X
    · refine oz_iload_n X dX0_isLoan_10 rfl 1 rfl ?_
      refine oz_aload_n X dX0_isLoan_11 rfl 0 rfl ?_
      refine oz_getS X hin (j := 14) rfl lk53 dX0_isLoan_12 ?_
      refine oz_icmp_ge X (tgt := 22) dX0_isLoan_15 (by decide) (fun q3 => ?_) (fun q3 => ?_)
      · refine oz_iconst X (v := 0) dX0_isLoan_22 (by decide) ?_
        exact oz_zret X rfl hr rfl (by omega) dX0_isLoan_23
      · exact oz_none X

/-! AlmsKernel.payBack -/
def FX0_payBack (a1 : Int32) (st : Int32) : Option RC := bnd (FX0_isLoanN a1 st) (fun r1 s1 => (if r1 = 0 then some (1, 0, bump s1) else none))
def rmX0_payBack : Room := { frames := 6, cells := 1, slots := 6, locals := 86 }
theorem hX0_payBack : yX0_payBack.cls = RX0 ∧ yX0_payBack.cls ≠ "java/lang/invoke/MethodHandle" ∧ yX0_payBack.cls ≠ "java/lang/invoke/VarHandle" ∧ (parseMethodDescriptor yX0_payBack.desc).map (fun d => d.parameters.length) = some 1 := by decide +kernel
set_option maxHeartbeats 4000000 in
set_option maxRecDepth 100000 in
theorem mX0_payBack (l : Launch) (hst : l.stackTraces = false) (D : va_G) (cI cZ : ClassId) (ad : Nat → Nat) (a1 : Int32) : oz_MI l yX0_payBack wsX0_payBack rmX0_payBack D cI cZ RX0 0 oz_KSX0 ad oz_lyX0 1 [.ref (ad 0), .int a1] (FX0_payBack a1) := by
  refine oz_ofI (wn := RX0) (bytes := cX0_payBack) (maxL := 2) (ret := (some .int)) (T := TX0) (N := 19) (by decide) rfl rfl oz_CX0 hst (Nat.le_of_ble_eq_true rfl) ?_
  intro p e s m below meth c st A res G hr X
  have tk1 : Cond.classLink RX0 79 (oz_exn 1) ∈ wsX0_payBack := by decide +kernel
  have ti1 : Cond.initialized (oz_exn 1) ∈ wsX0_payBack := by decide +kernel
  have tg1 : ∀ w ∈ (vx_atS RX0 83 (oz_exn 1) oz_names).filter goodWord, w ∈ wsX0_payBack := fun w h => List.mem_cons_of_mem _ (List.mem_append_left _ (List.mem_append_right _ h))
  show G 0 0 [(0, .ref (ad 0)), (1, .int a1)] [] st (FX0_payBack a1 st)
  unfold FX0_payBack
  refine oz_aload_n X dX0_payBack_0 rfl 0 rfl ?_
  refine oz_iload_n X dX0_payBack_1 rfl 1 rfl ?_
  refine oz_callV X rfl (As := [.int a1]) (S := []) (mX0_isLoanN l hst D cI cZ ad a1) gX0_payBack_X0_isLoan rfl rfl rfl hX0_isLoanN ⟨by decide, by decide⟩ rfl rfl (Nat.le_of_ble_eq_true rfl) dX0_payBack_2 (by omega) (by decide) (by decide) (fun r1 s1 => ?_)
  refine oz_if_ne X (tgt := 18) dX0_payBack_5 (by decide) (fun q2 => ?_) (fun q2 => ?_)
  · exact oz_none X
  · exact oz_throw X rfl 1 (text := "no such loan") (by decide) (oz_KSX0_138) (by decide +kernel) tk1 ti1 tg1 oz_tbX0_1 oz_twX0_1 dX0_payBack_8 dX0_payBack_11 dX0_payBack_12 dX0_payBack_14 dX0_payBack_17 (by decide) (by decide) (by omega) (by decide) (by decide)

/-! AlmsKernel.advance -/
def FX0_advance (a1 : Int32) (st : Int32) : Option RC := (if a1 < 1 then some (3, 0, bump st) else (if a1 ≤ 200 then none else some (3, 0, bump st)))
def rmX0_advance : Room := { frames := 6, cells := 1, slots := 6, locals := 86 }
theorem hX0_advance : yX0_advance.cls = RX0 ∧ yX0_advance.cls ≠ "java/lang/invoke/MethodHandle" ∧ yX0_advance.cls ≠ "java/lang/invoke/VarHandle" ∧ (parseMethodDescriptor yX0_advance.desc).map (fun d => d.parameters.length) = some 1 := by decide +kernel
set_option maxHeartbeats 4000000 in
set_option maxRecDepth 100000 in
theorem mX0_advance (l : Launch) (hst : l.stackTraces = false) (D : va_G) (cI cZ : ClassId) (ad : Nat → Nat) (a1 : Int32) : oz_MI l yX0_advance wsX0_advance rmX0_advance D cI cZ RX0 0 oz_KSX0 ad oz_lyX0 1 [.ref (ad 0), .int a1] (FX0_advance a1) := by
  refine oz_ofI (wn := RX0) (bytes := cX0_advance) (maxL := 3) (ret := (some .int)) (T := TX0) (N := 19) (by decide) rfl rfl oz_CX0 hst (Nat.le_of_ble_eq_true rfl) ?_
  intro p e s m below meth c st A res G hr X
  have tk3 : Cond.classLink RX0 86 (oz_exn 3) ∈ wsX0_advance := by decide +kernel
  have ti3 : Cond.initialized (oz_exn 3) ∈ wsX0_advance := by decide +kernel
  have tg3 : ∀ w ∈ (vx_atS RX0 90 (oz_exn 3) oz_names).filter goodWord, w ∈ wsX0_advance := fun w h => List.mem_cons_of_mem _ (List.mem_append_left _ (List.mem_append_right _ h))
  show G 0 0 [(0, .ref (ad 0)), (1, .int a1)] [] st (FX0_advance a1 st)
  unfold FX0_advance
  refine oz_iload_n X dX0_advance_0 rfl 1 rfl ?_
  refine oz_iconst X (v := 1) dX0_advance_1 (by decide) ?_
  refine oz_icmp_lt X (tgt := 12) dX0_advance_2 (by decide) (fun q1 => ?_) (fun q1 => ?_)
  · exact oz_throw X rfl 3 (text := "ticks is out of range") (by decide) (oz_KSX0_148) (by decide +kernel) tk3 ti3 tg3 oz_tbX0_3 oz_twX0_3 dX0_advance_12 dX0_advance_15 dX0_advance_16 dX0_advance_18 dX0_advance_21 (by decide) (by decide) (by omega) (by decide) (by decide)
  · refine oz_iload_n X dX0_advance_5 rfl 1 rfl ?_
    refine oz_sipush X (v := 200) dX0_advance_6 (by decide) ?_
    refine oz_icmp_le X (tgt := 22) dX0_advance_9 (by decide) (fun q2 => ?_) (fun q2 => ?_)
    · exact oz_none X
    · exact oz_throw X rfl 3 (text := "ticks is out of range") (by decide) (oz_KSX0_148) (by decide +kernel) tk3 ti3 tg3 oz_tbX0_3 oz_twX0_3 dX0_advance_12 dX0_advance_15 dX0_advance_16 dX0_advance_18 dX0_advance_21 (by decide) (by decide) (by omega) (by decide) (by decide)

/-! AlmsKernel.owner -/
def FX0_owner (a1 : Int32) (st : Int32) : Option RC := bnd (FX0_isFrameN a1 st) (fun r1 s1 => (if r1 = 0 then some (1, 0, bump s1) else none))
def rmX0_owner : Room := { frames := 6, cells := 1, slots := 6, locals := 86 }
theorem hX0_owner : yX0_owner.cls = RX0 ∧ yX0_owner.cls ≠ "java/lang/invoke/MethodHandle" ∧ yX0_owner.cls ≠ "java/lang/invoke/VarHandle" ∧ (parseMethodDescriptor yX0_owner.desc).map (fun d => d.parameters.length) = some 1 := by decide +kernel
set_option maxHeartbeats 4000000 in
set_option maxRecDepth 100000 in
theorem mX0_owner (l : Launch) (hst : l.stackTraces = false) (D : va_G) (cI cZ : ClassId) (ad : Nat → Nat) (a1 : Int32) : oz_MI l yX0_owner wsX0_owner rmX0_owner D cI cZ RX0 0 oz_KSX0 ad oz_lyX0 1 [.ref (ad 0), .int a1] (FX0_owner a1) := by
  refine oz_ofI (wn := RX0) (bytes := cX0_owner) (maxL := 2) (ret := (some .int)) (T := TX0) (N := 19) (by decide) rfl rfl oz_CX0 hst (Nat.le_of_ble_eq_true rfl) ?_
  intro p e s m below meth c st A res G hr X
  have tk1 : Cond.classLink RX0 79 (oz_exn 1) ∈ wsX0_owner := by decide +kernel
  have ti1 : Cond.initialized (oz_exn 1) ∈ wsX0_owner := by decide +kernel
  have tg1 : ∀ w ∈ (vx_atS RX0 83 (oz_exn 1) oz_names).filter goodWord, w ∈ wsX0_owner := fun w h => List.mem_cons_of_mem _ (List.mem_append_right _ h)
  show G 0 0 [(0, .ref (ad 0)), (1, .int a1)] [] st (FX0_owner a1 st)
  unfold FX0_owner
  refine oz_iload_n X dX0_owner_0 rfl 1 rfl ?_
  refine oz_callS X rfl (As := [.int a1]) (S := []) (mX0_isFrameN l hst D cI cZ ad a1) gX0_owner_X0_isFrame rfl rfl rfl hX0_isFrameN ⟨by decide, by decide⟩ rfl rfl (Nat.le_of_ble_eq_true rfl) dX0_owner_1 (by omega) (by decide) (by decide) (fun r1 s1 => ?_)
  refine oz_if_ne X (tgt := 17) dX0_owner_4 (by decide) (fun q2 => ?_) (fun q2 => ?_)
  · exact oz_none X
  · exact oz_throw X rfl 1 (text := "no such frame") (by decide) (oz_KSX0_107) (by decide +kernel) tk1 ti1 tg1 oz_tbX0_1 oz_twX0_1 dX0_owner_7 dX0_owner_10 dX0_owner_11 dX0_owner_13 dX0_owner_16 (by decide) (by decide) (by omega) (by decide) (by decide)

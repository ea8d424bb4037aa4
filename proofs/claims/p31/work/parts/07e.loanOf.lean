/-! AlmsKernelLaw.loanOf -/
def FL_loanOf (a1 : Int32) (st : Int32) : Option RC := bnd (FX0_loansN st) (fun r1 s1 => (if r1 ≤ 0 then some (0, (-1), s1) else none))
def rmL_loanOf : Room := { frames := 1, cells := 0, slots := 0, locals := 20 }
theorem hL_loanOf : yL_loanOf.cls ≠ "java/lang/invoke/MethodHandle" ∧ yL_loanOf.cls ≠ "java/lang/invoke/VarHandle" ∧ (parseMethodDescriptor yL_loanOf.desc).map (fun d => d.parameters.length) = some 2 := by decide +kernel
set_option maxHeartbeats 4000000 in
set_option maxRecDepth 100000 in
theorem mL_loanOf (l : Launch) (hst : l.stackTraces = false) (D : va_G) (cI cZ : ClassId) (ad : Nat → Nat) (a1 : Int32) : oz_MI l yL_loanOf wsL_loanOf rmL_loanOf D cI cZ RX0 0 oz_KSX0 ad oz_lyX0 0 [.ref (ad 0), .int a1] (FL_loanOf a1) := by
  refine oz_ofI (wn := RL) (bytes := cL_loanOf) (maxL := 4) (ret := (some .int)) (T := TX0) (N := 19) (by decide) rfl rfl oz_CX0 hst (Nat.le_of_ble_eq_true rfl) ?_
  intro p e s m below meth c st A res G hr X
  show G 0 0 [(0, .ref (ad 0)), (1, .int a1)] [] st (FL_loanOf a1 st)
  unfold FL_loanOf
  refine oz_iconst X (v := (-1)) dL_loanOf_0 (by decide) ?_
  refine oz_istore_n X (L2 := [(2, .int (-1)), (0, .ref (ad 0)), (1, .int a1)]) dL_loanOf_1 rfl (by decide) rfl ?_
  refine oz_iconst X (v := 0) dL_loanOf_2 (by decide) ?_
  refine oz_istore_n X (L2 := [(3, .int 0), (2, .int (-1)), (0, .ref (ad 0)), (1, .int a1)]) dL_loanOf_3 rfl (by decide) rfl ?_
  refine oz_iload_n X dL_loanOf_4 rfl 0 rfl ?_
  refine oz_aload_n X dL_loanOf_5 rfl 2 rfl ?_
  refine oz_callV X rfl (As := []) (S := [.int 0]) (mX0_loansN l hst D cI cZ ad) gL_loanOf_X0_loans rfl rfl rfl hX0_loansN ⟨by decide, by decide⟩ rfl rfl (Nat.le_of_ble_eq_true rfl) dL_loanOf_6 (by omega) (by decide) (by decide) (fun r1 s1 => ?_)
  refine oz_icmp_ge X (tgt := 44) dL_loanOf_9 (by decide) (fun q2 => ?_) (fun q2 => ?_)
  · refine oz_iload_n X dL_loanOf_44 rfl 1 rfl ?_
    exact oz_iret X rfl hr (by omega) dL_loanOf_45
  · exact oz_none X

/-! AlmsKernelModel.emptyOf -/
def FX1_emptyOf_w5 : Nat → Int32 → Int32 → Int32 → ST → Option Res
  | 0, _, _, _, _ => none
  | n + 1, x1, x2, x3, st => (if x3 < 0 then some (0, x2, st) else bnd (FX1_holderOf x3 st) (fun r3 s3 => (if r3 = x1 then bnd (FX1_isEmpty x3 s3) (fun r5 s5 => (if r5 = 0 then (FX1_emptyOf_w5 n x1 x2 (x3 + (-1)) s5) else (FX1_emptyOf_w5 n x1 x3 (x3 + (-1)) s5))) else (FX1_emptyOf_w5 n x1 x2 (x3 + (-1)) s3))))
def FX1_emptyOf (a1 : Int32) (st : ST) : Option Res := (FX1_emptyOf_w5 300 a1 (-1) 11 st)
def rmX1_emptyOf : Room := { frames := 1, cells := 0, slots := 0, locals := 21 }
theorem hX1_emptyOf : yX1_emptyOf.cls = RX1 ∧ yX1_emptyOf.cls ≠ "java/lang/invoke/MethodHandle" ∧ yX1_emptyOf.cls ≠ "java/lang/invoke/VarHandle" ∧ (parseMethodDescriptor yX1_emptyOf.desc).map (fun d => d.parameters.length) = some 1 := by decide +kernel
set_option maxHeartbeats 4000000 in
set_option maxRecDepth 100000 in
theorem mX1_emptyOf (l : Launch) (hst : l.stackTraces = false) (D : va_G) (cI cZ : ClassId) (ad : Nat → Nat) (a1 : Int32) : oz_MI l yX1_emptyOf wsX1_emptyOf rmX1_emptyOf D cI cZ RX1 1 oz_KSX1 ad oz_lyX1 0 [.ref (ad 0), .int a1] (FX1_emptyOf a1) := by
  refine oz_ofI (bytes := cX1_emptyOf) (maxL := 4) (ret := (some .int)) (T := TX1) (N := 19) (by decide) rfl rfl oz_CX1 hst (Nat.le_of_ble_eq_true rfl) ?_
  intro p e s m below meth c st A res G hr X
  have hc5 : ∀ (n k : Nat), k ≤ 0 → ∀ (x1 x2 x3 : Int32) (st : ST), G k 5 [(0, .ref (ad 0)), (1, .int x1), (2, .int x2), (3, .int x3)] [] st (FX1_emptyOf_w5 n x1 x2 x3 st) := by
    intro n
    induction n with
    | zero => intros; exact oz_none X
    | succ n ih =>
      intro k hk x1 x2 x3 st
      rw [FX1_emptyOf_w5]
      refine oz_iload_n X dX1_emptyOf_5 rfl 3 rfl ?_
      refine oz_if_lt X (tgt := 38) dX1_emptyOf_6 (by decide) (fun q2 => ?_) (fun q2 => ?_)
      · refine oz_iload_n X dX1_emptyOf_38 rfl 2 rfl ?_
        exact oz_iret X rfl hr (by omega) dX1_emptyOf_39
      · refine oz_aload_n X dX1_emptyOf_9 rfl 0 rfl ?_
        refine oz_iload_n X dX1_emptyOf_10 rfl 3 rfl ?_
        refine oz_callV X rfl (As := [.int x3]) (S := []) (mX1_holderOf l hst D cI cZ ad x3) gX1_emptyOf_X1_holderOf rfl rfl rfl hX1_holderOf ⟨by decide, by decide⟩ rfl rfl (Nat.le_of_ble_eq_true rfl) dX1_emptyOf_11 (by omega) (by decide) (by decide) (fun r3 s3 => ?_)
        refine oz_iload_n X dX1_emptyOf_14 rfl 1 rfl ?_
        refine oz_icmp_ne X (tgt := 30) dX1_emptyOf_15 (by decide) (fun q4 => ?_) (fun q4 => ?_)
        · refine oz_iload_n X dX1_emptyOf_30 rfl 2 rfl ?_
          refine oz_istore_n X (L2 := [(2, .int x2), (0, .ref (ad 0)), (1, .int x1), (3, .int x3)]) dX1_emptyOf_31 rfl (by decide) rfl ?_
          refine oz_iinc X (q := 3) (v := x3 + (-1)) (L2 := [(3, .int (x3 + (-1))), (2, .int x2), (0, .ref (ad 0)), (1, .int x1)]) dX1_emptyOf_32 rfl rfl (by decide) rfl ?_
          refine oz_goto X (tgt := 5) dX1_emptyOf_35 (by decide) ?_
          exact oz_sub X [2, 3, 1, 0] (L2 := [(0, .ref (ad 0)), (1, .int x1), (2, .int x2), (3, .int (x3 + (-1)))]) rfl (ih _ (by omega) x1 x2 (x3 + (-1)) s3)
        · refine oz_aload_n X dX1_emptyOf_18 rfl 0 rfl ?_
          refine oz_iload_n X dX1_emptyOf_19 rfl 3 rfl ?_
          refine oz_callV X rfl (As := [.int x3]) (S := []) (mX1_isEmpty l hst D cI cZ ad x3) gX1_emptyOf_X1_isEmpty rfl rfl rfl hX1_isEmpty ⟨by decide, by decide⟩ rfl rfl (Nat.le_of_ble_eq_true rfl) dX1_emptyOf_20 (by omega) (by decide) (by decide) (fun r5 s5 => ?_)
          refine oz_if_eq X (tgt := 30) dX1_emptyOf_23 (by decide) (fun q6 => ?_) (fun q6 => ?_)
          · refine oz_iload_n X dX1_emptyOf_30 rfl 2 rfl ?_
            refine oz_istore_n X (L2 := [(2, .int x2), (0, .ref (ad 0)), (1, .int x1), (3, .int x3)]) dX1_emptyOf_31 rfl (by decide) rfl ?_
            refine oz_iinc X (q := 3) (v := x3 + (-1)) (L2 := [(3, .int (x3 + (-1))), (2, .int x2), (0, .ref (ad 0)), (1, .int x1)]) dX1_emptyOf_32 rfl rfl (by decide) rfl ?_
            refine oz_goto X (tgt := 5) dX1_emptyOf_35 (by decide) ?_
            exact oz_sub X [2, 3, 1, 0] (L2 := [(0, .ref (ad 0)), (1, .int x1), (2, .int x2), (3, .int (x3 + (-1)))]) rfl (ih _ (by omega) x1 x2 (x3 + (-1)) s5)
          · refine oz_iload_n X dX1_emptyOf_26 rfl 3 rfl ?_
            refine oz_goto X (tgt := 31) dX1_emptyOf_27 (by decide) ?_
            refine oz_istore_n X (L2 := [(2, .int x3), (0, .ref (ad 0)), (1, .int x1), (3, .int x3)]) dX1_emptyOf_31 rfl (by decide) rfl ?_
            refine oz_iinc X (q := 3) (v := x3 + (-1)) (L2 := [(3, .int (x3 + (-1))), (2, .int x3), (0, .ref (ad 0)), (1, .int x1)]) dX1_emptyOf_32 rfl rfl (by decide) rfl ?_
            refine oz_goto X (tgt := 5) dX1_emptyOf_35 (by decide) ?_
            exact oz_sub X [2, 3, 1, 0] (L2 := [(0, .ref (ad 0)), (1, .int x1), (2, .int x3), (3, .int (x3 + (-1)))]) rfl (ih _ (by omega) x1 x3 (x3 + (-1)) s5)
  show G 0 0 [(0, .ref (ad 0)), (1, .int a1)] [] st (FX1_emptyOf a1 st)
  unfold FX1_emptyOf
  refine oz_iconst X (v := (-1)) dX1_emptyOf_0 (by decide) ?_
  refine oz_istore_n X (L2 := [(2, .int (-1)), (0, .ref (ad 0)), (1, .int a1)]) dX1_emptyOf_1 rfl (by decide) rfl ?_
  refine oz_bipush X (v := 11) dX1_emptyOf_2 (by decide) ?_
  refine oz_istore_n X (L2 := [(3, .int 11), (2, .int (-1)), (0, .ref (ad 0)), (1, .int a1)]) dX1_emptyOf_4 rfl (by decide) rfl ?_
  exact oz_sub X [2, 3, 1, 0] (L2 := [(0, .ref (ad 0)), (1, .int a1), (2, .int (-1)), (3, .int 11)]) rfl (hc5 300 _ (by omega) a1 (-1) 11 st)

/-! AlmsKernelModel.calledIn -/
def FX1_calledIn_w9 : Nat → Int32 → Int32 → Int32 → ST → Option Res
  | 0, _, _, _, _ => none
  | n + 1, x1, x2, x3, st => (if x3 < 0 then some (0, x2, st) else gd (oz_in x3 60) ((if st 14 x3.toNatClampNeg = x1 then bnd (FX1_doesLast x3 st) (fun r5 s5 => (if r5 = 0 then (FX1_calledIn_w9 n x1 x2 (x3 + (-1)) s5) else gd (oz_in x3 60) (bnd (FX1_isComing (s5 13 x3.toNatClampNeg) s5) (fun r8 s8 => (if r8 = 0 then (FX1_calledIn_w9 n x1 x3 (x3 + (-1)) s8) else (FX1_calledIn_w9 n x1 x2 (x3 + (-1)) s8)))))) else (FX1_calledIn_w9 n x1 x2 (x3 + (-1)) st))))
def FX1_calledIn (a1 : Int32) (st : ST) : Option Res := (FX1_calledIn_w9 300 a1 (-1) ((st 0 11) - 1) st)
def rmX1_calledIn : Room := { frames := 1, cells := 0, slots := 0, locals := 21 }
theorem hX1_calledIn : yX1_calledIn.cls = RX1 ∧ yX1_calledIn.cls ≠ "java/lang/invoke/MethodHandle" ∧ yX1_calledIn.cls ≠ "java/lang/invoke/VarHandle" ∧ (parseMethodDescriptor yX1_calledIn.desc).map (fun d => d.parameters.length) = some 1 := by decide +kernel
theorem lkX1_calledIn_42 : Cond.fieldLink RX1 42 RX1 (TX1 12).2.1 (TX1 12).2.2.1 ∈ wsX1_calledIn := by decide +kernel
theorem lkX1_calledIn_45 : Cond.fieldLink RX1 45 RX1 (TX1 13).2.1 (TX1 13).2.2.1 ∈ wsX1_calledIn := by decide +kernel
theorem lkX1_calledIn_64 : Cond.fieldLink RX1 64 RX1 (TX1 11).2.1 (TX1 11).2.2.1 ∈ wsX1_calledIn := by decide +kernel
set_option maxHeartbeats 4000000 in
set_option maxRecDepth 100000 in
theorem mX1_calledIn (l : Launch) (hst : l.stackTraces = false) (D : va_G) (cI cZ : ClassId) (ad : Nat → Nat) (a1 : Int32) : oz_MI l yX1_calledIn wsX1_calledIn rmX1_calledIn D cI cZ RX1 1 oz_KSX1 ad oz_lyX1 0 [.ref (ad 0), .int a1] (FX1_calledIn a1) := by
  refine oz_ofI (bytes := cX1_calledIn) (maxL := 4) (ret := (some .int)) (T := TX1) (N := 19) (by decide) rfl rfl oz_CX1 hst (Nat.le_of_ble_eq_true rfl) ?_
  intro p e s m below meth c st A res G hr X
  have hin : ∀ w ∈ u_ws RX1 TX1 19, w ∈ wsX1_calledIn := fun w h => List.mem_cons_of_mem _ (List.mem_append_right _ h)
  have lk42 := lkX1_calledIn_42
  have lk45 := lkX1_calledIn_45
  have lk64 := lkX1_calledIn_64
  have hc9 : ∀ (n k : Nat), k ≤ 0 → ∀ (x1 x2 x3 : Int32) (st : ST), G k 9 [(0, .ref (ad 0)), (1, .int x1), (2, .int x2), (3, .int x3)] [] st (FX1_calledIn_w9 n x1 x2 x3 st) := by
    intro n
    induction n with
    | zero => intros; exact oz_none X
    | succ n ih =>
      intro k hk x1 x2 x3 st
      rw [FX1_calledIn_w9]
      refine oz_iload_n X dX1_calledIn_9 rfl 3 rfl ?_
      refine oz_if_lt X (tgt := 56) dX1_calledIn_10 (by decide) (fun q2 => ?_) (fun q2 => ?_)
      · refine oz_iload_n X dX1_calledIn_56 rfl 2 rfl ?_
        exact oz_iret X rfl hr (by omega) dX1_calledIn_57
      · refine oz_aload_n X dX1_calledIn_13 rfl 0 rfl ?_
        refine oz_getA X hin (j := 13) rfl lk45 dX1_calledIn_14 ?_
        refine oz_iload_n X dX1_calledIn_17 rfl 3 rfl ?_
        refine oz_iald X (j := 13) rfl (by decide) dX1_calledIn_18 (fun g3 => ?_)
        refine oz_iload_n X dX1_calledIn_19 rfl 1 rfl ?_
        refine oz_icmp_ne X (tgt := 48) dX1_calledIn_20 (by decide) (fun q4 => ?_) (fun q4 => ?_)
        · refine oz_iload_n X dX1_calledIn_48 rfl 2 rfl ?_
          refine oz_istore_n X (L2 := [(2, .int x2), (0, .ref (ad 0)), (1, .int x1), (3, .int x3)]) dX1_calledIn_49 rfl (by decide) rfl ?_
          refine oz_iinc X (q := 3) (v := x3 + (-1)) (L2 := [(3, .int (x3 + (-1))), (2, .int x2), (0, .ref (ad 0)), (1, .int x1)]) dX1_calledIn_50 rfl rfl (by decide) rfl ?_
          refine oz_goto X (tgt := 9) dX1_calledIn_53 (by decide) ?_
          exact oz_sub X [2, 3, 1, 0] (L2 := [(0, .ref (ad 0)), (1, .int x1), (2, .int x2), (3, .int (x3 + (-1)))]) rfl (ih _ (by omega) x1 x2 (x3 + (-1)) st)
        · refine oz_aload_n X dX1_calledIn_23 rfl 0 rfl ?_
          refine oz_iload_n X dX1_calledIn_24 rfl 3 rfl ?_
          refine oz_callV X rfl (As := [.int x3]) (S := []) (mX1_doesLast l hst D cI cZ ad x3) gX1_calledIn_X1_doesLast rfl rfl rfl hX1_doesLast ⟨by decide, by decide⟩ rfl rfl (Nat.le_of_ble_eq_true rfl) dX1_calledIn_25 (by omega) (by decide) (by decide) (fun r5 s5 => ?_)
          refine oz_if_eq X (tgt := 48) dX1_calledIn_28 (by decide) (fun q6 => ?_) (fun q6 => ?_)
          · refine oz_iload_n X dX1_calledIn_48 rfl 2 rfl ?_
            refine oz_istore_n X (L2 := [(2, .int x2), (0, .ref (ad 0)), (1, .int x1), (3, .int x3)]) dX1_calledIn_49 rfl (by decide) rfl ?_
            refine oz_iinc X (q := 3) (v := x3 + (-1)) (L2 := [(3, .int (x3 + (-1))), (2, .int x2), (0, .ref (ad 0)), (1, .int x1)]) dX1_calledIn_50 rfl rfl (by decide) rfl ?_
            refine oz_goto X (tgt := 9) dX1_calledIn_53 (by decide) ?_
            exact oz_sub X [2, 3, 1, 0] (L2 := [(0, .ref (ad 0)), (1, .int x1), (2, .int x2), (3, .int (x3 + (-1)))]) rfl (ih _ (by omega) x1 x2 (x3 + (-1)) s5)
          · refine oz_aload_n X dX1_calledIn_31 rfl 0 rfl ?_
            refine oz_aload_n X dX1_calledIn_32 rfl 0 rfl ?_
            refine oz_getA X hin (j := 12) rfl lk42 dX1_calledIn_33 ?_
            refine oz_iload_n X dX1_calledIn_36 rfl 3 rfl ?_
            refine oz_iald X (j := 12) rfl (by decide) dX1_calledIn_37 (fun g7 => ?_)
            refine oz_callV X rfl (As := [.int (s5 13 x3.toNatClampNeg)]) (S := []) (mX1_isComing l hst D cI cZ ad (s5 13 x3.toNatClampNeg)) gX1_calledIn_X1_isComing rfl rfl rfl hX1_isComing ⟨by decide, by decide⟩ rfl rfl (Nat.le_of_ble_eq_true rfl) dX1_calledIn_38 (by omega) (by decide) (by decide) (fun r8 s8 => ?_)
            refine oz_if_ne X (tgt := 48) dX1_calledIn_41 (by decide) (fun q9 => ?_) (fun q9 => ?_)
            · refine oz_iload_n X dX1_calledIn_48 rfl 2 rfl ?_
              refine oz_istore_n X (L2 := [(2, .int x2), (0, .ref (ad 0)), (1, .int x1), (3, .int x3)]) dX1_calledIn_49 rfl (by decide) rfl ?_
              refine oz_iinc X (q := 3) (v := x3 + (-1)) (L2 := [(3, .int (x3 + (-1))), (2, .int x2), (0, .ref (ad 0)), (1, .int x1)]) dX1_calledIn_50 rfl rfl (by decide) rfl ?_
              refine oz_goto X (tgt := 9) dX1_calledIn_53 (by decide) ?_
              exact oz_sub X [2, 3, 1, 0] (L2 := [(0, .ref (ad 0)), (1, .int x1), (2, .int x2), (3, .int (x3 + (-1)))]) rfl (ih _ (by omega) x1 x2 (x3 + (-1)) s8)
            · refine oz_iload_n X dX1_calledIn_44 rfl 3 rfl ?_
              refine oz_goto X (tgt := 49) dX1_calledIn_45 (by decide) ?_
              refine oz_istore_n X (L2 := [(2, .int x3), (0, .ref (ad 0)), (1, .int x1), (3, .int x3)]) dX1_calledIn_49 rfl (by decide) rfl ?_
              refine oz_iinc X (q := 3) (v := x3 + (-1)) (L2 := [(3, .int (x3 + (-1))), (2, .int x3), (0, .ref (ad 0)), (1, .int x1)]) dX1_calledIn_50 rfl rfl (by decide) rfl ?_
              refine oz_goto X (tgt := 9) dX1_calledIn_53 (by decide) ?_
              exact oz_sub X [2, 3, 1, 0] (L2 := [(0, .ref (ad 0)), (1, .int x1), (2, .int x3), (3, .int (x3 + (-1)))]) rfl (ih _ (by omega) x1 x3 (x3 + (-1)) s8)
  show G 0 0 [(0, .ref (ad 0)), (1, .int a1)] [] st (FX1_calledIn a1 st)
  unfold FX1_calledIn
  refine oz_iconst X (v := (-1)) dX1_calledIn_0 (by decide) ?_
  refine oz_istore_n X (L2 := [(2, .int (-1)), (0, .ref (ad 0)), (1, .int a1)]) dX1_calledIn_1 rfl (by decide) rfl ?_
  refine oz_aload_n X dX1_calledIn_2 rfl 1 rfl ?_
  refine oz_getS X hin (j := 11) rfl lk64 dX1_calledIn_3 ?_
  refine oz_iconst X (v := 1) dX1_calledIn_6 (by decide) ?_
  refine oz_isub X dX1_calledIn_7 ?_
  refine oz_istore_n X (L2 := [(3, .int ((st 0 11) - 1)), (2, .int (-1)), (0, .ref (ad 0)), (1, .int a1)]) dX1_calledIn_8 rfl (by decide) rfl ?_
  exact oz_sub X [2, 3, 1, 0] (L2 := [(0, .ref (ad 0)), (1, .int a1), (2, .int (-1)), (3, .int ((st 0 11) - 1))]) rfl (hc9 300 _ (by omega) a1 (-1) ((st 0 11) - 1) st)

/-! AlmsKernelModel.borrowedBy -/
def FX1_borrowedBy_w4 : Nat → Int32 → Int32 → Int32 → ST → Option Res
  | 0, _, _, _, _ => none
  | n + 1, x1, x2, x3, st => (if 12 ≤ x3 then some (0, x2, st) else gd (oz_in x3 12) ((if st 7 x3.toNatClampNeg = (-1) then (FX1_borrowedBy_w4 n x1 (x2 + 0) (x3 + 1) st) else gd (oz_in x3 12) (gd (oz_in (st 7 x3.toNatClampNeg) 60) ((if st 15 (st 7 x3.toNatClampNeg).toNatClampNeg = x1 then (FX1_borrowedBy_w4 n x1 (x2 + 1) (x3 + 1) st) else (FX1_borrowedBy_w4 n x1 (x2 + 0) (x3 + 1) st)))))))
def FX1_borrowedBy (a1 : Int32) (st : ST) : Option Res := (FX1_borrowedBy_w4 300 a1 0 0 st)
def rmX1_borrowedBy : Room := { frames := 0, cells := 0, slots := 0, locals := 0 }
theorem hX1_borrowedBy : yX1_borrowedBy.cls = RX1 ∧ yX1_borrowedBy.cls ≠ "java/lang/invoke/MethodHandle" ∧ yX1_borrowedBy.cls ≠ "java/lang/invoke/VarHandle" ∧ (parseMethodDescriptor yX1_borrowedBy.desc).map (fun d => d.parameters.length) = some 1 := by decide +kernel
theorem lkX1_borrowedBy_27 : Cond.fieldLink RX1 27 RX1 (TX1 6).2.1 (TX1 6).2.2.1 ∈ wsX1_borrowedBy := by decide +kernel
theorem lkX1_borrowedBy_48 : Cond.fieldLink RX1 48 RX1 (TX1 14).2.1 (TX1 14).2.2.1 ∈ wsX1_borrowedBy := by decide +kernel
set_option maxHeartbeats 4000000 in
set_option maxRecDepth 100000 in
theorem mX1_borrowedBy (l : Launch) (hst : l.stackTraces = false) (D : va_G) (cI cZ : ClassId) (ad : Nat → Nat) (a1 : Int32) : oz_MI l yX1_borrowedBy wsX1_borrowedBy rmX1_borrowedBy D cI cZ RX1 1 oz_KSX1 ad oz_lyX1 0 [.ref (ad 0), .int a1] (FX1_borrowedBy a1) := by
  refine oz_ofI (bytes := cX1_borrowedBy) (maxL := 4) (ret := (some .int)) (T := TX1) (N := 19) (by decide) rfl rfl oz_CX1 hst (Nat.le_of_ble_eq_true rfl) ?_
  intro p e s m below meth c st A res G hr X
  have hin : ∀ w ∈ u_ws RX1 TX1 19, w ∈ wsX1_borrowedBy := fun w h => List.mem_cons_of_mem _ (List.mem_append_right _ h)
  have lk27 := lkX1_borrowedBy_27
  have lk48 := lkX1_borrowedBy_48
  have hc4 : ∀ (n k : Nat), k ≤ 0 → ∀ (x1 x2 x3 : Int32) (st : ST), G k 4 [(0, .ref (ad 0)), (1, .int x1), (2, .int x2), (3, .int x3)] [] st (FX1_borrowedBy_w4 n x1 x2 x3 st) := by
    intro n
    induction n with
    | zero => intros; exact oz_none X
    | succ n ih =>
      intro k hk x1 x2 x3 st
      rw [FX1_borrowedBy_w4]
      refine oz_iload_n X dX1_borrowedBy_4 rfl 3 rfl ?_
      refine oz_bipush X (v := 12) dX1_borrowedBy_5 (by decide) ?_
      refine oz_icmp_ge X (tgt := 49) dX1_borrowedBy_7 (by decide) (fun q2 => ?_) (fun q2 => ?_)
      · refine oz_iload_n X dX1_borrowedBy_49 rfl 2 rfl ?_
        exact oz_iret X rfl hr (by omega) dX1_borrowedBy_50
      · refine oz_iload_n X dX1_borrowedBy_10 rfl 2 rfl ?_
        refine oz_aload_n X dX1_borrowedBy_11 rfl 0 rfl ?_
        refine oz_getA X hin (j := 6) rfl lk27 dX1_borrowedBy_12 ?_
        refine oz_iload_n X dX1_borrowedBy_15 rfl 3 rfl ?_
        refine oz_iald X (j := 6) rfl (by decide) dX1_borrowedBy_16 (fun g3 => ?_)
        refine oz_iconst X (v := (-1)) dX1_borrowedBy_17 (by decide) ?_
        refine oz_icmp_eq X (tgt := 40) dX1_borrowedBy_18 (by decide) (fun q4 => ?_) (fun q4 => ?_)
        · refine oz_iconst X (v := 0) dX1_borrowedBy_40 (by decide) ?_
          refine oz_iadd X dX1_borrowedBy_41 ?_
          refine oz_istore_n X (L2 := [(2, .int (x2 + 0)), (0, .ref (ad 0)), (1, .int x1), (3, .int x3)]) dX1_borrowedBy_42 rfl (by decide) rfl ?_
          refine oz_iinc X (q := 3) (v := x3 + 1) (L2 := [(3, .int (x3 + 1)), (2, .int (x2 + 0)), (0, .ref (ad 0)), (1, .int x1)]) dX1_borrowedBy_43 rfl rfl (by decide) rfl ?_
          refine oz_goto X (tgt := 4) dX1_borrowedBy_46 (by decide) ?_
          exact oz_sub X [2, 3, 1, 0] (L2 := [(0, .ref (ad 0)), (1, .int x1), (2, .int (x2 + 0)), (3, .int (x3 + 1))]) rfl (ih _ (by omega) x1 (x2 + 0) (x3 + 1) st)
        · refine oz_aload_n X dX1_borrowedBy_21 rfl 0 rfl ?_
          refine oz_getA X hin (j := 14) rfl lk48 dX1_borrowedBy_22 ?_
          refine oz_aload_n X dX1_borrowedBy_25 rfl 0 rfl ?_
          refine oz_getA X hin (j := 6) rfl lk27 dX1_borrowedBy_26 ?_
          refine oz_iload_n X dX1_borrowedBy_29 rfl 3 rfl ?_
          refine oz_iald X (j := 6) rfl (by decide) dX1_borrowedBy_30 (fun g5 => ?_)
          refine oz_iald X (j := 14) rfl (by decide) dX1_borrowedBy_31 (fun g6 => ?_)
          refine oz_iload_n X dX1_borrowedBy_32 rfl 1 rfl ?_
          refine oz_icmp_ne X (tgt := 40) dX1_borrowedBy_33 (by decide) (fun q7 => ?_) (fun q7 => ?_)
          · refine oz_iconst X (v := 0) dX1_borrowedBy_40 (by decide) ?_
            refine oz_iadd X dX1_borrowedBy_41 ?_
            refine oz_istore_n X (L2 := [(2, .int (x2 + 0)), (0, .ref (ad 0)), (1, .int x1), (3, .int x3)]) dX1_borrowedBy_42 rfl (by decide) rfl ?_
            refine oz_iinc X (q := 3) (v := x3 + 1) (L2 := [(3, .int (x3 + 1)), (2, .int (x2 + 0)), (0, .ref (ad 0)), (1, .int x1)]) dX1_borrowedBy_43 rfl rfl (by decide) rfl ?_
            refine oz_goto X (tgt := 4) dX1_borrowedBy_46 (by decide) ?_
            exact oz_sub X [2, 3, 1, 0] (L2 := [(0, .ref (ad 0)), (1, .int x1), (2, .int (x2 + 0)), (3, .int (x3 + 1))]) rfl (ih _ (by omega) x1 (x2 + 0) (x3 + 1) st)
          · refine oz_iconst X (v := 1) dX1_borrowedBy_36 (by decide) ?_
            refine oz_goto X (tgt := 41) dX1_borrowedBy_37 (by decide) ?_
            refine oz_iadd X dX1_borrowedBy_41 ?_
            refine oz_istore_n X (L2 := [(2, .int (x2 + 1)), (0, .ref (ad 0)), (1, .int x1), (3, .int x3)]) dX1_borrowedBy_42 rfl (by decide) rfl ?_
            refine oz_iinc X (q := 3) (v := x3 + 1) (L2 := [(3, .int (x3 + 1)), (2, .int (x2 + 1)), (0, .ref (ad 0)), (1, .int x1)]) dX1_borrowedBy_43 rfl rfl (by decide) rfl ?_
            refine oz_goto X (tgt := 4) dX1_borrowedBy_46 (by decide) ?_
            exact oz_sub X [2, 3, 1, 0] (L2 := [(0, .ref (ad 0)), (1, .int x1), (2, .int (x2 + 1)), (3, .int (x3 + 1))]) rfl (ih _ (by omega) x1 (x2 + 1) (x3 + 1) st)
  show G 0 0 [(0, .ref (ad 0)), (1, .int a1)] [] st (FX1_borrowedBy a1 st)
  unfold FX1_borrowedBy
  refine oz_iconst X (v := 0) dX1_borrowedBy_0 (by decide) ?_
  refine oz_istore_n X (L2 := [(2, .int 0), (0, .ref (ad 0)), (1, .int a1)]) dX1_borrowedBy_1 rfl (by decide) rfl ?_
  refine oz_iconst X (v := 0) dX1_borrowedBy_2 (by decide) ?_
  refine oz_istore_n X (L2 := [(3, .int 0), (2, .int 0), (0, .ref (ad 0)), (1, .int a1)]) dX1_borrowedBy_3 rfl (by decide) rfl ?_
  exact oz_sub X [2, 3, 1, 0] (L2 := [(0, .ref (ad 0)), (1, .int a1), (2, .int 0), (3, .int 0)]) rfl (hc4 300 _ (by omega) a1 0 0 st)

/-! AlmsKernelModel.canLend -/
def FX1_canLend_j25 (x1 y0 : Int32) (st : ST) : Option Res := (if y0 = 0 then some (0, 0, st) else bnd (FX1_isEmpty x1 st) (fun r3 s3 => (if r3 = 0 then bnd (FX1_ageOf x1 s3) (fun r5 s5 => (if r5 < 5 then some (0, 0, s5) else some (0, 1, s5))) else some (0, 1, s3))))
def FX1_canLend_j24 (x1 : Int32) (st : ST) : Option Res := (FX1_canLend_j25 x1 0 st)
def FX1_canLend (a1 a2 : Int32) (st : ST) : Option Res := gd (oz_in a1 12) ((if st 3 a1.toNatClampNeg = a2 then gd (oz_in a1 12) ((if st 7 a1.toNatClampNeg = (-1) then (FX1_canLend_j25 a1 1 st) else (FX1_canLend_j24 a1 st))) else (FX1_canLend_j24 a1 st)))
def rmX1_canLend : Room := { frames := 2, cells := 0, slots := 0, locals := 42 }
theorem hX1_canLend : yX1_canLend.cls = RX1 ∧ yX1_canLend.cls ≠ "java/lang/invoke/MethodHandle" ∧ yX1_canLend.cls ≠ "java/lang/invoke/VarHandle" ∧ (parseMethodDescriptor yX1_canLend.desc).map (fun d => d.parameters.length) = some 2 := by decide +kernel
theorem lkX1_canLend_13 : Cond.fieldLink RX1 13 RX1 (TX1 2).2.1 (TX1 2).2.2.1 ∈ wsX1_canLend := by decide +kernel
theorem lkX1_canLend_27 : Cond.fieldLink RX1 27 RX1 (TX1 6).2.1 (TX1 6).2.2.1 ∈ wsX1_canLend := by decide +kernel
set_option maxHeartbeats 4000000 in
set_option maxRecDepth 100000 in
theorem mX1_canLend (l : Launch) (hst : l.stackTraces = false) (D : va_G) (cI cZ : ClassId) (ad : Nat → Nat) (a1 a2 : Int32) : oz_MI l yX1_canLend wsX1_canLend rmX1_canLend D cI cZ RX1 1 oz_KSX1 ad oz_lyX1 0 [.ref (ad 0), .int a1, .int a2] (FX1_canLend a1 a2) := by
  refine oz_ofI (bytes := cX1_canLend) (maxL := 4) (ret := (some .boolean)) (T := TX1) (N := 19) (by decide) rfl rfl oz_CX1 hst (Nat.le_of_ble_eq_true rfl) ?_
  intro p e s m below meth c st A res G hr X
  have hin : ∀ w ∈ u_ws RX1 TX1 19, w ∈ wsX1_canLend := fun w h => List.mem_cons_of_mem _ (List.mem_append_right _ h)
  have lk13 := lkX1_canLend_13
  have lk27 := lkX1_canLend_27
  have hc25 : ∀ (k : Nat), k ≤ 0 → ∀ (x1 y0 : Int32) (st : ST), G k 25 [(0, .ref (ad 0)), (1, .int x1)] [.int y0] st (FX1_canLend_j25 x1 y0 st) := by
    intro k hk x1 y0 st
    unfold FX1_canLend_j25
    refine oz_istore_n X (L2 := [(3, .int y0), (0, .ref (ad 0)), (1, .int x1)]) dX1_canLend_25 rfl (by decide) rfl ?_
    refine oz_iload_n X dX1_canLend_26 rfl 0 rfl ?_
    refine oz_if_eq X (tgt := 51) dX1_canLend_27 (by decide) (fun q2 => ?_) (fun q2 => ?_)
    · refine oz_iconst X (v := 0) dX1_canLend_51 (by decide) ?_
      exact oz_zret X rfl hr rfl (by omega) dX1_canLend_52
    · refine oz_aload_n X dX1_canLend_30 rfl 1 rfl ?_
      refine oz_iload_n X dX1_canLend_31 rfl 2 rfl ?_
      refine oz_callV X rfl (As := [.int x1]) (S := []) (mX1_isEmpty l hst D cI cZ ad x1) gX1_canLend_X1_isEmpty rfl rfl rfl hX1_isEmpty ⟨by decide, by decide⟩ rfl rfl (Nat.le_of_ble_eq_true rfl) dX1_canLend_32 (by omega) (by decide) (by decide) (fun r3 s3 => ?_)
      refine oz_if_ne X (tgt := 47) dX1_canLend_35 (by decide) (fun q4 => ?_) (fun q4 => ?_)
      · refine oz_iconst X (v := 1) dX1_canLend_47 (by decide) ?_
        refine oz_goto X (tgt := 52) dX1_canLend_48 (by decide) ?_
        exact oz_zret X rfl hr rfl (by omega) dX1_canLend_52
      · refine oz_aload_n X dX1_canLend_38 rfl 1 rfl ?_
        refine oz_iload_n X dX1_canLend_39 rfl 2 rfl ?_
        refine oz_callV X rfl (As := [.int x1]) (S := []) (mX1_ageOf l hst D cI cZ ad x1) gX1_canLend_X1_ageOf rfl rfl rfl hX1_ageOf ⟨by decide, by decide⟩ rfl rfl (Nat.le_of_ble_eq_true rfl) dX1_canLend_40 (by omega) (by decide) (by decide) (fun r5 s5 => ?_)
        refine oz_iconst X (v := 5) dX1_canLend_43 (by decide) ?_
        refine oz_icmp_lt X (tgt := 51) dX1_canLend_44 (by decide) (fun q6 => ?_) (fun q6 => ?_)
        · refine oz_iconst X (v := 0) dX1_canLend_51 (by decide) ?_
          exact oz_zret X rfl hr rfl (by omega) dX1_canLend_52
        · refine oz_iconst X (v := 1) dX1_canLend_47 (by decide) ?_
          refine oz_goto X (tgt := 52) dX1_canLend_48 (by decide) ?_
          exact oz_zret X rfl hr rfl (by omega) dX1_canLend_52
  have hc24 : ∀ (k : Nat), k ≤ 0 → ∀ (x1 : Int32) (st : ST), G k 24 [(0, .ref (ad 0)), (1, .int x1)] [] st (FX1_canLend_j24 x1 st) := by
    intro k hk x1 st
    unfold FX1_canLend_j24
    refine oz_iconst X (v := 0) dX1_canLend_24 (by decide) ?_
    exact oz_sub X [0, 1] (L2 := [(0, .ref (ad 0)), (1, .int x1)]) rfl (hc25 _ (by omega) x1 0 st)
  show G 0 0 [(0, .ref (ad 0)), (1, .int a1), (2, .int a2)] [] st (FX1_canLend a1 a2 st)
  unfold FX1_canLend
  refine oz_aload_n X dX1_canLend_0 rfl 0 rfl ?_
  refine oz_getA X hin (j := 2) rfl lk13 dX1_canLend_1 ?_
  refine oz_iload_n X dX1_canLend_4 rfl 1 rfl ?_
  refine oz_iald X (j := 2) rfl (by decide) dX1_canLend_5 (fun g8 => ?_)
  refine oz_iload_n X dX1_canLend_6 rfl 2 rfl ?_
  refine oz_icmp_ne X (tgt := 24) dX1_canLend_7 (by decide) (fun q9 => ?_) (fun q9 => ?_)
  · exact oz_sub X [0, 1] (L2 := [(0, .ref (ad 0)), (1, .int a1)]) rfl (hc24 _ (by omega) a1 st)
  · refine oz_aload_n X dX1_canLend_10 rfl 0 rfl ?_
    refine oz_getA X hin (j := 6) rfl lk27 dX1_canLend_11 ?_
    refine oz_iload_n X dX1_canLend_14 rfl 1 rfl ?_
    refine oz_iald X (j := 6) rfl (by decide) dX1_canLend_15 (fun g10 => ?_)
    refine oz_iconst X (v := (-1)) dX1_canLend_16 (by decide) ?_
    refine oz_icmp_ne X (tgt := 24) dX1_canLend_17 (by decide) (fun q11 => ?_) (fun q11 => ?_)
    · exact oz_sub X [0, 1] (L2 := [(0, .ref (ad 0)), (1, .int a1)]) rfl (hc24 _ (by omega) a1 st)
    · refine oz_iconst X (v := 1) dX1_canLend_20 (by decide) ?_
      refine oz_goto X (tgt := 25) dX1_canLend_21 (by decide) ?_
      exact oz_sub X [0, 1] (L2 := [(0, .ref (ad 0)), (1, .int a1)]) rfl (hc25 _ (by omega) a1 1 st)

/-! AlmsKernelModel.isLender -/
def FX1_isLender_w4 : Nat → Int32 → Int32 → Int32 → ST → Option Res
  | 0, _, _, _, _ => none
  | n + 1, x1, x2, x3, st => (if 12 ≤ x3 then gd (oz_bit x2) (some (0, x2, st)) else (if x2 = 0 then bnd (FX1_canLend x3 x1 st) (fun r4 s4 => (if r4 = 0 then (FX1_isLender_w4 n x1 0 (x3 + 1) s4) else (FX1_isLender_w4 n x1 1 (x3 + 1) s4))) else (FX1_isLender_w4 n x1 1 (x3 + 1) st)))
def FX1_isLender (a1 : Int32) (st : ST) : Option Res := (FX1_isLender_w4 300 a1 0 0 st)
def rmX1_isLender : Room := { frames := 3, cells := 0, slots := 0, locals := 65 }
theorem hX1_isLender : yX1_isLender.cls = RX1 ∧ yX1_isLender.cls ≠ "java/lang/invoke/MethodHandle" ∧ yX1_isLender.cls ≠ "java/lang/invoke/VarHandle" ∧ (parseMethodDescriptor yX1_isLender.desc).map (fun d => d.parameters.length) = some 1 := by decide +kernel
set_option maxHeartbeats 4000000 in
set_option maxRecDepth 100000 in
theorem mX1_isLender (l : Launch) (hst : l.stackTraces = false) (D : va_G) (cI cZ : ClassId) (ad : Nat → Nat) (a1 : Int32) : oz_MI l yX1_isLender wsX1_isLender rmX1_isLender D cI cZ RX1 1 oz_KSX1 ad oz_lyX1 0 [.ref (ad 0), .int a1] (FX1_isLender a1) := by
  refine oz_ofI (bytes := cX1_isLender) (maxL := 4) (ret := (some .boolean)) (T := TX1) (N := 19) (by decide) rfl rfl oz_CX1 hst (Nat.le_of_ble_eq_true rfl) ?_
  intro p e s m below meth c st A res G hr X
  have hc4 : ∀ (n k : Nat), k ≤ 0 → ∀ (x1 x2 x3 : Int32) (st : ST), G k 4 [(0, .ref (ad 0)), (1, .int x1), (2, .int x2), (3, .int x3)] [] st (FX1_isLender_w4 n x1 x2 x3 st) := by
    intro n
    induction n with
    | zero => intros; exact oz_none X
    | succ n ih =>
      intro k hk x1 x2 x3 st
      rw [FX1_isLender_w4]
      refine oz_iload_n X dX1_isLender_4 rfl 3 rfl ?_
      refine oz_bipush X (v := 12) dX1_isLender_5 (by decide) ?_
      refine oz_icmp_ge X (tgt := 35) dX1_isLender_7 (by decide) (fun q2 => ?_) (fun q2 => ?_)
      · refine oz_iload_n X dX1_isLender_35 rfl 2 rfl ?_
        exact oz_zretG X rfl hr (by omega) dX1_isLender_36
      · refine oz_iload_n X dX1_isLender_10 rfl 2 rfl ?_
        refine oz_if_ne X (tgt := 23) dX1_isLender_11 (by decide) (fun q3 => ?_) (fun q3 => ?_)
        · refine oz_iconst X (v := 1) dX1_isLender_23 (by decide) ?_
          refine oz_goto X (tgt := 28) dX1_isLender_24 (by decide) ?_
          refine oz_istore_n X (L2 := [(2, .int 1), (0, .ref (ad 0)), (1, .int x1), (3, .int x3)]) dX1_isLender_28 rfl (by decide) rfl ?_
          refine oz_iinc X (q := 3) (v := x3 + 1) (L2 := [(3, .int (x3 + 1)), (2, .int 1), (0, .ref (ad 0)), (1, .int x1)]) dX1_isLender_29 rfl rfl (by decide) rfl ?_
          refine oz_goto X (tgt := 4) dX1_isLender_32 (by decide) ?_
          exact oz_sub X [2, 3, 1, 0] (L2 := [(0, .ref (ad 0)), (1, .int x1), (2, .int 1), (3, .int (x3 + 1))]) rfl (ih _ (by omega) x1 1 (x3 + 1) st)
        · refine oz_aload_n X dX1_isLender_14 rfl 0 rfl ?_
          refine oz_iload_n X dX1_isLender_15 rfl 3 rfl ?_
          refine oz_iload_n X dX1_isLender_16 rfl 1 rfl ?_
          refine oz_callV X rfl (As := [.int x3, .int x1]) (S := []) (mX1_canLend l hst D cI cZ ad x3 x1) gX1_isLender_X1_canLend rfl rfl rfl hX1_canLend ⟨by decide, by decide⟩ rfl rfl (Nat.le_of_ble_eq_true rfl) dX1_isLender_17 (by omega) (by decide) (by decide) (fun r4 s4 => ?_)
          refine oz_if_eq X (tgt := 27) dX1_isLender_20 (by decide) (fun q5 => ?_) (fun q5 => ?_)
          · refine oz_iconst X (v := 0) dX1_isLender_27 (by decide) ?_
            refine oz_istore_n X (L2 := [(2, .int 0), (0, .ref (ad 0)), (1, .int x1), (3, .int x3)]) dX1_isLender_28 rfl (by decide) rfl ?_
            refine oz_iinc X (q := 3) (v := x3 + 1) (L2 := [(3, .int (x3 + 1)), (2, .int 0), (0, .ref (ad 0)), (1, .int x1)]) dX1_isLender_29 rfl rfl (by decide) rfl ?_
            refine oz_goto X (tgt := 4) dX1_isLender_32 (by decide) ?_
            exact oz_sub X [2, 3, 1, 0] (L2 := [(0, .ref (ad 0)), (1, .int x1), (2, .int 0), (3, .int (x3 + 1))]) rfl (ih _ (by omega) x1 0 (x3 + 1) s4)
          · refine oz_iconst X (v := 1) dX1_isLender_23 (by decide) ?_
            refine oz_goto X (tgt := 28) dX1_isLender_24 (by decide) ?_
            refine oz_istore_n X (L2 := [(2, .int 1), (0, .ref (ad 0)), (1, .int x1), (3, .int x3)]) dX1_isLender_28 rfl (by decide) rfl ?_
            refine oz_iinc X (q := 3) (v := x3 + 1) (L2 := [(3, .int (x3 + 1)), (2, .int 1), (0, .ref (ad 0)), (1, .int x1)]) dX1_isLender_29 rfl rfl (by decide) rfl ?_
            refine oz_goto X (tgt := 4) dX1_isLender_32 (by decide) ?_
            exact oz_sub X [2, 3, 1, 0] (L2 := [(0, .ref (ad 0)), (1, .int x1), (2, .int 1), (3, .int (x3 + 1))]) rfl (ih _ (by omega) x1 1 (x3 + 1) s4)
  show G 0 0 [(0, .ref (ad 0)), (1, .int a1)] [] st (FX1_isLender a1 st)
  unfold FX1_isLender
  refine oz_iconst X (v := 0) dX1_isLender_0 (by decide) ?_
  refine oz_istore_n X (L2 := [(2, .int 0), (0, .ref (ad 0)), (1, .int a1)]) dX1_isLender_1 rfl (by decide) rfl ?_
  refine oz_iconst X (v := 0) dX1_isLender_2 (by decide) ?_
  refine oz_istore_n X (L2 := [(3, .int 0), (2, .int 0), (0, .ref (ad 0)), (1, .int a1)]) dX1_isLender_3 rfl (by decide) rfl ?_
  exact oz_sub X [2, 3, 1, 0] (L2 := [(0, .ref (ad 0)), (1, .int a1), (2, .int 0), (3, .int 0)]) rfl (hc4 300 _ (by omega) a1 0 0 st)

/-! AlmsKernelModel.lenderFor -/
def FX1_lenderFor_j27 (k4 : Int32 → Int32 → Int32 → ST → Option Res) (x1 x2 x3 y0 : Int32) (st : ST) : Option Res := (if y0 = 0 then (k4 x1 x2 (x3 + 1) st) else (if x2 = (-1) then (k4 x1 x3 (x3 + 1) st) else gd (oz_in x3 5) (gd (oz_in x2 5) ((if st 9 x3.toNatClampNeg ≤ st 9 x2.toNatClampNeg then (k4 x1 x2 (x3 + 1) st) else (k4 x1 x3 (x3 + 1) st))))))
def FX1_lenderFor_j26 (k4 : Int32 → Int32 → Int32 → ST → Option Res) (x1 x2 x3 : Int32) (st : ST) : Option Res := (FX1_lenderFor_j27 k4 x1 x2 x3 0 st)
def FX1_lenderFor_w4 : Nat → Int32 → Int32 → Int32 → ST → Option Res
  | 0, _, _, _, _ => none
  | n + 1, x1, x2, x3, st => (if 5 ≤ x3 then some (0, x2, st) else (if x3 = x1 then (FX1_lenderFor_j26 (FX1_lenderFor_w4 n) x1 x2 x3 st) else bnd (FX1_isLender x3 st) (fun r11 s11 => (if r11 = 0 then (FX1_lenderFor_j26 (FX1_lenderFor_w4 n) x1 x2 x3 s11) else (FX1_lenderFor_j27 (FX1_lenderFor_w4 n) x1 x2 x3 1 s11)))))
def FX1_lenderFor (a1 : Int32) (st : ST) : Option Res := (FX1_lenderFor_w4 300 a1 (-1) 0 st)
def rmX1_lenderFor : Room := { frames := 4, cells := 0, slots := 0, locals := 88 }
theorem hX1_lenderFor : yX1_lenderFor.cls = RX1 ∧ yX1_lenderFor.cls ≠ "java/lang/invoke/MethodHandle" ∧ yX1_lenderFor.cls ≠ "java/lang/invoke/VarHandle" ∧ (parseMethodDescriptor yX1_lenderFor.desc).map (fun d => d.parameters.length) = some 1 := by decide +kernel
theorem lkX1_lenderFor_33 : Cond.fieldLink RX1 33 RX1 (TX1 8).2.1 (TX1 8).2.2.1 ∈ wsX1_lenderFor := by decide +kernel
set_option maxHeartbeats 4000000 in
set_option maxRecDepth 100000 in
theorem mX1_lenderFor (l : Launch) (hst : l.stackTraces = false) (D : va_G) (cI cZ : ClassId) (ad : Nat → Nat) (a1 : Int32) : oz_MI l yX1_lenderFor wsX1_lenderFor rmX1_lenderFor D cI cZ RX1 1 oz_KSX1 ad oz_lyX1 0 [.ref (ad 0), .int a1] (FX1_lenderFor a1) := by
  refine oz_ofI (bytes := cX1_lenderFor) (maxL := 5) (ret := (some .int)) (T := TX1) (N := 19) (by decide) rfl rfl oz_CX1 hst (Nat.le_of_ble_eq_true rfl) ?_
  intro p e s m below meth c st A res G hr X
  have hin : ∀ w ∈ u_ws RX1 TX1 19, w ∈ wsX1_lenderFor := fun w h => List.mem_cons_of_mem _ (List.mem_append_right _ h)
  have lk33 := lkX1_lenderFor_33
  have hc27 : ∀ (k4 : Int32 → Int32 → Int32 → ST → Option Res) (hk4 : ∀ (k : Nat), k ≤ 0 → ∀ (x1 x2 x3 : Int32) (st : ST), G k 4 [(0, .ref (ad 0)), (1, .int x1), (2, .int x2), (3, .int x3)] [] st (k4 x1 x2 x3 st)) (k : Nat), k ≤ 0 → ∀ (x1 x2 x3 y0 : Int32) (st : ST), G k 27 [(0, .ref (ad 0)), (1, .int x1), (2, .int x2), (3, .int x3)] [.int y0] st (FX1_lenderFor_j27 k4 x1 x2 x3 y0 st) := by
    intro k4 hk4 k hk x1 x2 x3 y0 st
    unfold FX1_lenderFor_j27
    refine oz_istore X (L2 := [(4, .int y0), (0, .ref (ad 0)), (1, .int x1), (2, .int x2), (3, .int x3)]) dX1_lenderFor_27 (by decide) rfl ?_
    refine oz_iload X dX1_lenderFor_29 0 rfl ?_
    refine oz_if_eq X (tgt := 58) dX1_lenderFor_31 (by decide) (fun q2 => ?_) (fun q2 => ?_)
    · refine oz_iload_n X dX1_lenderFor_58 rfl 3 rfl ?_
      refine oz_istore_n X (L2 := [(2, .int x2), (4, .int y0), (0, .ref (ad 0)), (1, .int x1), (3, .int x3)]) dX1_lenderFor_59 rfl (by decide) rfl ?_
      refine oz_iinc X (q := 4) (v := x3 + 1) (L2 := [(3, .int (x3 + 1)), (2, .int x2), (4, .int y0), (0, .ref (ad 0)), (1, .int x1)]) dX1_lenderFor_60 rfl rfl (by decide) rfl ?_
      refine oz_goto X (tgt := 4) dX1_lenderFor_63 (by decide) ?_
      exact oz_sub X [3, 4, 1, 0] (L2 := [(0, .ref (ad 0)), (1, .int x1), (2, .int x2), (3, .int (x3 + 1))]) rfl (hk4 _ (by omega) x1 x2 (x3 + 1) st)
    · refine oz_iload_n X dX1_lenderFor_34 rfl 3 rfl ?_
      refine oz_iconst X (v := (-1)) dX1_lenderFor_35 (by decide) ?_
      refine oz_icmp_eq X (tgt := 54) dX1_lenderFor_36 (by decide) (fun q3 => ?_) (fun q3 => ?_)
      · refine oz_iload_n X dX1_lenderFor_54 rfl 4 rfl ?_
        refine oz_goto X (tgt := 59) dX1_lenderFor_55 (by decide) ?_
        refine oz_istore_n X (L2 := [(2, .int x3), (4, .int y0), (0, .ref (ad 0)), (1, .int x1), (3, .int x3)]) dX1_lenderFor_59 rfl (by decide) rfl ?_
        refine oz_iinc X (q := 4) (v := x3 + 1) (L2 := [(3, .int (x3 + 1)), (2, .int x3), (4, .int y0), (0, .ref (ad 0)), (1, .int x1)]) dX1_lenderFor_60 rfl rfl (by decide) rfl ?_
        refine oz_goto X (tgt := 4) dX1_lenderFor_63 (by decide) ?_
        exact oz_sub X [3, 4, 1, 0] (L2 := [(0, .ref (ad 0)), (1, .int x1), (2, .int x3), (3, .int (x3 + 1))]) rfl (hk4 _ (by omega) x1 x3 (x3 + 1) st)
      · refine oz_aload_n X dX1_lenderFor_39 rfl 1 rfl ?_
        refine oz_getA X hin (j := 8) rfl lk33 dX1_lenderFor_40 ?_
        refine oz_iload_n X dX1_lenderFor_43 rfl 4 rfl ?_
        refine oz_iald X (j := 8) rfl (by decide) dX1_lenderFor_44 (fun g4 => ?_)
        refine oz_aload_n X dX1_lenderFor_45 rfl 1 rfl ?_
        refine oz_getA X hin (j := 8) rfl lk33 dX1_lenderFor_46 ?_
        refine oz_iload_n X dX1_lenderFor_49 rfl 3 rfl ?_
        refine oz_iald X (j := 8) rfl (by decide) dX1_lenderFor_50 (fun g5 => ?_)
        refine oz_icmp_le X (tgt := 58) dX1_lenderFor_51 (by decide) (fun q6 => ?_) (fun q6 => ?_)
        · refine oz_iload_n X dX1_lenderFor_58 rfl 3 rfl ?_
          refine oz_istore_n X (L2 := [(2, .int x2), (4, .int y0), (0, .ref (ad 0)), (1, .int x1), (3, .int x3)]) dX1_lenderFor_59 rfl (by decide) rfl ?_
          refine oz_iinc X (q := 4) (v := x3 + 1) (L2 := [(3, .int (x3 + 1)), (2, .int x2), (4, .int y0), (0, .ref (ad 0)), (1, .int x1)]) dX1_lenderFor_60 rfl rfl (by decide) rfl ?_
          refine oz_goto X (tgt := 4) dX1_lenderFor_63 (by decide) ?_
          exact oz_sub X [3, 4, 1, 0] (L2 := [(0, .ref (ad 0)), (1, .int x1), (2, .int x2), (3, .int (x3 + 1))]) rfl (hk4 _ (by omega) x1 x2 (x3 + 1) st)
        · refine oz_iload_n X dX1_lenderFor_54 rfl 4 rfl ?_
          refine oz_goto X (tgt := 59) dX1_lenderFor_55 (by decide) ?_
          refine oz_istore_n X (L2 := [(2, .int x3), (4, .int y0), (0, .ref (ad 0)), (1, .int x1), (3, .int x3)]) dX1_lenderFor_59 rfl (by decide) rfl ?_
          refine oz_iinc X (q := 4) (v := x3 + 1) (L2 := [(3, .int (x3 + 1)), (2, .int x3), (4, .int y0), (0, .ref (ad 0)), (1, .int x1)]) dX1_lenderFor_60 rfl rfl (by decide) rfl ?_
          refine oz_goto X (tgt := 4) dX1_lenderFor_63 (by decide) ?_
          exact oz_sub X [3, 4, 1, 0] (L2 := [(0, .ref (ad 0)), (1, .int x1), (2, .int x3), (3, .int (x3 + 1))]) rfl (hk4 _ (by omega) x1 x3 (x3 + 1) st)
  have hc26 : ∀ (k4 : Int32 → Int32 → Int32 → ST → Option Res) (hk4 : ∀ (k : Nat), k ≤ 0 → ∀ (x1 x2 x3 : Int32) (st : ST), G k 4 [(0, .ref (ad 0)), (1, .int x1), (2, .int x2), (3, .int x3)] [] st (k4 x1 x2 x3 st)) (k : Nat), k ≤ 0 → ∀ (x1 x2 x3 : Int32) (st : ST), G k 26 [(0, .ref (ad 0)), (1, .int x1), (2, .int x2), (3, .int x3)] [] st (FX1_lenderFor_j26 k4 x1 x2 x3 st) := by
    intro k4 hk4 k hk x1 x2 x3 st
    unfold FX1_lenderFor_j26
    refine oz_iconst X (v := 0) dX1_lenderFor_26 (by decide) ?_
    exact oz_sub X [0, 1, 2, 3] (L2 := [(0, .ref (ad 0)), (1, .int x1), (2, .int x2), (3, .int x3)]) rfl (hc27 k4 hk4 _ (by omega) x1 x2 x3 0 st)
  have hc4 : ∀ (n k : Nat), k ≤ 0 → ∀ (x1 x2 x3 : Int32) (st : ST), G k 4 [(0, .ref (ad 0)), (1, .int x1), (2, .int x2), (3, .int x3)] [] st (FX1_lenderFor_w4 n x1 x2 x3 st) := by
    intro n
    induction n with
    | zero => intros; exact oz_none X
    | succ n ih =>
      intro k hk x1 x2 x3 st
      rw [FX1_lenderFor_w4]
      refine oz_iload_n X dX1_lenderFor_4 rfl 3 rfl ?_
      refine oz_iconst X (v := 5) dX1_lenderFor_5 (by decide) ?_
      refine oz_icmp_ge X (tgt := 66) dX1_lenderFor_6 (by decide) (fun q9 => ?_) (fun q9 => ?_)
      · refine oz_iload_n X dX1_lenderFor_66 rfl 2 rfl ?_
        exact oz_iret X rfl hr (by omega) dX1_lenderFor_67
      · refine oz_iload_n X dX1_lenderFor_9 rfl 3 rfl ?_
        refine oz_iload_n X dX1_lenderFor_10 rfl 1 rfl ?_
        refine oz_icmp_eq X (tgt := 26) dX1_lenderFor_11 (by decide) (fun q10 => ?_) (fun q10 => ?_)
        · exact oz_sub X [0, 1, 2, 3] (L2 := [(0, .ref (ad 0)), (1, .int x1), (2, .int x2), (3, .int x3)]) rfl (hc26 (FX1_lenderFor_w4 n) ih _ (by omega) x1 x2 x3 st)
        · refine oz_aload_n X dX1_lenderFor_14 rfl 0 rfl ?_
          refine oz_iload_n X dX1_lenderFor_15 rfl 3 rfl ?_
          refine oz_callV X rfl (As := [.int x3]) (S := []) (mX1_isLender l hst D cI cZ ad x3) gX1_lenderFor_X1_isLender rfl rfl rfl hX1_isLender ⟨by decide, by decide⟩ rfl rfl (Nat.le_of_ble_eq_true rfl) dX1_lenderFor_16 (by omega) (by decide) (by decide) (fun r11 s11 => ?_)
          refine oz_if_eq X (tgt := 26) dX1_lenderFor_19 (by decide) (fun q12 => ?_) (fun q12 => ?_)
          · exact oz_sub X [0, 1, 2, 3] (L2 := [(0, .ref (ad 0)), (1, .int x1), (2, .int x2), (3, .int x3)]) rfl (hc26 (FX1_lenderFor_w4 n) ih _ (by omega) x1 x2 x3 s11)
          · refine oz_iconst X (v := 1) dX1_lenderFor_22 (by decide) ?_
            refine oz_goto X (tgt := 27) dX1_lenderFor_23 (by decide) ?_
            exact oz_sub X [0, 1, 2, 3] (L2 := [(0, .ref (ad 0)), (1, .int x1), (2, .int x2), (3, .int x3)]) rfl (hc27 (FX1_lenderFor_w4 n) ih _ (by omega) x1 x2 x3 1 s11)
  show G 0 0 [(0, .ref (ad 0)), (1, .int a1)] [] st (FX1_lenderFor a1 st)
  unfold FX1_lenderFor
  refine oz_iconst X (v := (-1)) dX1_lenderFor_0 (by decide) ?_
  refine oz_istore_n X (L2 := [(2, .int (-1)), (0, .ref (ad 0)), (1, .int a1)]) dX1_lenderFor_1 rfl (by decide) rfl ?_
  refine oz_iconst X (v := 0) dX1_lenderFor_2 (by decide) ?_
  refine oz_istore_n X (L2 := [(3, .int 0), (2, .int (-1)), (0, .ref (ad 0)), (1, .int a1)]) dX1_lenderFor_3 rfl (by decide) rfl ?_
  exact oz_sub X [2, 3, 1, 0] (L2 := [(0, .ref (ad 0)), (1, .int a1), (2, .int (-1)), (3, .int 0)]) rfl (hc4 300 _ (by omega) a1 (-1) 0 st)

/-! AlmsKernelModel.worth -/
def FX1_worth (a1 : Int32) (st : ST) : Option Res := bnd (FX1_isEmpty a1 st) (fun r1 s1 => (if r1 = 0 then bnd (FX1_ageOf a1 s1) (fun r3 s3 => some (0, r3, s3)) else some (0, 50001, s1)))
def rmX1_worth : Room := { frames := 2, cells := 0, slots := 0, locals := 42 }
theorem hX1_worth : yX1_worth.cls = RX1 ∧ yX1_worth.cls ≠ "java/lang/invoke/MethodHandle" ∧ yX1_worth.cls ≠ "java/lang/invoke/VarHandle" ∧ (parseMethodDescriptor yX1_worth.desc).map (fun d => d.parameters.length) = some 1 := by decide +kernel
set_option maxHeartbeats 4000000 in
set_option maxRecDepth 100000 in
theorem mX1_worth (l : Launch) (hst : l.stackTraces = false) (D : va_G) (cI cZ : ClassId) (ad : Nat → Nat) (a1 : Int32) : oz_MI l yX1_worth wsX1_worth rmX1_worth D cI cZ RX1 1 oz_KSX1 ad oz_lyX1 0 [.ref (ad 0), .int a1] (FX1_worth a1) := by
  refine oz_ofI (bytes := cX1_worth) (maxL := 2) (ret := (some .int)) (T := TX1) (N := 19) (by decide) rfl rfl oz_CX1 hst (Nat.le_of_ble_eq_true rfl) ?_
  intro p e s m below meth c st A res G hr X
  show G 0 0 [(0, .ref (ad 0)), (1, .int a1)] [] st (FX1_worth a1 st)
  unfold FX1_worth
  refine oz_aload_n X dX1_worth_0 rfl 0 rfl ?_
  refine oz_iload_n X dX1_worth_1 rfl 1 rfl ?_
  refine oz_callV X rfl (As := [.int a1]) (S := []) (mX1_isEmpty l hst D cI cZ ad a1) gX1_worth_X1_isEmpty rfl rfl rfl hX1_isEmpty ⟨by decide, by decide⟩ rfl rfl (Nat.le_of_ble_eq_true rfl) dX1_worth_2 (by omega) (by decide) (by decide) (fun r1 s1 => ?_)
  refine oz_if_eq X (tgt := 13) dX1_worth_5 (by decide) (fun q2 => ?_) (fun q2 => ?_)
  · refine oz_aload_n X dX1_worth_13 rfl 0 rfl ?_
    refine oz_iload_n X dX1_worth_14 rfl 1 rfl ?_
    refine oz_callV X rfl (As := [.int a1]) (S := []) (mX1_ageOf l hst D cI cZ ad a1) gX1_worth_X1_ageOf rfl rfl rfl hX1_ageOf ⟨by decide, by decide⟩ rfl rfl (Nat.le_of_ble_eq_true rfl) dX1_worth_15 (by omega) (by decide) (by decide) (fun r3 s3 => ?_)
    exact oz_iret X rfl hr (by omega) dX1_worth_18
  · refine oz_ldc X (v := 50001) (by decide +kernel) dX1_worth_8 ?_
    refine oz_goto X (tgt := 18) dX1_worth_10 (by decide) ?_
    exact oz_iret X rfl hr (by omega) dX1_worth_18

/-! AlmsKernelModel.frameOf -/
def FX1_frameOf_w4 : Nat → Int32 → Int32 → Int32 → ST → Option Res
  | 0, _, _, _, _ => none
  | n + 1, x1, x2, x3, st => (if 12 ≤ x3 then some (0, x2, st) else bnd (FX1_canLend x3 x1 st) (fun r3 s3 => (if r3 = 0 then (FX1_frameOf_w4 n x1 x2 (x3 + 1) s3) else (if x2 = (-1) then (FX1_frameOf_w4 n x1 x3 (x3 + 1) s3) else bnd (FX1_worth x3 s3) (fun r6 s6 => bnd (FX1_worth x2 s6) (fun r7 s7 => (if r6 ≤ r7 then (FX1_frameOf_w4 n x1 x2 (x3 + 1) s7) else (FX1_frameOf_w4 n x1 x3 (x3 + 1) s7))))))))
def FX1_frameOf (a1 : Int32) (st : ST) : Option Res := (FX1_frameOf_w4 300 a1 (-1) 0 st)
def rmX1_frameOf : Room := { frames := 3, cells := 0, slots := 0, locals := 65 }
theorem hX1_frameOf : yX1_frameOf.cls = RX1 ∧ yX1_frameOf.cls ≠ "java/lang/invoke/MethodHandle" ∧ yX1_frameOf.cls ≠ "java/lang/invoke/VarHandle" ∧ (parseMethodDescriptor yX1_frameOf.desc).map (fun d => d.parameters.length) = some 1 := by decide +kernel
set_option maxHeartbeats 4000000 in
set_option maxRecDepth 100000 in
theorem mX1_frameOf (l : Launch) (hst : l.stackTraces = false) (D : va_G) (cI cZ : ClassId) (ad : Nat → Nat) (a1 : Int32) : oz_MI l yX1_frameOf wsX1_frameOf rmX1_frameOf D cI cZ RX1 1 oz_KSX1 ad oz_lyX1 0 [.ref (ad 0), .int a1] (FX1_frameOf a1) := by
  refine oz_ofI (bytes := cX1_frameOf) (maxL := 4) (ret := (some .int)) (T := TX1) (N := 19) (by decide) rfl rfl oz_CX1 hst (Nat.le_of_ble_eq_true rfl) ?_
  intro p e s m below meth c st A res G hr X
  have hc4 : ∀ (n k : Nat), k ≤ 0 → ∀ (x1 x2 x3 : Int32) (st : ST), G k 4 [(0, .ref (ad 0)), (1, .int x1), (2, .int x2), (3, .int x3)] [] st (FX1_frameOf_w4 n x1 x2 x3 st) := by
    intro n
    induction n with
    | zero => intros; exact oz_none X
    | succ n ih =>
      intro k hk x1 x2 x3 st
      rw [FX1_frameOf_w4]
      refine oz_iload_n X dX1_frameOf_4 rfl 3 rfl ?_
      refine oz_bipush X (v := 12) dX1_frameOf_5 (by decide) ?_
      refine oz_icmp_ge X (tgt := 49) dX1_frameOf_7 (by decide) (fun q2 => ?_) (fun q2 => ?_)
      · refine oz_iload_n X dX1_frameOf_49 rfl 2 rfl ?_
        exact oz_iret X rfl hr (by omega) dX1_frameOf_50
      · refine oz_aload_n X dX1_frameOf_10 rfl 0 rfl ?_
        refine oz_iload_n X dX1_frameOf_11 rfl 3 rfl ?_
        refine oz_iload_n X dX1_frameOf_12 rfl 1 rfl ?_
        refine oz_callV X rfl (As := [.int x3, .int x1]) (S := []) (mX1_canLend l hst D cI cZ ad x3 x1) gX1_frameOf_X1_canLend rfl rfl rfl hX1_canLend ⟨by decide, by decide⟩ rfl rfl (Nat.le_of_ble_eq_true rfl) dX1_frameOf_13 (by omega) (by decide) (by decide) (fun r3 s3 => ?_)
        refine oz_if_eq X (tgt := 41) dX1_frameOf_16 (by decide) (fun q4 => ?_) (fun q4 => ?_)
        · refine oz_iload_n X dX1_frameOf_41 rfl 2 rfl ?_
          refine oz_istore_n X (L2 := [(2, .int x2), (0, .ref (ad 0)), (1, .int x1), (3, .int x3)]) dX1_frameOf_42 rfl (by decide) rfl ?_
          refine oz_iinc X (q := 3) (v := x3 + 1) (L2 := [(3, .int (x3 + 1)), (2, .int x2), (0, .ref (ad 0)), (1, .int x1)]) dX1_frameOf_43 rfl rfl (by decide) rfl ?_
          refine oz_goto X (tgt := 4) dX1_frameOf_46 (by decide) ?_
          exact oz_sub X [2, 3, 1, 0] (L2 := [(0, .ref (ad 0)), (1, .int x1), (2, .int x2), (3, .int (x3 + 1))]) rfl (ih _ (by omega) x1 x2 (x3 + 1) s3)
        · refine oz_iload_n X dX1_frameOf_19 rfl 2 rfl ?_
          refine oz_iconst X (v := (-1)) dX1_frameOf_20 (by decide) ?_
          refine oz_icmp_eq X (tgt := 37) dX1_frameOf_21 (by decide) (fun q5 => ?_) (fun q5 => ?_)
          · refine oz_iload_n X dX1_frameOf_37 rfl 3 rfl ?_
            refine oz_goto X (tgt := 42) dX1_frameOf_38 (by decide) ?_
            refine oz_istore_n X (L2 := [(2, .int x3), (0, .ref (ad 0)), (1, .int x1), (3, .int x3)]) dX1_frameOf_42 rfl (by decide) rfl ?_
            refine oz_iinc X (q := 3) (v := x3 + 1) (L2 := [(3, .int (x3 + 1)), (2, .int x3), (0, .ref (ad 0)), (1, .int x1)]) dX1_frameOf_43 rfl rfl (by decide) rfl ?_
            refine oz_goto X (tgt := 4) dX1_frameOf_46 (by decide) ?_
            exact oz_sub X [2, 3, 1, 0] (L2 := [(0, .ref (ad 0)), (1, .int x1), (2, .int x3), (3, .int (x3 + 1))]) rfl (ih _ (by omega) x1 x3 (x3 + 1) s3)
          · refine oz_aload_n X dX1_frameOf_24 rfl 0 rfl ?_
            refine oz_iload_n X dX1_frameOf_25 rfl 3 rfl ?_
            refine oz_callV X rfl (As := [.int x3]) (S := []) (mX1_worth l hst D cI cZ ad x3) gX1_frameOf_X1_worth rfl rfl rfl hX1_worth ⟨by decide, by decide⟩ rfl rfl (Nat.le_of_ble_eq_true rfl) dX1_frameOf_26 (by omega) (by decide) (by decide) (fun r6 s6 => ?_)
            refine oz_aload_n X dX1_frameOf_29 rfl 0 rfl ?_
            refine oz_iload_n X dX1_frameOf_30 rfl 2 rfl ?_
            refine oz_callV X rfl (As := [.int x2]) (S := [.int r6]) (mX1_worth l hst D cI cZ ad x2) gX1_frameOf_X1_worth rfl rfl rfl hX1_worth ⟨by decide, by decide⟩ rfl rfl (Nat.le_of_ble_eq_true rfl) dX1_frameOf_31 (by omega) (by decide) (by decide) (fun r7 s7 => ?_)
            refine oz_icmp_le X (tgt := 41) dX1_frameOf_34 (by decide) (fun q8 => ?_) (fun q8 => ?_)
            · refine oz_iload_n X dX1_frameOf_41 rfl 2 rfl ?_
              refine oz_istore_n X (L2 := [(2, .int x2), (0, .ref (ad 0)), (1, .int x1), (3, .int x3)]) dX1_frameOf_42 rfl (by decide) rfl ?_
              refine oz_iinc X (q := 3) (v := x3 + 1) (L2 := [(3, .int (x3 + 1)), (2, .int x2), (0, .ref (ad 0)), (1, .int x1)]) dX1_frameOf_43 rfl rfl (by decide) rfl ?_
              refine oz_goto X (tgt := 4) dX1_frameOf_46 (by decide) ?_
              exact oz_sub X [2, 3, 1, 0] (L2 := [(0, .ref (ad 0)), (1, .int x1), (2, .int x2), (3, .int (x3 + 1))]) rfl (ih _ (by omega) x1 x2 (x3 + 1) s7)
            · refine oz_iload_n X dX1_frameOf_37 rfl 3 rfl ?_
              refine oz_goto X (tgt := 42) dX1_frameOf_38 (by decide) ?_
              refine oz_istore_n X (L2 := [(2, .int x3), (0, .ref (ad 0)), (1, .int x1), (3, .int x3)]) dX1_frameOf_42 rfl (by decide) rfl ?_
              refine oz_iinc X (q := 3) (v := x3 + 1) (L2 := [(3, .int (x3 + 1)), (2, .int x3), (0, .ref (ad 0)), (1, .int x1)]) dX1_frameOf_43 rfl rfl (by decide) rfl ?_
              refine oz_goto X (tgt := 4) dX1_frameOf_46 (by decide) ?_
              exact oz_sub X [2, 3, 1, 0] (L2 := [(0, .ref (ad 0)), (1, .int x1), (2, .int x3), (3, .int (x3 + 1))]) rfl (ih _ (by omega) x1 x3 (x3 + 1) s7)
  show G 0 0 [(0, .ref (ad 0)), (1, .int a1)] [] st (FX1_frameOf a1 st)
  unfold FX1_frameOf
  refine oz_iconst X (v := (-1)) dX1_frameOf_0 (by decide) ?_
  refine oz_istore_n X (L2 := [(2, .int (-1)), (0, .ref (ad 0)), (1, .int a1)]) dX1_frameOf_1 rfl (by decide) rfl ?_
  refine oz_iconst X (v := 0) dX1_frameOf_2 (by decide) ?_
  refine oz_istore_n X (L2 := [(3, .int 0), (2, .int (-1)), (0, .ref (ad 0)), (1, .int a1)]) dX1_frameOf_3 rfl (by decide) rfl ?_
  exact oz_sub X [2, 3, 1, 0] (L2 := [(0, .ref (ad 0)), (1, .int a1), (2, .int (-1)), (3, .int 0)]) rfl (hc4 300 _ (by omega) a1 (-1) 0 st)

/-! AlmsKernelModel.oldestOf -/
def FX1_oldestOf_j32 (k4 : Int32 → Int32 → Int32 → ST → Option Res) (x1 x2 x3 y0 : Int32) (st : ST) : Option Res := (if y0 = 0 then (k4 x1 x2 (x3 + 1) st) else (if x2 = (-1) then (k4 x1 x3 (x3 + 1) st) else bnd (FX1_ageOf x3 st) (fun r4 s4 => bnd (FX1_ageOf x2 s4) (fun r5 s5 => (if r4 ≤ r5 then (k4 x1 x2 (x3 + 1) s5) else (k4 x1 x3 (x3 + 1) s5))))))
def FX1_oldestOf_j31 (k4 : Int32 → Int32 → Int32 → ST → Option Res) (x1 x2 x3 : Int32) (st : ST) : Option Res := (FX1_oldestOf_j32 k4 x1 x2 x3 0 st)
def FX1_oldestOf_w4 : Nat → Int32 → Int32 → Int32 → ST → Option Res
  | 0, _, _, _, _ => none
  | n + 1, x1, x2, x3, st => (if 12 ≤ x3 then some (0, x2, st) else bnd (FX1_holderOf x3 st) (fun r10 s10 => (if r10 = x1 then bnd (FX1_hasPage x3 s10) (fun r12 s12 => (if r12 = 0 then (FX1_oldestOf_j31 (FX1_oldestOf_w4 n) x1 x2 x3 s12) else (FX1_oldestOf_j32 (FX1_oldestOf_w4 n) x1 x2 x3 1 s12))) else (FX1_oldestOf_j31 (FX1_oldestOf_w4 n) x1 x2 x3 s10))))
def FX1_oldestOf (a1 : Int32) (st : ST) : Option Res := (FX1_oldestOf_w4 300 a1 (-1) 0 st)
def rmX1_oldestOf : Room := { frames := 2, cells := 0, slots := 0, locals := 42 }
theorem hX1_oldestOf : yX1_oldestOf.cls = RX1 ∧ yX1_oldestOf.cls ≠ "java/lang/invoke/MethodHandle" ∧ yX1_oldestOf.cls ≠ "java/lang/invoke/VarHandle" ∧ (parseMethodDescriptor yX1_oldestOf.desc).map (fun d => d.parameters.length) = some 1 := by decide +kernel
set_option maxHeartbeats 4000000 in
set_option maxRecDepth 100000 in
theorem mX1_oldestOf (l : Launch) (hst : l.stackTraces = false) (D : va_G) (cI cZ : ClassId) (ad : Nat → Nat) (a1 : Int32) : oz_MI l yX1_oldestOf wsX1_oldestOf rmX1_oldestOf D cI cZ RX1 1 oz_KSX1 ad oz_lyX1 0 [.ref (ad 0), .int a1] (FX1_oldestOf a1) := by
  refine oz_ofI (bytes := cX1_oldestOf) (maxL := 5) (ret := (some .int)) (T := TX1) (N := 19) (by decide) rfl rfl oz_CX1 hst (Nat.le_of_ble_eq_true rfl) ?_
  intro p e s m below meth c st A res G hr X
  have hc32 : ∀ (k4 : Int32 → Int32 → Int32 → ST → Option Res) (hk4 : ∀ (k : Nat), k ≤ 0 → ∀ (x1 x2 x3 : Int32) (st : ST), G k 4 [(0, .ref (ad 0)), (1, .int x1), (2, .int x2), (3, .int x3)] [] st (k4 x1 x2 x3 st)) (k : Nat), k ≤ 0 → ∀ (x1 x2 x3 y0 : Int32) (st : ST), G k 32 [(0, .ref (ad 0)), (1, .int x1), (2, .int x2), (3, .int x3)] [.int y0] st (FX1_oldestOf_j32 k4 x1 x2 x3 y0 st) := by
    intro k4 hk4 k hk x1 x2 x3 y0 st
    unfold FX1_oldestOf_j32
    refine oz_istore X (L2 := [(4, .int y0), (0, .ref (ad 0)), (1, .int x1), (2, .int x2), (3, .int x3)]) dX1_oldestOf_32 (by decide) rfl ?_
    refine oz_iload X dX1_oldestOf_34 0 rfl ?_
    refine oz_if_eq X (tgt := 61) dX1_oldestOf_36 (by decide) (fun q2 => ?_) (fun q2 => ?_)
    · refine oz_iload_n X dX1_oldestOf_61 rfl 3 rfl ?_
      refine oz_istore_n X (L2 := [(2, .int x2), (4, .int y0), (0, .ref (ad 0)), (1, .int x1), (3, .int x3)]) dX1_oldestOf_62 rfl (by decide) rfl ?_
      refine oz_iinc X (q := 4) (v := x3 + 1) (L2 := [(3, .int (x3 + 1)), (2, .int x2), (4, .int y0), (0, .ref (ad 0)), (1, .int x1)]) dX1_oldestOf_63 rfl rfl (by decide) rfl ?_
      refine oz_goto X (tgt := 4) dX1_oldestOf_66 (by decide) ?_
      exact oz_sub X [3, 4, 1, 0] (L2 := [(0, .ref (ad 0)), (1, .int x1), (2, .int x2), (3, .int (x3 + 1))]) rfl (hk4 _ (by omega) x1 x2 (x3 + 1) st)
    · refine oz_iload_n X dX1_oldestOf_39 rfl 3 rfl ?_
      refine oz_iconst X (v := (-1)) dX1_oldestOf_40 (by decide) ?_
      refine oz_icmp_eq X (tgt := 57) dX1_oldestOf_41 (by decide) (fun q3 => ?_) (fun q3 => ?_)
      · refine oz_iload_n X dX1_oldestOf_57 rfl 4 rfl ?_
        refine oz_goto X (tgt := 62) dX1_oldestOf_58 (by decide) ?_
        refine oz_istore_n X (L2 := [(2, .int x3), (4, .int y0), (0, .ref (ad 0)), (1, .int x1), (3, .int x3)]) dX1_oldestOf_62 rfl (by decide) rfl ?_
        refine oz_iinc X (q := 4) (v := x3 + 1) (L2 := [(3, .int (x3 + 1)), (2, .int x3), (4, .int y0), (0, .ref (ad 0)), (1, .int x1)]) dX1_oldestOf_63 rfl rfl (by decide) rfl ?_
        refine oz_goto X (tgt := 4) dX1_oldestOf_66 (by decide) ?_
        exact oz_sub X [3, 4, 1, 0] (L2 := [(0, .ref (ad 0)), (1, .int x1), (2, .int x3), (3, .int (x3 + 1))]) rfl (hk4 _ (by omega) x1 x3 (x3 + 1) st)
      · refine oz_aload_n X dX1_oldestOf_44 rfl 1 rfl ?_
        refine oz_iload_n X dX1_oldestOf_45 rfl 4 rfl ?_
        refine oz_callV X rfl (As := [.int x3]) (S := []) (mX1_ageOf l hst D cI cZ ad x3) gX1_oldestOf_X1_ageOf rfl rfl rfl hX1_ageOf ⟨by decide, by decide⟩ rfl rfl (Nat.le_of_ble_eq_true rfl) dX1_oldestOf_46 (by omega) (by decide) (by decide) (fun r4 s4 => ?_)
        refine oz_aload_n X dX1_oldestOf_49 rfl 1 rfl ?_
        refine oz_iload_n X dX1_oldestOf_50 rfl 3 rfl ?_
        refine oz_callV X rfl (As := [.int x2]) (S := [.int r4]) (mX1_ageOf l hst D cI cZ ad x2) gX1_oldestOf_X1_ageOf rfl rfl rfl hX1_ageOf ⟨by decide, by decide⟩ rfl rfl (Nat.le_of_ble_eq_true rfl) dX1_oldestOf_51 (by omega) (by decide) (by decide) (fun r5 s5 => ?_)
        refine oz_icmp_le X (tgt := 61) dX1_oldestOf_54 (by decide) (fun q6 => ?_) (fun q6 => ?_)
        · refine oz_iload_n X dX1_oldestOf_61 rfl 3 rfl ?_
          refine oz_istore_n X (L2 := [(2, .int x2), (4, .int y0), (0, .ref (ad 0)), (1, .int x1), (3, .int x3)]) dX1_oldestOf_62 rfl (by decide) rfl ?_
          refine oz_iinc X (q := 4) (v := x3 + 1) (L2 := [(3, .int (x3 + 1)), (2, .int x2), (4, .int y0), (0, .ref (ad 0)), (1, .int x1)]) dX1_oldestOf_63 rfl rfl (by decide) rfl ?_
          refine oz_goto X (tgt := 4) dX1_oldestOf_66 (by decide) ?_
          exact oz_sub X [3, 4, 1, 0] (L2 := [(0, .ref (ad 0)), (1, .int x1), (2, .int x2), (3, .int (x3 + 1))]) rfl (hk4 _ (by omega) x1 x2 (x3 + 1) s5)
        · refine oz_iload_n X dX1_oldestOf_57 rfl 4 rfl ?_
          refine oz_goto X (tgt := 62) dX1_oldestOf_58 (by decide) ?_
          refine oz_istore_n X (L2 := [(2, .int x3), (4, .int y0), (0, .ref (ad 0)), (1, .int x1), (3, .int x3)]) dX1_oldestOf_62 rfl (by decide) rfl ?_
          refine oz_iinc X (q := 4) (v := x3 + 1) (L2 := [(3, .int (x3 + 1)), (2, .int x3), (4, .int y0), (0, .ref (ad 0)), (1, .int x1)]) dX1_oldestOf_63 rfl rfl (by decide) rfl ?_
          refine oz_goto X (tgt := 4) dX1_oldestOf_66 (by decide) ?_
          exact oz_sub X [3, 4, 1, 0] (L2 := [(0, .ref (ad 0)), (1, .int x1), (2, .int x3), (3, .int (x3 + 1))]) rfl (hk4 _ (by omega) x1 x3 (x3 + 1) s5)
  have hc31 : ∀ (k4 : Int32 → Int32 → Int32 → ST → Option Res) (hk4 : ∀ (k : Nat), k ≤ 0 → ∀ (x1 x2 x3 : Int32) (st : ST), G k 4 [(0, .ref (ad 0)), (1, .int x1), (2, .int x2), (3, .int x3)] [] st (k4 x1 x2 x3 st)) (k : Nat), k ≤ 0 → ∀ (x1 x2 x3 : Int32) (st : ST), G k 31 [(0, .ref (ad 0)), (1, .int x1), (2, .int x2), (3, .int x3)] [] st (FX1_oldestOf_j31 k4 x1 x2 x3 st) := by
    intro k4 hk4 k hk x1 x2 x3 st
    unfold FX1_oldestOf_j31
    refine oz_iconst X (v := 0) dX1_oldestOf_31 (by decide) ?_
    exact oz_sub X [0, 1, 2, 3] (L2 := [(0, .ref (ad 0)), (1, .int x1), (2, .int x2), (3, .int x3)]) rfl (hc32 k4 hk4 _ (by omega) x1 x2 x3 0 st)
  have hc4 : ∀ (n k : Nat), k ≤ 0 → ∀ (x1 x2 x3 : Int32) (st : ST), G k 4 [(0, .ref (ad 0)), (1, .int x1), (2, .int x2), (3, .int x3)] [] st (FX1_oldestOf_w4 n x1 x2 x3 st) := by
    intro n
    induction n with
    | zero => intros; exact oz_none X
    | succ n ih =>
      intro k hk x1 x2 x3 st
      rw [FX1_oldestOf_w4]
      refine oz_iload_n X dX1_oldestOf_4 rfl 3 rfl ?_
      refine oz_bipush X (v := 12) dX1_oldestOf_5 (by decide) ?_
      refine oz_icmp_ge X (tgt := 69) dX1_oldestOf_7 (by decide) (fun q9 => ?_) (fun q9 => ?_)
      · refine oz_iload_n X dX1_oldestOf_69 rfl 2 rfl ?_
        exact oz_iret X rfl hr (by omega) dX1_oldestOf_70
      · refine oz_aload_n X dX1_oldestOf_10 rfl 0 rfl ?_
        refine oz_iload_n X dX1_oldestOf_11 rfl 3 rfl ?_
        refine oz_callV X rfl (As := [.int x3]) (S := []) (mX1_holderOf l hst D cI cZ ad x3) gX1_oldestOf_X1_holderOf rfl rfl rfl hX1_holderOf ⟨by decide, by decide⟩ rfl rfl (Nat.le_of_ble_eq_true rfl) dX1_oldestOf_12 (by omega) (by decide) (by decide) (fun r10 s10 => ?_)
        refine oz_iload_n X dX1_oldestOf_15 rfl 1 rfl ?_
        refine oz_icmp_ne X (tgt := 31) dX1_oldestOf_16 (by decide) (fun q11 => ?_) (fun q11 => ?_)
        · exact oz_sub X [0, 1, 2, 3] (L2 := [(0, .ref (ad 0)), (1, .int x1), (2, .int x2), (3, .int x3)]) rfl (hc31 (FX1_oldestOf_w4 n) ih _ (by omega) x1 x2 x3 s10)
        · refine oz_aload_n X dX1_oldestOf_19 rfl 0 rfl ?_
          refine oz_iload_n X dX1_oldestOf_20 rfl 3 rfl ?_
          refine oz_callV X rfl (As := [.int x3]) (S := []) (mX1_hasPage l hst D cI cZ ad x3) gX1_oldestOf_X1_hasPage rfl rfl rfl hX1_hasPage ⟨by decide, by decide⟩ rfl rfl (Nat.le_of_ble_eq_true rfl) dX1_oldestOf_21 (by omega) (by decide) (by decide) (fun r12 s12 => ?_)
          refine oz_if_eq X (tgt := 31) dX1_oldestOf_24 (by decide) (fun q13 => ?_) (fun q13 => ?_)
          · exact oz_sub X [0, 1, 2, 3] (L2 := [(0, .ref (ad 0)), (1, .int x1), (2, .int x2), (3, .int x3)]) rfl (hc31 (FX1_oldestOf_w4 n) ih _ (by omega) x1 x2 x3 s12)
          · refine oz_iconst X (v := 1) dX1_oldestOf_27 (by decide) ?_
            refine oz_goto X (tgt := 32) dX1_oldestOf_28 (by decide) ?_
            exact oz_sub X [0, 1, 2, 3] (L2 := [(0, .ref (ad 0)), (1, .int x1), (2, .int x2), (3, .int x3)]) rfl (hc32 (FX1_oldestOf_w4 n) ih _ (by omega) x1 x2 x3 1 s12)
  show G 0 0 [(0, .ref (ad 0)), (1, .int a1)] [] st (FX1_oldestOf a1 st)
  unfold FX1_oldestOf
  refine oz_iconst X (v := (-1)) dX1_oldestOf_0 (by decide) ?_
  refine oz_istore_n X (L2 := [(2, .int (-1)), (0, .ref (ad 0)), (1, .int a1)]) dX1_oldestOf_1 rfl (by decide) rfl ?_
  refine oz_iconst X (v := 0) dX1_oldestOf_2 (by decide) ?_
  refine oz_istore_n X (L2 := [(3, .int 0), (2, .int (-1)), (0, .ref (ad 0)), (1, .int a1)]) dX1_oldestOf_3 rfl (by decide) rfl ?_
  exact oz_sub X [2, 3, 1, 0] (L2 := [(0, .ref (ad 0)), (1, .int a1), (2, .int (-1)), (3, .int 0)]) rfl (hc4 300 _ (by omega) a1 (-1) 0 st)

/-! AlmsKernelModel.ends -/
def FX1_ends (a1 : Int32) (st : ST) : Option Res := gd (oz_in a1 60) (gd (oz_in (st 13 a1.toNatClampNeg) 12) (stp (oz_se st 7 (st 13 a1.toNatClampNeg).toNatClampNeg (-1)) (fun s2 => gd (oz_in (st 13 a1.toNatClampNeg) 12) (stp (oz_se s2 4 (st 13 a1.toNatClampNeg).toNatClampNeg (-1)) (fun s3 => some (0, 0, s3))))))
def rmX1_ends : Room := { frames := 0, cells := 0, slots := 0, locals := 0 }
theorem hX1_ends : yX1_ends.cls = RX1 ∧ yX1_ends.cls ≠ "java/lang/invoke/MethodHandle" ∧ yX1_ends.cls ≠ "java/lang/invoke/VarHandle" ∧ (parseMethodDescriptor yX1_ends.desc).map (fun d => d.parameters.length) = some 1 := by decide +kernel
theorem lkX1_ends_17 : Cond.fieldLink RX1 17 RX1 (TX1 3).2.1 (TX1 3).2.2.1 ∈ wsX1_ends := by decide +kernel
theorem lkX1_ends_27 : Cond.fieldLink RX1 27 RX1 (TX1 6).2.1 (TX1 6).2.2.1 ∈ wsX1_ends := by decide +kernel
theorem lkX1_ends_42 : Cond.fieldLink RX1 42 RX1 (TX1 12).2.1 (TX1 12).2.2.1 ∈ wsX1_ends := by decide +kernel
set_option maxHeartbeats 4000000 in
set_option maxRecDepth 100000 in
theorem mX1_ends (l : Launch) (hst : l.stackTraces = false) (D : va_G) (cI cZ : ClassId) (ad : Nat → Nat) (a1 : Int32) : oz_MV l yX1_ends wsX1_ends rmX1_ends D cI cZ RX1 1 oz_KSX1 ad oz_lyX1 0 [.ref (ad 0), .int a1] (FX1_ends a1) := by
  refine oz_ofV (bytes := cX1_ends) (maxL := 3) (ret := none) (T := TX1) (N := 19) (by decide) rfl rfl oz_CX1 hst (Nat.le_of_ble_eq_true rfl) ?_
  intro p e s m below meth c st A res G hr X
  have hin : ∀ w ∈ u_ws RX1 TX1 19, w ∈ wsX1_ends := fun w h => List.mem_cons_of_mem _ (List.mem_append_right _ h)
  have lk17 := lkX1_ends_17
  have lk27 := lkX1_ends_27
  have lk42 := lkX1_ends_42
  show G 0 0 [(0, .ref (ad 0)), (1, .int a1)] [] st (FX1_ends a1 st)
  unfold FX1_ends
  refine oz_aload_n X dX1_ends_0 rfl 0 rfl ?_
  refine oz_getA X hin (j := 12) rfl lk42 dX1_ends_1 ?_
  refine oz_iload_n X dX1_ends_4 rfl 1 rfl ?_
  refine oz_iald X (j := 12) rfl (by decide) dX1_ends_5 (fun g1 => ?_)
  refine oz_istore_n X (L2 := [(2, .int (st 13 a1.toNatClampNeg)), (0, .ref (ad 0)), (1, .int a1)]) dX1_ends_6 rfl (by decide) rfl ?_
  refine oz_aload_n X dX1_ends_7 rfl 1 rfl ?_
  refine oz_getA X hin (j := 6) rfl lk27 dX1_ends_8 ?_
  refine oz_iload_n X dX1_ends_11 rfl 0 rfl ?_
  refine oz_iconst X (v := (-1)) dX1_ends_12 (by decide) ?_
  refine oz_iast X (j := 6) rfl (by decide) dX1_ends_13 (fun s2 e2 g2 => ?_)
  refine oz_aload_n X dX1_ends_14 rfl 1 rfl ?_
  refine oz_getA X hin (j := 3) rfl lk17 dX1_ends_15 ?_
  refine oz_iload_n X dX1_ends_18 rfl 0 rfl ?_
  refine oz_iconst X (v := (-1)) dX1_ends_19 (by decide) ?_
  refine oz_iast X (j := 3) rfl (by decide) dX1_ends_20 (fun s3 e3 g3 => ?_)
  exact oz_vret X rfl hr (by omega) dX1_ends_21

/-! AlmsKernelModel.lends -/
def FX1_lends (a1 a2 : Int32) (st : ST) : Option Res := gd (oz_in (st 0 11) 60) (stp (oz_se st 13 (st 0 11).toNatClampNeg a1) (fun s1 => gd (oz_in a1 12) (gd (oz_in (s1 0 11) 60) (stp (oz_se s1 14 (s1 0 11).toNatClampNeg (s1 3 a1.toNatClampNeg)) (fun s3 => gd (oz_in (s3 0 11) 60) (stp (oz_se s3 15 (s3 0 11).toNatClampNeg a2) (fun s4 => gd (oz_in (s4 0 11) 60) (stp (oz_se s4 16 (s4 0 11).toNatClampNeg 0) (fun s5 => gd (oz_in a1 12) (stp (oz_se s5 7 a1.toNatClampNeg (s5 0 11)) (fun s6 => stp (oz_se s6 0 11 ((s6 0 11) + 1)) (fun s7 => some (0, 0, s7)))))))))))))
def rmX1_lends : Room := { frames := 0, cells := 0, slots := 0, locals := 0 }
theorem hX1_lends : yX1_lends.cls = RX1 ∧ yX1_lends.cls ≠ "java/lang/invoke/MethodHandle" ∧ yX1_lends.cls ≠ "java/lang/invoke/VarHandle" ∧ (parseMethodDescriptor yX1_lends.desc).map (fun d => d.parameters.length) = some 2 := by decide +kernel
theorem lkX1_lends_13 : Cond.fieldLink RX1 13 RX1 (TX1 2).2.1 (TX1 2).2.2.1 ∈ wsX1_lends := by decide +kernel
theorem lkX1_lends_27 : Cond.fieldLink RX1 27 RX1 (TX1 6).2.1 (TX1 6).2.2.1 ∈ wsX1_lends := by decide +kernel
theorem lkX1_lends_42 : Cond.fieldLink RX1 42 RX1 (TX1 12).2.1 (TX1 12).2.2.1 ∈ wsX1_lends := by decide +kernel
theorem lkX1_lends_45 : Cond.fieldLink RX1 45 RX1 (TX1 13).2.1 (TX1 13).2.2.1 ∈ wsX1_lends := by decide +kernel
theorem lkX1_lends_48 : Cond.fieldLink RX1 48 RX1 (TX1 14).2.1 (TX1 14).2.2.1 ∈ wsX1_lends := by decide +kernel
theorem lkX1_lends_51 : Cond.fieldLink RX1 51 RX1 (TX1 15).2.1 (TX1 15).2.2.1 ∈ wsX1_lends := by decide +kernel
theorem lkX1_lends_64 : Cond.fieldLink RX1 64 RX1 (TX1 11).2.1 (TX1 11).2.2.1 ∈ wsX1_lends := by decide +kernel
set_option maxHeartbeats 4000000 in
set_option maxRecDepth 100000 in
theorem mX1_lends (l : Launch) (hst : l.stackTraces = false) (D : va_G) (cI cZ : ClassId) (ad : Nat → Nat) (a1 a2 : Int32) : oz_MV l yX1_lends wsX1_lends rmX1_lends D cI cZ RX1 1 oz_KSX1 ad oz_lyX1 0 [.ref (ad 0), .int a1, .int a2] (FX1_lends a1 a2) := by
  refine oz_ofV (bytes := cX1_lends) (maxL := 3) (ret := none) (T := TX1) (N := 19) (by decide) rfl rfl oz_CX1 hst (Nat.le_of_ble_eq_true rfl) ?_
  intro p e s m below meth c st A res G hr X
  have hin : ∀ w ∈ u_ws RX1 TX1 19, w ∈ wsX1_lends := fun w h => List.mem_cons_of_mem _ (List.mem_append_right _ h)
  have lk13 := lkX1_lends_13
  have lk27 := lkX1_lends_27
  have lk42 := lkX1_lends_42
  have lk45 := lkX1_lends_45
  have lk48 := lkX1_lends_48
  have lk51 := lkX1_lends_51
  have lk64 := lkX1_lends_64
  show G 0 0 [(0, .ref (ad 0)), (1, .int a1), (2, .int a2)] [] st (FX1_lends a1 a2 st)
  unfold FX1_lends
  refine oz_aload_n X dX1_lends_0 rfl 0 rfl ?_
  refine oz_getA X hin (j := 12) rfl lk42 dX1_lends_1 ?_
  refine oz_aload_n X dX1_lends_4 rfl 0 rfl ?_
  refine oz_getS X hin (j := 11) rfl lk64 dX1_lends_5 ?_
  refine oz_iload_n X dX1_lends_8 rfl 1 rfl ?_
  refine oz_iast X (j := 12) rfl (by decide) dX1_lends_9 (fun s1 e1 g1 => ?_)
  refine oz_aload_n X dX1_lends_10 rfl 0 rfl ?_
  refine oz_getA X hin (j := 13) rfl lk45 dX1_lends_11 ?_
  refine oz_aload_n X dX1_lends_14 rfl 0 rfl ?_
  refine oz_getS X hin (j := 11) rfl lk64 dX1_lends_15 ?_
  refine oz_aload_n X dX1_lends_18 rfl 0 rfl ?_
  refine oz_getA X hin (j := 2) rfl lk13 dX1_lends_19 ?_
  refine oz_iload_n X dX1_lends_22 rfl 1 rfl ?_
  refine oz_iald X (j := 2) rfl (by decide) dX1_lends_23 (fun g2 => ?_)
  refine oz_iast X (j := 13) rfl (by decide) dX1_lends_24 (fun s3 e3 g3 => ?_)
  refine oz_aload_n X dX1_lends_25 rfl 0 rfl ?_
  refine oz_getA X hin (j := 14) rfl lk48 dX1_lends_26 ?_
  refine oz_aload_n X dX1_lends_29 rfl 0 rfl ?_
  refine oz_getS X hin (j := 11) rfl lk64 dX1_lends_30 ?_
  refine oz_iload_n X dX1_lends_33 rfl 2 rfl ?_
  refine oz_iast X (j := 14) rfl (by decide) dX1_lends_34 (fun s4 e4 g4 => ?_)
  refine oz_aload_n X dX1_lends_35 rfl 0 rfl ?_
  refine oz_getA X hin (j := 15) rfl lk51 dX1_lends_36 ?_
  refine oz_aload_n X dX1_lends_39 rfl 0 rfl ?_
  refine oz_getS X hin (j := 11) rfl lk64 dX1_lends_40 ?_
  refine oz_iconst X (v := 0) dX1_lends_43 (by decide) ?_
  refine oz_iast X (j := 15) rfl (by decide) dX1_lends_44 (fun s5 e5 g5 => ?_)
  refine oz_aload_n X dX1_lends_45 rfl 0 rfl ?_
  refine oz_getA X hin (j := 6) rfl lk27 dX1_lends_46 ?_
  refine oz_iload_n X dX1_lends_49 rfl 1 rfl ?_
  refine oz_aload_n X dX1_lends_50 rfl 0 rfl ?_
  refine oz_getS X hin (j := 11) rfl lk64 dX1_lends_51 ?_
  refine oz_iast X (j := 6) rfl (by decide) dX1_lends_54 (fun s6 e6 g6 => ?_)
  refine oz_aload_n X dX1_lends_55 rfl 0 rfl ?_
  refine oz_dup X dX1_lends_56 rfl ?_
  refine oz_getS X hin (j := 11) rfl lk64 dX1_lends_57 ?_
  refine oz_iconst X (v := 1) dX1_lends_60 (by decide) ?_
  refine oz_iadd X dX1_lends_61 ?_
  refine oz_putS X hin (j := 11) rfl lk64 dX1_lends_62 (fun s7 e7 => ?_)
  exact oz_vret X rfl hr (by omega) dX1_lends_65

/-! AlmsKernelModel.frameFor -/
def FX1_frameFor_j67 (x1 y0 : Int32) (st : ST) : Option Res := (if y0 = (-1) then bnd (FX1_oldestOf x1 st) (fun r6 s6 => some (0, r6, s6)) else (if st 0 11 = 60 then some (0, (-2), st) else bnd (FX1_frameOf y0 st) (fun r4 s4 => bnd (FX1_lends r4 x1 s4) (fun _ s5 => some (0, r4, s5)))))
def FX1_frameFor_j66 (x1 : Int32) (st : ST) : Option Res := (FX1_frameFor_j67 x1 (-1) st)
def FX1_frameFor (a1 : Int32) (st : ST) : Option Res := bnd (FX1_emptyOf a1 st) (fun r8 s8 => (if r8 = (-1) then bnd (FX1_calledIn a1 s8) (fun r10 s10 => (if r10 = (-1) then gd (oz_in a1 5) ((if s10 9 a1.toNatClampNeg < s10 0 1 then (FX1_frameFor_j66 a1 s10) else bnd (FX1_borrowedBy a1 s10) (fun r14 s14 => (if 3 ≤ r14 then (FX1_frameFor_j66 a1 s14) else bnd (FX1_lenderFor a1 s14) (fun r16 s16 => (FX1_frameFor_j67 a1 r16 s16)))))) else bnd (FX1_ends r10 s10) (fun _ s17 => gd (oz_in r10 60) (some (0, s17 13 r10.toNatClampNeg, s17))))) else some (0, r8, s8)))
def rmX1_frameFor : Room := { frames := 5, cells := 0, slots := 0, locals := 112 }
theorem hX1_frameFor : yX1_frameFor.cls = RX1 ∧ yX1_frameFor.cls ≠ "java/lang/invoke/MethodHandle" ∧ yX1_frameFor.cls ≠ "java/lang/invoke/VarHandle" ∧ (parseMethodDescriptor yX1_frameFor.desc).map (fun d => d.parameters.length) = some 1 := by decide +kernel
theorem lkX1_frameFor_7 : Cond.fieldLink RX1 7 RX1 (TX1 1).2.1 (TX1 1).2.2.1 ∈ wsX1_frameFor := by decide +kernel
theorem lkX1_frameFor_33 : Cond.fieldLink RX1 33 RX1 (TX1 8).2.1 (TX1 8).2.2.1 ∈ wsX1_frameFor := by decide +kernel
theorem lkX1_frameFor_42 : Cond.fieldLink RX1 42 RX1 (TX1 12).2.1 (TX1 12).2.2.1 ∈ wsX1_frameFor := by decide +kernel
theorem lkX1_frameFor_64 : Cond.fieldLink RX1 64 RX1 (TX1 11).2.1 (TX1 11).2.2.1 ∈ wsX1_frameFor := by decide +kernel
set_option maxHeartbeats 4000000 in
set_option maxRecDepth 100000 in
theorem mX1_frameFor (l : Launch) (hst : l.stackTraces = false) (D : va_G) (cI cZ : ClassId) (ad : Nat → Nat) (a1 : Int32) : oz_MI l yX1_frameFor wsX1_frameFor rmX1_frameFor D cI cZ RX1 1 oz_KSX1 ad oz_lyX1 0 [.ref (ad 0), .int a1] (FX1_frameFor a1) := by
  refine oz_ofI (bytes := cX1_frameFor) (maxL := 5) (ret := (some .int)) (T := TX1) (N := 19) (by decide) rfl rfl oz_CX1 hst (Nat.le_of_ble_eq_true rfl) ?_
  intro p e s m below meth c st A res G hr X
  have hin : ∀ w ∈ u_ws RX1 TX1 19, w ∈ wsX1_frameFor := fun w h => List.mem_cons_of_mem _ (List.mem_append_right _ h)
  have lk7 := lkX1_frameFor_7
  have lk33 := lkX1_frameFor_33
  have lk42 := lkX1_frameFor_42
  have lk64 := lkX1_frameFor_64
  have hc67 : ∀ (k : Nat), k ≤ 0 → ∀ (x1 y0 : Int32) (st : ST), G k 67 [(0, .ref (ad 0)), (1, .int x1)] [.int y0] st (FX1_frameFor_j67 x1 y0 st) := by
    intro k hk x1 y0 st
    unfold FX1_frameFor_j67
    refine oz_istore X (L2 := [(4, .int y0), (0, .ref (ad 0)), (1, .int x1)]) dX1_frameFor_67 (by decide) rfl ?_
    refine oz_iload X dX1_frameFor_69 0 rfl ?_
    refine oz_iconst X (v := (-1)) dX1_frameFor_71 (by decide) ?_
    refine oz_icmp_ne X (tgt := 81) dX1_frameFor_72 (by decide) (fun q2 => ?_) (fun q2 => ?_)
    · refine oz_aload_n X dX1_frameFor_81 rfl 1 rfl ?_
      refine oz_getS X hin (j := 11) rfl lk64 dX1_frameFor_82 ?_
      refine oz_bipush X (v := 60) dX1_frameFor_85 (by decide) ?_
      refine oz_icmp_ne X (tgt := 93) dX1_frameFor_87 (by decide) (fun q3 => ?_) (fun q3 => ?_)
      · refine oz_aload_n X dX1_frameFor_93 rfl 1 rfl ?_
        refine oz_iload X dX1_frameFor_94 0 rfl ?_
        refine oz_callV X rfl (As := [.int y0]) (S := []) (mX1_frameOf l hst D cI cZ ad y0) gX1_frameFor_X1_frameOf rfl rfl rfl hX1_frameOf ⟨by decide, by decide⟩ rfl rfl (Nat.le_of_ble_eq_true rfl) dX1_frameFor_96 (by omega) (by decide) (by decide) (fun r4 s4 => ?_)
        refine oz_istore_n X (L2 := [(2, .int r4), (4, .int y0), (0, .ref (ad 0)), (1, .int x1)]) dX1_frameFor_99 rfl (by decide) rfl ?_
        refine oz_aload_n X dX1_frameFor_100 rfl 2 rfl ?_
        refine oz_iload_n X dX1_frameFor_101 rfl 0 rfl ?_
        refine oz_iload_n X dX1_frameFor_102 rfl 3 rfl ?_
        refine oz_callVv X rfl (As := [.int r4, .int x1]) (S := []) (mX1_lends l hst D cI cZ ad r4 x1) gX1_frameFor_X1_lends rfl rfl rfl hX1_lends ⟨by decide, by decide⟩ rfl rfl (Nat.le_of_ble_eq_true rfl) dX1_frameFor_103 (by omega) (by decide) (by decide) (fun s5 => ?_)
        refine oz_iload_n X dX1_frameFor_106 rfl 0 rfl ?_
        exact oz_iret X rfl hr (by omega) dX1_frameFor_107
      · refine oz_bipush X (v := (-2)) dX1_frameFor_90 (by decide) ?_
        exact oz_iret X rfl hr (by omega) dX1_frameFor_92
    · refine oz_aload_n X dX1_frameFor_75 rfl 1 rfl ?_
      refine oz_iload_n X dX1_frameFor_76 rfl 2 rfl ?_
      refine oz_callV X rfl (As := [.int x1]) (S := []) (mX1_oldestOf l hst D cI cZ ad x1) gX1_frameFor_X1_oldestOf rfl rfl rfl hX1_oldestOf ⟨by decide, by decide⟩ rfl rfl (Nat.le_of_ble_eq_true rfl) dX1_frameFor_77 (by omega) (by decide) (by decide) (fun r6 s6 => ?_)
      exact oz_iret X rfl hr (by omega) dX1_frameFor_80
  have hc66 : ∀ (k : Nat), k ≤ 0 → ∀ (x1 : Int32) (st : ST), G k 66 [(0, .ref (ad 0)), (1, .int x1)] [] st (FX1_frameFor_j66 x1 st) := by
    intro k hk x1 st
    unfold FX1_frameFor_j66
    refine oz_iconst X (v := (-1)) dX1_frameFor_66 (by decide) ?_
    exact oz_sub X [0, 1] (L2 := [(0, .ref (ad 0)), (1, .int x1)]) rfl (hc67 _ (by omega) x1 (-1) st)
  show G 0 0 [(0, .ref (ad 0)), (1, .int a1)] [] st (FX1_frameFor a1 st)
  unfold FX1_frameFor
  refine oz_aload_n X dX1_frameFor_0 rfl 0 rfl ?_
  refine oz_iload_n X dX1_frameFor_1 rfl 1 rfl ?_
  refine oz_callV X rfl (As := [.int a1]) (S := []) (mX1_emptyOf l hst D cI cZ ad a1) gX1_frameFor_X1_emptyOf rfl rfl rfl hX1_emptyOf ⟨by decide, by decide⟩ rfl rfl (Nat.le_of_ble_eq_true rfl) dX1_frameFor_2 (by omega) (by decide) (by decide) (fun r8 s8 => ?_)
  refine oz_istore_n X (L2 := [(2, .int r8), (0, .ref (ad 0)), (1, .int a1)]) dX1_frameFor_5 rfl (by decide) rfl ?_
  refine oz_iload_n X dX1_frameFor_6 rfl 0 rfl ?_
  refine oz_iconst X (v := (-1)) dX1_frameFor_7 (by decide) ?_
  refine oz_icmp_eq X (tgt := 13) dX1_frameFor_8 (by decide) (fun q9 => ?_) (fun q9 => ?_)
  · refine oz_aload_n X dX1_frameFor_13 rfl 1 rfl ?_
    refine oz_iload_n X dX1_frameFor_14 rfl 2 rfl ?_
    refine oz_callV X rfl (As := [.int a1]) (S := []) (mX1_calledIn l hst D cI cZ ad a1) gX1_frameFor_X1_calledIn rfl rfl rfl hX1_calledIn ⟨by decide, by decide⟩ rfl rfl (Nat.le_of_ble_eq_true rfl) dX1_frameFor_15 (by omega) (by decide) (by decide) (fun r10 s10 => ?_)
    refine oz_istore_n X (L2 := [(3, .int r10), (2, .int r8), (0, .ref (ad 0)), (1, .int a1)]) dX1_frameFor_18 rfl (by decide) rfl ?_
    refine oz_iload_n X dX1_frameFor_19 rfl 0 rfl ?_
    refine oz_iconst X (v := (-1)) dX1_frameFor_20 (by decide) ?_
    refine oz_icmp_eq X (tgt := 36) dX1_frameFor_21 (by decide) (fun q11 => ?_) (fun q11 => ?_)
    · refine oz_aload_n X dX1_frameFor_36 rfl 2 rfl ?_
      refine oz_getA X hin (j := 8) rfl lk33 dX1_frameFor_37 ?_
      refine oz_iload_n X dX1_frameFor_40 rfl 3 rfl ?_
      refine oz_iald X (j := 8) rfl (by decide) dX1_frameFor_41 (fun g12 => ?_)
      refine oz_aload_n X dX1_frameFor_42 rfl 2 rfl ?_
      refine oz_getS X hin (j := 1) rfl lk7 dX1_frameFor_43 ?_
      refine oz_icmp_lt X (tgt := 66) dX1_frameFor_46 (by decide) (fun q13 => ?_) (fun q13 => ?_)
      · exact oz_sub X [2, 3] (L2 := [(0, .ref (ad 0)), (1, .int a1)]) rfl (hc66 _ (by omega) a1 s10)
      · refine oz_aload_n X dX1_frameFor_49 rfl 2 rfl ?_
        refine oz_iload_n X dX1_frameFor_50 rfl 3 rfl ?_
        refine oz_callV X rfl (As := [.int a1]) (S := []) (mX1_borrowedBy l hst D cI cZ ad a1) gX1_frameFor_X1_borrowedBy rfl rfl rfl hX1_borrowedBy ⟨by decide, by decide⟩ rfl rfl (Nat.le_of_ble_eq_true rfl) dX1_frameFor_51 (by omega) (by decide) (by decide) (fun r14 s14 => ?_)
        refine oz_iconst X (v := 3) dX1_frameFor_54 (by decide) ?_
        refine oz_icmp_ge X (tgt := 66) dX1_frameFor_55 (by decide) (fun q15 => ?_) (fun q15 => ?_)
        · exact oz_sub X [2, 3] (L2 := [(0, .ref (ad 0)), (1, .int a1)]) rfl (hc66 _ (by omega) a1 s14)
        · refine oz_aload_n X dX1_frameFor_58 rfl 2 rfl ?_
          refine oz_iload_n X dX1_frameFor_59 rfl 3 rfl ?_
          refine oz_callV X rfl (As := [.int a1]) (S := []) (mX1_lenderFor l hst D cI cZ ad a1) gX1_frameFor_X1_lenderFor rfl rfl rfl hX1_lenderFor ⟨by decide, by decide⟩ rfl rfl (Nat.le_of_ble_eq_true rfl) dX1_frameFor_60 (by omega) (by decide) (by decide) (fun r16 s16 => ?_)
          refine oz_goto X (tgt := 67) dX1_frameFor_63 (by decide) ?_
          exact oz_sub X [2, 3] (L2 := [(0, .ref (ad 0)), (1, .int a1)]) rfl (hc67 _ (by omega) a1 r16 s16)
    · refine oz_aload_n X dX1_frameFor_24 rfl 2 rfl ?_
      refine oz_iload_n X dX1_frameFor_25 rfl 0 rfl ?_
      refine oz_callVv X rfl (As := [.int r10]) (S := []) (mX1_ends l hst D cI cZ ad r10) gX1_frameFor_X1_ends rfl rfl rfl hX1_ends ⟨by decide, by decide⟩ rfl rfl (Nat.le_of_ble_eq_true rfl) dX1_frameFor_26 (by omega) (by decide) (by decide) (fun s17 => ?_)
      refine oz_aload_n X dX1_frameFor_29 rfl 2 rfl ?_
      refine oz_getA X hin (j := 12) rfl lk42 dX1_frameFor_30 ?_
      refine oz_iload_n X dX1_frameFor_33 rfl 0 rfl ?_
      refine oz_iald X (j := 12) rfl (by decide) dX1_frameFor_34 (fun g18 => ?_)
      exact oz_iret X rfl hr (by omega) dX1_frameFor_35
  · refine oz_iload_n X dX1_frameFor_11 rfl 0 rfl ?_
    exact oz_iret X rfl hr (by omega) dX1_frameFor_12

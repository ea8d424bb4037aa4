/-! AlmsKernel.charge -/
def FX0_charge (a1 : Int32) (st : ST) : Option Res := gd (oz_in a1 60) (gd (oz_in a1 60) (bnd (FX0_isProcess (st 12 a1.toNatClampNeg) st) (fun r3 s3 => (if r3 = 0 then some (0, 0, s3) else bnd (FX0_isProcess (st 11 a1.toNatClampNeg) s3) (fun r5 s5 => (if r5 = 0 then some (0, 0, s5) else gd (oz_in (st 12 a1.toNatClampNeg) 5) ((if s5 0 15 ≤ s5 2 (st 12 a1.toNatClampNeg).toNatClampNeg then gd (oz_in (st 12 a1.toNatClampNeg) 5) (gd (oz_in (st 12 a1.toNatClampNeg) 5) (stp (oz_se s5 2 (st 12 a1.toNatClampNeg).toNatClampNeg ((s5 2 (st 12 a1.toNatClampNeg).toNatClampNeg) - (s5 0 15))) (fun s10 => gd (oz_in (st 11 a1.toNatClampNeg) 5) (gd (oz_in (st 11 a1.toNatClampNeg) 5) (stp (oz_se s10 2 (st 11 a1.toNatClampNeg).toNatClampNeg ((s10 2 (st 11 a1.toNatClampNeg).toNatClampNeg) + (s10 0 15))) (fun s12 => gd (oz_in a1 60) (gd (oz_in a1 60) (stp (oz_se s12 14 a1.toNatClampNeg ((s12 14 a1.toNatClampNeg) + (s12 0 15))) (fun s14 => some (0, 0, s14)))))))))) else bnd (FX0_putToSleep (st 12 a1.toNatClampNeg) s5) (fun _ s15 => some (0, 0, s15))))))))))
def rmX0_charge : Room := { frames := 3, cells := 0, slots := 0, locals := 65 }
theorem hX0_charge : yX0_charge.cls = RX0 ∧ yX0_charge.cls ≠ "java/lang/invoke/MethodHandle" ∧ yX0_charge.cls ≠ "java/lang/invoke/VarHandle" ∧ (parseMethodDescriptor yX0_charge.desc).map (fun d => d.parameters.length) = some 1 := by decide +kernel
theorem lkX0_charge_13 : Cond.fieldLink RX0 13 RX0 (TX0 1).2.1 (TX0 1).2.2.1 ∈ wsX0_charge := by decide +kernel
theorem lkX0_charge_41 : Cond.fieldLink RX0 41 RX0 (TX0 10).2.1 (TX0 10).2.2.1 ∈ wsX0_charge := by decide +kernel
theorem lkX0_charge_44 : Cond.fieldLink RX0 44 RX0 (TX0 11).2.1 (TX0 11).2.2.1 ∈ wsX0_charge := by decide +kernel
theorem lkX0_charge_50 : Cond.fieldLink RX0 50 RX0 (TX0 13).2.1 (TX0 13).2.2.1 ∈ wsX0_charge := by decide +kernel
theorem lkX0_charge_57 : Cond.fieldLink RX0 57 RX0 (TX0 15).2.1 (TX0 15).2.2.1 ∈ wsX0_charge := by decide +kernel
set_option maxHeartbeats 4000000 in
set_option maxRecDepth 100000 in
theorem mX0_charge (l : Launch) (hst : l.stackTraces = false) (D : va_G) (cI cZ : ClassId) (ad : Nat → Nat) (a1 : Int32) : oz_MV l yX0_charge wsX0_charge rmX0_charge D cI cZ RX0 0 oz_KSX0 ad oz_lyX0 0 [.ref (ad 0), .int a1] (FX0_charge a1) := by
  refine oz_ofV (bytes := cX0_charge) (maxL := 4) (ret := none) (T := TX0) (N := 19) (by decide) rfl rfl oz_CX0 hst (Nat.le_of_ble_eq_true rfl) ?_
  intro p e s m below meth c st A res G hr X
  have hin : ∀ w ∈ u_ws RX0 TX0 19, w ∈ wsX0_charge := fun w h => List.mem_cons_of_mem _ (List.mem_append_right _ h)
  have lk13 := lkX0_charge_13
  have lk41 := lkX0_charge_41
  have lk44 := lkX0_charge_44
  have lk50 := lkX0_charge_50
  have lk57 := lkX0_charge_57
  show G 0 0 [(0, .ref (ad 0)), (1, .int a1)] [] st (FX0_charge a1 st)
  unfold FX0_charge
  refine oz_aload_n X dX0_charge_0 rfl 0 rfl ?_
  refine oz_getA X hin (j := 11) rfl lk44 dX0_charge_1 ?_
  refine oz_iload_n X dX0_charge_4 rfl 1 rfl ?_
  refine oz_iald X (j := 11) rfl (by decide) dX0_charge_5 (fun g1 => ?_)
  refine oz_istore_n X (L2 := [(2, .int (st 12 a1.toNatClampNeg)), (0, .ref (ad 0)), (1, .int a1)]) dX0_charge_6 rfl (by decide) rfl ?_
  refine oz_aload_n X dX0_charge_7 rfl 1 rfl ?_
  refine oz_getA X hin (j := 10) rfl lk41 dX0_charge_8 ?_
  refine oz_iload_n X dX0_charge_11 rfl 2 rfl ?_
  refine oz_iald X (j := 10) rfl (by decide) dX0_charge_12 (fun g2 => ?_)
  refine oz_istore_n X (L2 := [(3, .int (st 11 a1.toNatClampNeg)), (2, .int (st 12 a1.toNatClampNeg)), (0, .ref (ad 0)), (1, .int a1)]) dX0_charge_13 rfl (by decide) rfl ?_
  refine oz_iload_n X dX0_charge_14 rfl 1 rfl ?_
  refine oz_callS X rfl (As := [.int (st 12 a1.toNatClampNeg)]) (S := []) (mX0_isProcess l hst D cI cZ ad (st 12 a1.toNatClampNeg)) gX0_charge_X0_isProcess rfl rfl rfl hX0_isProcess ⟨by decide, by decide⟩ rfl rfl (Nat.le_of_ble_eq_true rfl) dX0_charge_15 (by omega) (by decide) (by decide) (fun r3 s3 => ?_)
  refine oz_if_eq X (tgt := 28) dX0_charge_18 (by decide) (fun q4 => ?_) (fun q4 => ?_)
  · exact oz_vret X rfl hr (by omega) dX0_charge_28
  · refine oz_iload_n X dX0_charge_21 rfl 0 rfl ?_
    refine oz_callS X rfl (As := [.int (st 11 a1.toNatClampNeg)]) (S := []) (mX0_isProcess l hst D cI cZ ad (st 11 a1.toNatClampNeg)) gX0_charge_X0_isProcess rfl rfl rfl hX0_isProcess ⟨by decide, by decide⟩ rfl rfl (Nat.le_of_ble_eq_true rfl) dX0_charge_22 (by omega) (by decide) (by decide) (fun r5 s5 => ?_)
    refine oz_if_ne X (tgt := 29) dX0_charge_25 (by decide) (fun q6 => ?_) (fun q6 => ?_)
    · refine oz_aload_n X dX0_charge_29 rfl 2 rfl ?_
      refine oz_getA X hin (j := 1) rfl lk13 dX0_charge_30 ?_
      refine oz_iload_n X dX0_charge_33 rfl 1 rfl ?_
      refine oz_iald X (j := 1) rfl (by decide) dX0_charge_34 (fun g7 => ?_)
      refine oz_aload_n X dX0_charge_35 rfl 2 rfl ?_
      refine oz_getS X hin (j := 15) rfl lk57 dX0_charge_36 ?_
      refine oz_icmp_ge X (tgt := 48) dX0_charge_39 (by decide) (fun q8 => ?_) (fun q8 => ?_)
      · refine oz_aload_n X dX0_charge_48 rfl 2 rfl ?_
        refine oz_getA X hin (j := 1) rfl lk13 dX0_charge_49 ?_
        refine oz_iload_n X dX0_charge_52 rfl 1 rfl ?_
        refine oz_dup2 X dX0_charge_53 rfl rfl ?_
        refine oz_iald X (j := 1) rfl (by decide) dX0_charge_54 (fun g9 => ?_)
        refine oz_aload_n X dX0_charge_55 rfl 2 rfl ?_
        refine oz_getS X hin (j := 15) rfl lk57 dX0_charge_56 ?_
        refine oz_isub X dX0_charge_59 ?_
        refine oz_iast X (j := 1) rfl (by decide) dX0_charge_60 (fun s10 e10 g10 => ?_)
        refine oz_aload_n X dX0_charge_61 rfl 2 rfl ?_
        refine oz_getA X hin (j := 1) rfl lk13 dX0_charge_62 ?_
        refine oz_iload_n X dX0_charge_65 rfl 0 rfl ?_
        refine oz_dup2 X dX0_charge_66 rfl rfl ?_
        refine oz_iald X (j := 1) rfl (by decide) dX0_charge_67 (fun g11 => ?_)
        refine oz_aload_n X dX0_charge_68 rfl 2 rfl ?_
        refine oz_getS X hin (j := 15) rfl lk57 dX0_charge_69 ?_
        refine oz_iadd X dX0_charge_72 ?_
        refine oz_iast X (j := 1) rfl (by decide) dX0_charge_73 (fun s12 e12 g12 => ?_)
        refine oz_aload_n X dX0_charge_74 rfl 2 rfl ?_
        refine oz_getA X hin (j := 13) rfl lk50 dX0_charge_75 ?_
        refine oz_iload_n X dX0_charge_78 rfl 3 rfl ?_
        refine oz_dup2 X dX0_charge_79 rfl rfl ?_
        refine oz_iald X (j := 13) rfl (by decide) dX0_charge_80 (fun g13 => ?_)
        refine oz_aload_n X dX0_charge_81 rfl 2 rfl ?_
        refine oz_getS X hin (j := 15) rfl lk57 dX0_charge_82 ?_
        refine oz_iadd X dX0_charge_85 ?_
        refine oz_iast X (j := 13) rfl (by decide) dX0_charge_86 (fun s14 e14 g14 => ?_)
        exact oz_vret X rfl hr (by omega) dX0_charge_87
      · refine oz_aload_n X dX0_charge_42 rfl 2 rfl ?_
        refine oz_iload_n X dX0_charge_43 rfl 1 rfl ?_
        refine oz_callVv X rfl (As := [.int (st 12 a1.toNatClampNeg)]) (S := []) (mX0_putToSleep l hst D cI cZ ad (st 12 a1.toNatClampNeg)) gX0_charge_X0_putToSleep rfl rfl rfl hX0_putToSleep ⟨by decide, by decide⟩ rfl rfl (Nat.le_of_ble_eq_true rfl) dX0_charge_44 (by omega) (by decide) (by decide) (fun s15 => ?_)
        exact oz_vret X rfl hr (by omega) dX0_charge_47
    · exact oz_vret X rfl hr (by omega) dX0_charge_28

/-! AlmsKernel.chargeLoans -/
def FX0_chargeLoans_w2 : Nat → Int32 → ST → Option Res
  | 0, _, _ => none
  | n + 1, x1, st => (if 60 ≤ x1 then some (0, 0, st) else (if st 0 14 ≤ x1 then some (0, 0, st) else gd (oz_in x1 60) ((if st 13 x1.toNatClampNeg = 0 then (FX0_chargeLoans_w2 n (x1 + 1) st) else bnd (FX0_charge x1 st) (fun _ s6 => (FX0_chargeLoans_w2 n (x1 + 1) s6))))))
def FX0_chargeLoans (st : ST) : Option Res := (FX0_chargeLoans_w2 300 0 st)
def rmX0_chargeLoans : Room := { frames := 4, cells := 0, slots := 0, locals := 88 }
theorem hX0_chargeLoans : yX0_chargeLoans.cls = RX0 ∧ yX0_chargeLoans.cls ≠ "java/lang/invoke/MethodHandle" ∧ yX0_chargeLoans.cls ≠ "java/lang/invoke/VarHandle" ∧ (parseMethodDescriptor yX0_chargeLoans.desc).map (fun d => d.parameters.length) = some 0 := by decide +kernel
theorem lkX0_chargeLoans_47 : Cond.fieldLink RX0 47 RX0 (TX0 12).2.1 (TX0 12).2.2.1 ∈ wsX0_chargeLoans := by decide +kernel
theorem lkX0_chargeLoans_53 : Cond.fieldLink RX0 53 RX0 (TX0 14).2.1 (TX0 14).2.2.1 ∈ wsX0_chargeLoans := by decide +kernel
set_option maxHeartbeats 4000000 in
set_option maxRecDepth 100000 in
theorem mX0_chargeLoans (l : Launch) (hst : l.stackTraces = false) (D : va_G) (cI cZ : ClassId) (ad : Nat → Nat) : oz_MV l yX0_chargeLoans wsX0_chargeLoans rmX0_chargeLoans D cI cZ RX0 0 oz_KSX0 ad oz_lyX0 0 [.ref (ad 0)] (FX0_chargeLoans) := by
  refine oz_ofV (bytes := cX0_chargeLoans) (maxL := 2) (ret := none) (T := TX0) (N := 19) (by decide) rfl rfl oz_CX0 hst (Nat.le_of_ble_eq_true rfl) ?_
  intro p e s m below meth c st A res G hr X
  have hin : ∀ w ∈ u_ws RX0 TX0 19, w ∈ wsX0_chargeLoans := fun w h => List.mem_cons_of_mem _ (List.mem_append_right _ h)
  have lk47 := lkX0_chargeLoans_47
  have lk53 := lkX0_chargeLoans_53
  have hc2 : ∀ (n k : Nat), k ≤ 0 → ∀ (x1 : Int32) (st : ST), G k 2 [(0, .ref (ad 0)), (1, .int x1)] [] st (FX0_chargeLoans_w2 n x1 st) := by
    intro n
    induction n with
    | zero => intros; exact oz_none X
    | succ n ih =>
      intro k hk x1 st
      rw [FX0_chargeLoans_w2]
      refine oz_iload_n X dX0_chargeLoans_2 rfl 1 rfl ?_
      refine oz_bipush X (v := 60) dX0_chargeLoans_3 (by decide) ?_
      refine oz_icmp_ge X (tgt := 36) dX0_chargeLoans_5 (by decide) (fun q2 => ?_) (fun q2 => ?_)
      · exact oz_vret X rfl hr (by omega) dX0_chargeLoans_36
      · refine oz_iload_n X dX0_chargeLoans_8 rfl 1 rfl ?_
        refine oz_aload_n X dX0_chargeLoans_9 rfl 0 rfl ?_
        refine oz_getS X hin (j := 14) rfl lk53 dX0_chargeLoans_10 ?_
        refine oz_icmp_ge X (tgt := 36) dX0_chargeLoans_13 (by decide) (fun q3 => ?_) (fun q3 => ?_)
        · exact oz_vret X rfl hr (by omega) dX0_chargeLoans_36
        · refine oz_aload_n X dX0_chargeLoans_16 rfl 0 rfl ?_
          refine oz_getA X hin (j := 12) rfl lk47 dX0_chargeLoans_17 ?_
          refine oz_iload_n X dX0_chargeLoans_20 rfl 1 rfl ?_
          refine oz_zald X (j := 12) rfl (by decide) dX0_chargeLoans_21 (fun g4 => ?_)
          refine oz_if_eq X (tgt := 30) dX0_chargeLoans_22 (by decide) (fun q5 => ?_) (fun q5 => ?_)
          · refine oz_iinc X (q := 1) (v := x1 + 1) (L2 := [(1, .int (x1 + 1)), (0, .ref (ad 0))]) dX0_chargeLoans_30 rfl rfl (by decide) rfl ?_
            refine oz_goto X (tgt := 2) dX0_chargeLoans_33 (by decide) ?_
            exact oz_sub X [1, 0] (L2 := [(0, .ref (ad 0)), (1, .int (x1 + 1))]) rfl (ih _ (by omega) (x1 + 1) st)
          · refine oz_aload_n X dX0_chargeLoans_25 rfl 0 rfl ?_
            refine oz_iload_n X dX0_chargeLoans_26 rfl 1 rfl ?_
            refine oz_callVv X rfl (As := [.int x1]) (S := []) (mX0_charge l hst D cI cZ ad x1) gX0_chargeLoans_X0_charge rfl rfl rfl hX0_charge ⟨by decide, by decide⟩ rfl rfl (Nat.le_of_ble_eq_true rfl) dX0_chargeLoans_27 (by omega) (by decide) (by decide) (fun s6 => ?_)
            refine oz_iinc X (q := 1) (v := x1 + 1) (L2 := [(1, .int (x1 + 1)), (0, .ref (ad 0))]) dX0_chargeLoans_30 rfl rfl (by decide) rfl ?_
            refine oz_goto X (tgt := 2) dX0_chargeLoans_33 (by decide) ?_
            exact oz_sub X [1, 0] (L2 := [(0, .ref (ad 0)), (1, .int (x1 + 1))]) rfl (ih _ (by omega) (x1 + 1) s6)
  show G 0 0 [(0, .ref (ad 0))] [] st (FX0_chargeLoans st)
  unfold FX0_chargeLoans
  refine oz_iconst X (v := 0) dX0_chargeLoans_0 (by decide) ?_
  refine oz_istore_n X (L2 := [(1, .int 0), (0, .ref (ad 0))]) dX0_chargeLoans_1 rfl (by decide) rfl ?_
  exact oz_sub X [1, 0] (L2 := [(0, .ref (ad 0)), (1, .int 0)]) rfl (hc2 300 _ (by omega) 0 st)

/-! AlmsKernel.richestGiver -/
def FX0_richestGiver_w7 : Nat → Int32 → Int32 → Int32 → ST → Option Res
  | 0, _, _, _, _ => none
  | n + 1, x1, x2, x3, st => (if 5 ≤ x3 then some (0, x1, st) else gd (oz_in x3 5) ((if st 3 x3.toNatClampNeg = 2 then (FX0_richestGiver_w7 n x1 x2 (x3 + 1) st) else gd (oz_in x3 5) ((if st 2 x3.toNatClampNeg ≤ x2 then (FX0_richestGiver_w7 n x1 x2 (x3 + 1) st) else gd (oz_in x3 5) ((FX0_richestGiver_w7 n x3 (st 2 x3.toNatClampNeg) (x3 + 1) st)))))))
def FX0_richestGiver (st : ST) : Option Res := (FX0_richestGiver_w7 300 (-1) 19 0 st)
def rmX0_richestGiver : Room := { frames := 0, cells := 0, slots := 0, locals := 0 }
theorem hX0_richestGiver : yX0_richestGiver.cls = RX0 ∧ yX0_richestGiver.cls ≠ "java/lang/invoke/MethodHandle" ∧ yX0_richestGiver.cls ≠ "java/lang/invoke/VarHandle" ∧ (parseMethodDescriptor yX0_richestGiver.desc).map (fun d => d.parameters.length) = some 0 := by decide +kernel
theorem lkX0_richestGiver_13 : Cond.fieldLink RX0 13 RX0 (TX0 1).2.1 (TX0 1).2.2.1 ∈ wsX0_richestGiver := by decide +kernel
theorem lkX0_richestGiver_16 : Cond.fieldLink RX0 16 RX0 (TX0 2).2.1 (TX0 2).2.2.1 ∈ wsX0_richestGiver := by decide +kernel
set_option maxHeartbeats 4000000 in
set_option maxRecDepth 100000 in
theorem mX0_richestGiver (l : Launch) (hst : l.stackTraces = false) (D : va_G) (cI cZ : ClassId) (ad : Nat → Nat) : oz_MI l yX0_richestGiver wsX0_richestGiver rmX0_richestGiver D cI cZ RX0 0 oz_KSX0 ad oz_lyX0 0 [.ref (ad 0)] (FX0_richestGiver) := by
  refine oz_ofI (bytes := cX0_richestGiver) (maxL := 4) (ret := (some .int)) (T := TX0) (N := 19) (by decide) rfl rfl oz_CX0 hst (Nat.le_of_ble_eq_true rfl) ?_
  intro p e s m below meth c st A res G hr X
  have hin : ∀ w ∈ u_ws RX0 TX0 19, w ∈ wsX0_richestGiver := fun w h => List.mem_cons_of_mem _ (List.mem_append_right _ h)
  have lk13 := lkX0_richestGiver_13
  have lk16 := lkX0_richestGiver_16
  have hc7 : ∀ (n k : Nat), k ≤ 0 → ∀ (x1 x2 x3 : Int32) (st : ST), G k 7 [(0, .ref (ad 0)), (1, .int x1), (2, .int x2), (3, .int x3)] [] st (FX0_richestGiver_w7 n x1 x2 x3 st) := by
    intro n
    induction n with
    | zero => intros; exact oz_none X
    | succ n ih =>
      intro k hk x1 x2 x3 st
      rw [FX0_richestGiver_w7]
      refine oz_iload_n X dX0_richestGiver_7 rfl 3 rfl ?_
      refine oz_iconst X (v := 5) dX0_richestGiver_8 (by decide) ?_
      refine oz_icmp_ge X (tgt := 47) dX0_richestGiver_9 (by decide) (fun q2 => ?_) (fun q2 => ?_)
      · refine oz_iload_n X dX0_richestGiver_47 rfl 1 rfl ?_
        exact oz_iret X rfl hr (by omega) dX0_richestGiver_48
      · refine oz_aload_n X dX0_richestGiver_12 rfl 0 rfl ?_
        refine oz_getA X hin (j := 2) rfl lk16 dX0_richestGiver_13 ?_
        refine oz_iload_n X dX0_richestGiver_16 rfl 3 rfl ?_
        refine oz_iald X (j := 2) rfl (by decide) dX0_richestGiver_17 (fun g3 => ?_)
        refine oz_iconst X (v := 2) dX0_richestGiver_18 (by decide) ?_
        refine oz_icmp_eq X (tgt := 41) dX0_richestGiver_19 (by decide) (fun q4 => ?_) (fun q4 => ?_)
        · refine oz_iinc X (q := 3) (v := x3 + 1) (L2 := [(3, .int (x3 + 1)), (0, .ref (ad 0)), (1, .int x1), (2, .int x2)]) dX0_richestGiver_41 rfl rfl (by decide) rfl ?_
          refine oz_goto X (tgt := 7) dX0_richestGiver_44 (by decide) ?_
          exact oz_sub X [1, 2, 3, 0] (L2 := [(0, .ref (ad 0)), (1, .int x1), (2, .int x2), (3, .int (x3 + 1))]) rfl (ih _ (by omega) x1 x2 (x3 + 1) st)
        · refine oz_aload_n X dX0_richestGiver_22 rfl 0 rfl ?_
          refine oz_getA X hin (j := 1) rfl lk13 dX0_richestGiver_23 ?_
          refine oz_iload_n X dX0_richestGiver_26 rfl 3 rfl ?_
          refine oz_iald X (j := 1) rfl (by decide) dX0_richestGiver_27 (fun g5 => ?_)
          refine oz_iload_n X dX0_richestGiver_28 rfl 2 rfl ?_
          refine oz_icmp_le X (tgt := 41) dX0_richestGiver_29 (by decide) (fun q6 => ?_) (fun q6 => ?_)
          · refine oz_iinc X (q := 3) (v := x3 + 1) (L2 := [(3, .int (x3 + 1)), (0, .ref (ad 0)), (1, .int x1), (2, .int x2)]) dX0_richestGiver_41 rfl rfl (by decide) rfl ?_
            refine oz_goto X (tgt := 7) dX0_richestGiver_44 (by decide) ?_
            exact oz_sub X [1, 2, 3, 0] (L2 := [(0, .ref (ad 0)), (1, .int x1), (2, .int x2), (3, .int (x3 + 1))]) rfl (ih _ (by omega) x1 x2 (x3 + 1) st)
          · refine oz_iload_n X dX0_richestGiver_32 rfl 3 rfl ?_
            refine oz_istore_n X (L2 := [(1, .int x3), (0, .ref (ad 0)), (2, .int x2), (3, .int x3)]) dX0_richestGiver_33 rfl (by decide) rfl ?_
            refine oz_aload_n X dX0_richestGiver_34 rfl 1 rfl ?_
            refine oz_getA X hin (j := 1) rfl lk13 dX0_richestGiver_35 ?_
            refine oz_iload_n X dX0_richestGiver_38 rfl 3 rfl ?_
            refine oz_iald X (j := 1) rfl (by decide) dX0_richestGiver_39 (fun g7 => ?_)
            refine oz_istore_n X (L2 := [(2, .int (st 2 x3.toNatClampNeg)), (1, .int x3), (0, .ref (ad 0)), (3, .int x3)]) dX0_richestGiver_40 rfl (by decide) rfl ?_
            refine oz_iinc X (q := 3) (v := x3 + 1) (L2 := [(3, .int (x3 + 1)), (2, .int (st 2 x3.toNatClampNeg)), (1, .int x3), (0, .ref (ad 0))]) dX0_richestGiver_41 rfl rfl (by decide) rfl ?_
            refine oz_goto X (tgt := 7) dX0_richestGiver_44 (by decide) ?_
            exact oz_sub X [3, 2, 1, 0] (L2 := [(0, .ref (ad 0)), (1, .int x3), (2, .int (st 2 x3.toNatClampNeg)), (3, .int (x3 + 1))]) rfl (ih _ (by omega) x3 (st 2 x3.toNatClampNeg) (x3 + 1) st)
  show G 0 0 [(0, .ref (ad 0))] [] st (FX0_richestGiver st)
  unfold FX0_richestGiver
  refine oz_iconst X (v := (-1)) dX0_richestGiver_0 (by decide) ?_
  refine oz_istore_n X (L2 := [(1, .int (-1)), (0, .ref (ad 0))]) dX0_richestGiver_1 rfl (by decide) rfl ?_
  refine oz_bipush X (v := 19) dX0_richestGiver_2 (by decide) ?_
  refine oz_istore_n X (L2 := [(2, .int 19), (1, .int (-1)), (0, .ref (ad 0))]) dX0_richestGiver_4 rfl (by decide) rfl ?_
  refine oz_iconst X (v := 0) dX0_richestGiver_5 (by decide) ?_
  refine oz_istore_n X (L2 := [(3, .int 0), (2, .int 19), (1, .int (-1)), (0, .ref (ad 0))]) dX0_richestGiver_6 rfl (by decide) rfl ?_
  exact oz_sub X [3, 2, 1, 0] (L2 := [(0, .ref (ad 0)), (1, .int (-1)), (2, .int 19), (3, .int 0)]) rfl (hc7 300 _ (by omega) (-1) 19 0 st)

/-! AlmsKernel.giveAlms -/
def FX0_giveAlms_j49 (k2 : Int32 → ST → Option Res) (x1 : Int32) (st : ST) : Option Res := gd (oz_in x1 5) ((if st 2 x1.toNatClampNeg < 5 then (k2 (x1 + 1) st) else gd (oz_in x1 5) (stp (oz_se st 3 x1.toNatClampNeg 0) (fun s4 => (k2 (x1 + 1) s4)))))
def FX0_giveAlms_w2 : Nat → Int32 → ST → Option Res
  | 0, _, _ => none
  | n + 1, x1, st => (if 5 ≤ x1 then some (0, 0, st) else gd (oz_in x1 5) ((if st 3 x1.toNatClampNeg = 2 then bnd (FX0_richestGiver st) (fun r9 s9 => bnd (FX0_isProcess r9 s9) (fun r10 s10 => (if r10 = 0 then (FX0_giveAlms_j49 (FX0_giveAlms_w2 n) x1 s10) else gd (oz_in r9 5) (gd (oz_in r9 5) (stp (oz_se s10 2 r9.toNatClampNeg ((s10 2 r9.toNatClampNeg) - 1)) (fun s13 => gd (oz_in x1 5) (gd (oz_in x1 5) (stp (oz_se s13 2 x1.toNatClampNeg ((s13 2 x1.toNatClampNeg) + 1)) (fun s15 => (FX0_giveAlms_j49 (FX0_giveAlms_w2 n) x1 s15)))))))))) else (FX0_giveAlms_w2 n (x1 + 1) st))))
def FX0_giveAlms (st : ST) : Option Res := (FX0_giveAlms_w2 300 0 st)
def rmX0_giveAlms : Room := { frames := 1, cells := 0, slots := 0, locals := 23 }
theorem hX0_giveAlms : yX0_giveAlms.cls = RX0 ∧ yX0_giveAlms.cls ≠ "java/lang/invoke/MethodHandle" ∧ yX0_giveAlms.cls ≠ "java/lang/invoke/VarHandle" ∧ (parseMethodDescriptor yX0_giveAlms.desc).map (fun d => d.parameters.length) = some 0 := by decide +kernel
theorem lkX0_giveAlms_13 : Cond.fieldLink RX0 13 RX0 (TX0 1).2.1 (TX0 1).2.2.1 ∈ wsX0_giveAlms := by decide +kernel
theorem lkX0_giveAlms_16 : Cond.fieldLink RX0 16 RX0 (TX0 2).2.1 (TX0 2).2.2.1 ∈ wsX0_giveAlms := by decide +kernel
set_option maxHeartbeats 4000000 in
set_option maxRecDepth 100000 in
theorem mX0_giveAlms (l : Launch) (hst : l.stackTraces = false) (D : va_G) (cI cZ : ClassId) (ad : Nat → Nat) : oz_MV l yX0_giveAlms wsX0_giveAlms rmX0_giveAlms D cI cZ RX0 0 oz_KSX0 ad oz_lyX0 0 [.ref (ad 0)] (FX0_giveAlms) := by
  refine oz_ofV (bytes := cX0_giveAlms) (maxL := 3) (ret := none) (T := TX0) (N := 19) (by decide) rfl rfl oz_CX0 hst (Nat.le_of_ble_eq_true rfl) ?_
  intro p e s m below meth c st A res G hr X
  have hin : ∀ w ∈ u_ws RX0 TX0 19, w ∈ wsX0_giveAlms := fun w h => List.mem_cons_of_mem _ (List.mem_append_right _ h)
  have lk13 := lkX0_giveAlms_13
  have lk16 := lkX0_giveAlms_16
  have hc49 : ∀ (k2 : Int32 → ST → Option Res) (hk2 : ∀ (k : Nat), k ≤ 0 → ∀ (x1 : Int32) (st : ST), G k 2 [(0, .ref (ad 0)), (1, .int x1)] [] st (k2 x1 st)) (k : Nat), k ≤ 0 → ∀ (x1 : Int32) (st : ST), G k 49 [(0, .ref (ad 0)), (1, .int x1)] [] st (FX0_giveAlms_j49 k2 x1 st) := by
    intro k2 hk2 k hk x1 st
    unfold FX0_giveAlms_j49
    refine oz_aload_n X dX0_giveAlms_49 rfl 0 rfl ?_
    refine oz_getA X hin (j := 1) rfl lk13 dX0_giveAlms_50 ?_
    refine oz_iload_n X dX0_giveAlms_53 rfl 1 rfl ?_
    refine oz_iald X (j := 1) rfl (by decide) dX0_giveAlms_54 (fun g2 => ?_)
    refine oz_iconst X (v := 5) dX0_giveAlms_55 (by decide) ?_
    refine oz_icmp_lt X (tgt := 66) dX0_giveAlms_56 (by decide) (fun q3 => ?_) (fun q3 => ?_)
    · refine oz_iinc X (q := 1) (v := x1 + 1) (L2 := [(1, .int (x1 + 1)), (0, .ref (ad 0))]) dX0_giveAlms_66 rfl rfl (by decide) rfl ?_
      refine oz_goto X (tgt := 2) dX0_giveAlms_69 (by decide) ?_
      exact oz_sub X [1, 0] (L2 := [(0, .ref (ad 0)), (1, .int (x1 + 1))]) rfl (hk2 _ (by omega) (x1 + 1) st)
    · refine oz_aload_n X dX0_giveAlms_59 rfl 0 rfl ?_
      refine oz_getA X hin (j := 2) rfl lk16 dX0_giveAlms_60 ?_
      refine oz_iload_n X dX0_giveAlms_63 rfl 1 rfl ?_
      refine oz_iconst X (v := 0) dX0_giveAlms_64 (by decide) ?_
      refine oz_iast X (j := 2) rfl (by decide) dX0_giveAlms_65 (fun s4 e4 g4 => ?_)
      refine oz_iinc X (q := 1) (v := x1 + 1) (L2 := [(1, .int (x1 + 1)), (0, .ref (ad 0))]) dX0_giveAlms_66 rfl rfl (by decide) rfl ?_
      refine oz_goto X (tgt := 2) dX0_giveAlms_69 (by decide) ?_
      exact oz_sub X [1, 0] (L2 := [(0, .ref (ad 0)), (1, .int (x1 + 1))]) rfl (hk2 _ (by omega) (x1 + 1) s4)
  have hc2 : ∀ (n k : Nat), k ≤ 0 → ∀ (x1 : Int32) (st : ST), G k 2 [(0, .ref (ad 0)), (1, .int x1)] [] st (FX0_giveAlms_w2 n x1 st) := by
    intro n
    induction n with
    | zero => intros; exact oz_none X
    | succ n ih =>
      intro k hk x1 st
      rw [FX0_giveAlms_w2]
      refine oz_iload_n X dX0_giveAlms_2 rfl 1 rfl ?_
      refine oz_iconst X (v := 5) dX0_giveAlms_3 (by decide) ?_
      refine oz_icmp_ge X (tgt := 72) dX0_giveAlms_4 (by decide) (fun q6 => ?_) (fun q6 => ?_)
      · exact oz_vret X rfl hr (by omega) dX0_giveAlms_72
      · refine oz_aload_n X dX0_giveAlms_7 rfl 0 rfl ?_
        refine oz_getA X hin (j := 2) rfl lk16 dX0_giveAlms_8 ?_
        refine oz_iload_n X dX0_giveAlms_11 rfl 1 rfl ?_
        refine oz_iald X (j := 2) rfl (by decide) dX0_giveAlms_12 (fun g7 => ?_)
        refine oz_iconst X (v := 2) dX0_giveAlms_13 (by decide) ?_
        refine oz_icmp_ne X (tgt := 66) dX0_giveAlms_14 (by decide) (fun q8 => ?_) (fun q8 => ?_)
        · refine oz_iinc X (q := 1) (v := x1 + 1) (L2 := [(1, .int (x1 + 1)), (0, .ref (ad 0))]) dX0_giveAlms_66 rfl rfl (by decide) rfl ?_
          refine oz_goto X (tgt := 2) dX0_giveAlms_69 (by decide) ?_
          exact oz_sub X [1, 0] (L2 := [(0, .ref (ad 0)), (1, .int (x1 + 1))]) rfl (ih _ (by omega) (x1 + 1) st)
        · refine oz_aload_n X dX0_giveAlms_17 rfl 0 rfl ?_
          refine oz_callV X rfl (As := []) (S := []) (mX0_richestGiver l hst D cI cZ ad) gX0_giveAlms_X0_richestGiver rfl rfl rfl hX0_richestGiver ⟨by decide, by decide⟩ rfl rfl (Nat.le_of_ble_eq_true rfl) dX0_giveAlms_18 (by omega) (by decide) (by decide) (fun r9 s9 => ?_)
          refine oz_istore_n X (L2 := [(2, .int r9), (0, .ref (ad 0)), (1, .int x1)]) dX0_giveAlms_21 rfl (by decide) rfl ?_
          refine oz_iload_n X dX0_giveAlms_22 rfl 0 rfl ?_
          refine oz_callS X rfl (As := [.int r9]) (S := []) (mX0_isProcess l hst D cI cZ ad r9) gX0_giveAlms_X0_isProcess rfl rfl rfl hX0_isProcess ⟨by decide, by decide⟩ rfl rfl (Nat.le_of_ble_eq_true rfl) dX0_giveAlms_23 (by omega) (by decide) (by decide) (fun r10 s10 => ?_)
          refine oz_if_eq X (tgt := 49) dX0_giveAlms_26 (by decide) (fun q11 => ?_) (fun q11 => ?_)
          · exact oz_sub X [1, 2] (L2 := [(0, .ref (ad 0)), (1, .int x1)]) rfl (hc49 (FX0_giveAlms_w2 n) ih _ (by omega) x1 s10)
          · refine oz_aload_n X dX0_giveAlms_29 rfl 1 rfl ?_
            refine oz_getA X hin (j := 1) rfl lk13 dX0_giveAlms_30 ?_
            refine oz_iload_n X dX0_giveAlms_33 rfl 0 rfl ?_
            refine oz_dup2 X dX0_giveAlms_34 rfl rfl ?_
            refine oz_iald X (j := 1) rfl (by decide) dX0_giveAlms_35 (fun g12 => ?_)
            refine oz_iconst X (v := 1) dX0_giveAlms_36 (by decide) ?_
            refine oz_isub X dX0_giveAlms_37 ?_
            refine oz_iast X (j := 1) rfl (by decide) dX0_giveAlms_38 (fun s13 e13 g13 => ?_)
            refine oz_aload_n X dX0_giveAlms_39 rfl 1 rfl ?_
            refine oz_getA X hin (j := 1) rfl lk13 dX0_giveAlms_40 ?_
            refine oz_iload_n X dX0_giveAlms_43 rfl 2 rfl ?_
            refine oz_dup2 X dX0_giveAlms_44 rfl rfl ?_
            refine oz_iald X (j := 1) rfl (by decide) dX0_giveAlms_45 (fun g14 => ?_)
            refine oz_iconst X (v := 1) dX0_giveAlms_46 (by decide) ?_
            refine oz_iadd X dX0_giveAlms_47 ?_
            refine oz_iast X (j := 1) rfl (by decide) dX0_giveAlms_48 (fun s15 e15 g15 => ?_)
            exact oz_sub X [1, 2] (L2 := [(0, .ref (ad 0)), (1, .int x1)]) rfl (hc49 (FX0_giveAlms_w2 n) ih _ (by omega) x1 s15)
  show G 0 0 [(0, .ref (ad 0))] [] st (FX0_giveAlms st)
  unfold FX0_giveAlms
  refine oz_iconst X (v := 0) dX0_giveAlms_0 (by decide) ?_
  refine oz_istore_n X (L2 := [(1, .int 0), (0, .ref (ad 0))]) dX0_giveAlms_1 rfl (by decide) rfl ?_
  exact oz_sub X [1, 0] (L2 := [(0, .ref (ad 0)), (1, .int 0)]) rfl (hc2 300 _ (by omega) 0 st)

/-! AlmsKernel.trackOf -/
def FX0_trackOf (a1 : Int32) (st : ST) : Option Res := gd (oz_in a1 12) (gd (oz_in a1 12) (some (0, (8 * (st 6 a1.toNatClampNeg)) + (st 7 a1.toNatClampNeg), st)))
def rmX0_trackOf : Room := { frames := 0, cells := 0, slots := 0, locals := 0 }
theorem hX0_trackOf : yX0_trackOf.cls = RX0 ∧ yX0_trackOf.cls ≠ "java/lang/invoke/MethodHandle" ∧ yX0_trackOf.cls ≠ "java/lang/invoke/VarHandle" ∧ (parseMethodDescriptor yX0_trackOf.desc).map (fun d => d.parameters.length) = some 1 := by decide +kernel
theorem lkX0_trackOf_25 : Cond.fieldLink RX0 25 RX0 (TX0 5).2.1 (TX0 5).2.2.1 ∈ wsX0_trackOf := by decide +kernel
theorem lkX0_trackOf_28 : Cond.fieldLink RX0 28 RX0 (TX0 6).2.1 (TX0 6).2.2.1 ∈ wsX0_trackOf := by decide +kernel
set_option maxHeartbeats 4000000 in
set_option maxRecDepth 100000 in
theorem mX0_trackOf (l : Launch) (hst : l.stackTraces = false) (D : va_G) (cI cZ : ClassId) (ad : Nat → Nat) (a1 : Int32) : oz_MI l yX0_trackOf wsX0_trackOf rmX0_trackOf D cI cZ RX0 0 oz_KSX0 ad oz_lyX0 0 [.ref (ad 0), .int a1] (FX0_trackOf a1) := by
  refine oz_ofI (bytes := cX0_trackOf) (maxL := 2) (ret := (some .int)) (T := TX0) (N := 19) (by decide) rfl rfl oz_CX0 hst (Nat.le_of_ble_eq_true rfl) ?_
  intro p e s m below meth c st A res G hr X
  have hin : ∀ w ∈ u_ws RX0 TX0 19, w ∈ wsX0_trackOf := fun w h => List.mem_cons_of_mem _ (List.mem_append_right _ h)
  have lk25 := lkX0_trackOf_25
  have lk28 := lkX0_trackOf_28
  show G 0 0 [(0, .ref (ad 0)), (1, .int a1)] [] st (FX0_trackOf a1 st)
  unfold FX0_trackOf
  refine oz_bipush X (v := 8) dX0_trackOf_0 (by decide) ?_
  refine oz_aload_n X dX0_trackOf_2 rfl 0 rfl ?_
  refine oz_getA X hin (j := 5) rfl lk25 dX0_trackOf_3 ?_
  refine oz_iload_n X dX0_trackOf_6 rfl 1 rfl ?_
  refine oz_iald X (j := 5) rfl (by decide) dX0_trackOf_7 (fun g1 => ?_)
  refine oz_imul X dX0_trackOf_8 ?_
  refine oz_aload_n X dX0_trackOf_9 rfl 0 rfl ?_
  refine oz_getA X hin (j := 6) rfl lk28 dX0_trackOf_10 ?_
  refine oz_iload_n X dX0_trackOf_13 rfl 1 rfl ?_
  refine oz_iald X (j := 6) rfl (by decide) dX0_trackOf_14 (fun g2 => ?_)
  refine oz_iadd X dX0_trackOf_15 ?_
  exact oz_iret X rfl hr (by omega) dX0_trackOf_16

/-! AlmsKernel.nearestRequest -/
def FX0_nearestRequest_j64 (k10 : Int32 → Int32 → Int32 → Int32 → ST → Option Res) (x4 x5 x6 : Int32) (st : ST) : Option Res := (k10 x4 x5 x6 (x4 + 1) st)
def FX0_nearestRequest_w10 : Nat → Int32 → Int32 → Int32 → Int32 → ST → Option Res
  | 0, _, _, _, _, _ => none
  | n + 1, x1, x2, x3, x4, st => (if 12 ≤ x4 then some (0, x1, st) else bnd (FX0_isComing x4 st) (fun r4 s4 => (if r4 = 0 then (FX0_nearestRequest_w10 n x1 x2 x3 (x4 + 1) s4) else bnd (FX0_trackOf x4 s4) (fun r6 s6 => (if ((if 0 ≤ r6 - (s6 0 17) then r6 - (s6 0 17) else 0 - (r6 - (s6 0 17)))) < x3 then (FX0_nearestRequest_j64 (FX0_nearestRequest_w10 n) x4 r6 (if 0 ≤ r6 - (s6 0 17) then r6 - (s6 0 17) else 0 - (r6 - (s6 0 17))) s6) else (if ((if 0 ≤ r6 - (s6 0 17) then r6 - (s6 0 17) else 0 - (r6 - (s6 0 17)))) = x3 then (if x2 ≤ r6 then (FX0_nearestRequest_w10 n x1 x2 x3 (x4 + 1) s6) else (FX0_nearestRequest_j64 (FX0_nearestRequest_w10 n) x4 r6 (if 0 ≤ r6 - (s6 0 17) then r6 - (s6 0 17) else 0 - (r6 - (s6 0 17))) s6)) else (FX0_nearestRequest_w10 n x1 x2 x3 (x4 + 1) s6)))))))
def FX0_nearestRequest (st : ST) : Option Res := (FX0_nearestRequest_w10 300 (-1) (-1) 40 0 st)
def rmX0_nearestRequest : Room := { frames := 2, cells := 0, slots := 0, locals := 41 }
theorem hX0_nearestRequest : yX0_nearestRequest.cls = RX0 ∧ yX0_nearestRequest.cls ≠ "java/lang/invoke/MethodHandle" ∧ yX0_nearestRequest.cls ≠ "java/lang/invoke/VarHandle" ∧ (parseMethodDescriptor yX0_nearestRequest.desc).map (fun d => d.parameters.length) = some 0 := by decide +kernel
theorem lkX0_nearestRequest_63 : Cond.fieldLink RX0 63 RX0 (TX0 17).2.1 (TX0 17).2.2.1 ∈ wsX0_nearestRequest := by decide +kernel
set_option maxHeartbeats 4000000 in
set_option maxRecDepth 100000 in
theorem mX0_nearestRequest (l : Launch) (hst : l.stackTraces = false) (D : va_G) (cI cZ : ClassId) (ad : Nat → Nat) : oz_MI l yX0_nearestRequest wsX0_nearestRequest rmX0_nearestRequest D cI cZ RX0 0 oz_KSX0 ad oz_lyX0 0 [.ref (ad 0)] (FX0_nearestRequest) := by
  refine oz_ofI (bytes := cX0_nearestRequest) (maxL := 7) (ret := (some .int)) (T := TX0) (N := 19) (by decide) rfl rfl oz_CX0 hst (Nat.le_of_ble_eq_true rfl) ?_
  intro p e s m below meth c st A res G hr X
  have hin : ∀ w ∈ u_ws RX0 TX0 19, w ∈ wsX0_nearestRequest := fun w h => List.mem_cons_of_mem _ (List.mem_append_right _ h)
  have lk63 := lkX0_nearestRequest_63
  have ab1 : Cond.methodLink RX0 215 Lib.Math.abs.name ∈ wsX0_nearestRequest := by decide +kernel
  have ab2 : Cond.static Lib.Math.abs.name ∈ wsX0_nearestRequest := by decide +kernel
  have ab3 : Cond.initialized "java/lang/Math" ∈ wsX0_nearestRequest := by decide +kernel
  have ab4 : Cond.code Lib.Math.abs.name Lib.Math.abs.code 1 (some .int) ∈ wsX0_nearestRequest := by simp [wsX0_nearestRequest]
  have hc64 : ∀ (k10 : Int32 → Int32 → Int32 → Int32 → ST → Option Res) (hk10 : ∀ (k : Nat), k ≤ 0 → ∀ (x1 x2 x3 x4 : Int32) (st : ST), G k 10 [(0, .ref (ad 0)), (1, .int x1), (2, .int x2), (3, .int x3), (4, .int x4)] [] st (k10 x1 x2 x3 x4 st)) (k : Nat), k ≤ 0 → ∀ (x4 x5 x6 : Int32) (st : ST), G k 64 [(0, .ref (ad 0)), (4, .int x4), (5, .int x5), (6, .int x6)] [] st (FX0_nearestRequest_j64 k10 x4 x5 x6 st) := by
    intro k10 hk10 k hk x4 x5 x6 st
    unfold FX0_nearestRequest_j64
    refine oz_iload X dX0_nearestRequest_64 1 rfl ?_
    refine oz_istore_n X (L2 := [(1, .int x4), (0, .ref (ad 0)), (4, .int x4), (5, .int x5), (6, .int x6)]) dX0_nearestRequest_66 rfl (by decide) rfl ?_
    refine oz_iload X dX0_nearestRequest_67 3 rfl ?_
    refine oz_istore_n X (L2 := [(2, .int x5), (1, .int x4), (0, .ref (ad 0)), (4, .int x4), (5, .int x5), (6, .int x6)]) dX0_nearestRequest_69 rfl (by decide) rfl ?_
    refine oz_iload X dX0_nearestRequest_70 5 rfl ?_
    refine oz_istore_n X (L2 := [(3, .int x6), (2, .int x5), (1, .int x4), (0, .ref (ad 0)), (4, .int x4), (5, .int x5), (6, .int x6)]) dX0_nearestRequest_72 rfl (by decide) rfl ?_
    refine oz_iinc X (q := 4) (v := x4 + 1) (L2 := [(4, .int (x4 + 1)), (3, .int x6), (2, .int x5), (1, .int x4), (0, .ref (ad 0)), (5, .int x5), (6, .int x6)]) dX0_nearestRequest_73 rfl rfl (by decide) rfl ?_
    refine oz_goto X (tgt := 10) dX0_nearestRequest_76 (by decide) ?_
    exact oz_sub X [4, 3, 2, 1, 0] (L2 := [(0, .ref (ad 0)), (1, .int x4), (2, .int x5), (3, .int x6), (4, .int (x4 + 1))]) rfl (hk10 _ (by omega) x4 x5 x6 (x4 + 1) st)
  have hc10 : ∀ (n k : Nat), k ≤ 0 → ∀ (x1 x2 x3 x4 : Int32) (st : ST), G k 10 [(0, .ref (ad 0)), (1, .int x1), (2, .int x2), (3, .int x3), (4, .int x4)] [] st (FX0_nearestRequest_w10 n x1 x2 x3 x4 st) := by
    intro n
    induction n with
    | zero => intros; exact oz_none X
    | succ n ih =>
      intro k hk x1 x2 x3 x4 st
      rw [FX0_nearestRequest_w10]
      refine oz_iload X dX0_nearestRequest_10 4 rfl ?_
      refine oz_bipush X (v := 12) dX0_nearestRequest_12 (by decide) ?_
      refine oz_icmp_ge X (tgt := 79) dX0_nearestRequest_14 (by decide) (fun q3 => ?_) (fun q3 => ?_)
      · refine oz_iload_n X dX0_nearestRequest_79 rfl 1 rfl ?_
        exact oz_iret X rfl hr (by omega) dX0_nearestRequest_80
      · refine oz_aload_n X dX0_nearestRequest_17 rfl 0 rfl ?_
        refine oz_iload X dX0_nearestRequest_18 4 rfl ?_
        refine oz_callV X rfl (As := [.int x4]) (S := []) (mX0_isComing l hst D cI cZ ad x4) gX0_nearestRequest_X0_isComing rfl rfl rfl hX0_isComing ⟨by decide, by decide⟩ rfl rfl (Nat.le_of_ble_eq_true rfl) dX0_nearestRequest_20 (by omega) (by decide) (by decide) (fun r4 s4 => ?_)
        refine oz_if_eq X (tgt := 73) dX0_nearestRequest_23 (by decide) (fun q5 => ?_) (fun q5 => ?_)
        · refine oz_iinc X (q := 4) (v := x4 + 1) (L2 := [(4, .int (x4 + 1)), (0, .ref (ad 0)), (1, .int x1), (2, .int x2), (3, .int x3)]) dX0_nearestRequest_73 rfl rfl (by decide) rfl ?_
          refine oz_goto X (tgt := 10) dX0_nearestRequest_76 (by decide) ?_
          exact oz_sub X [1, 2, 3, 4, 0] (L2 := [(0, .ref (ad 0)), (1, .int x1), (2, .int x2), (3, .int x3), (4, .int (x4 + 1))]) rfl (ih _ (by omega) x1 x2 x3 (x4 + 1) s4)
        · refine oz_aload_n X dX0_nearestRequest_26 rfl 0 rfl ?_
          refine oz_iload X dX0_nearestRequest_27 4 rfl ?_
          refine oz_callV X rfl (As := [.int x4]) (S := []) (mX0_trackOf l hst D cI cZ ad x4) gX0_nearestRequest_X0_trackOf rfl rfl rfl hX0_trackOf ⟨by decide, by decide⟩ rfl rfl (Nat.le_of_ble_eq_true rfl) dX0_nearestRequest_29 (by omega) (by decide) (by decide) (fun r6 s6 => ?_)
          refine oz_istore X (L2 := [(5, .int r6), (0, .ref (ad 0)), (1, .int x1), (2, .int x2), (3, .int x3), (4, .int x4)]) dX0_nearestRequest_32 (by decide) rfl ?_
          refine oz_iload X dX0_nearestRequest_34 0 rfl ?_
          refine oz_aload_n X dX0_nearestRequest_36 rfl 1 rfl ?_
          refine oz_getS X hin (j := 17) rfl lk63 dX0_nearestRequest_37 ?_
          refine oz_isub X dX0_nearestRequest_40 ?_
          refine oz_abs X ab1 ab2 ab3 ab4 (by decide) (Nat.le_of_ble_eq_true rfl) (by omega) (by omega) dX0_nearestRequest_41 ?_
          refine oz_istore X (L2 := [(6, .int (if 0 ≤ r6 - (s6 0 17) then r6 - (s6 0 17) else 0 - (r6 - (s6 0 17)))), (5, .int r6), (0, .ref (ad 0)), (1, .int x1), (2, .int x2), (3, .int x3), (4, .int x4)]) dX0_nearestRequest_44 (by decide) rfl ?_
          refine oz_iload X dX0_nearestRequest_46 0 rfl ?_
          refine oz_iload_n X dX0_nearestRequest_48 rfl 5 rfl ?_
          refine oz_icmp_lt X (tgt := 64) dX0_nearestRequest_49 (by decide) (fun q7 => ?_) (fun q7 => ?_)
          · exact oz_sub X [2, 6, 1, 0] (L2 := [(0, .ref (ad 0)), (4, .int x4), (5, .int r6), (6, .int (if 0 ≤ r6 - (s6 0 17) then r6 - (s6 0 17) else 0 - (r6 - (s6 0 17))))]) rfl (hc64 (FX0_nearestRequest_w10 n) ih _ (by omega) x4 r6 (if 0 ≤ r6 - (s6 0 17) then r6 - (s6 0 17) else 0 - (r6 - (s6 0 17))) s6)
          · refine oz_iload X dX0_nearestRequest_52 0 rfl ?_
            refine oz_iload_n X dX0_nearestRequest_54 rfl 5 rfl ?_
            refine oz_icmp_ne X (tgt := 73) dX0_nearestRequest_55 (by decide) (fun q8 => ?_) (fun q8 => ?_)
            · refine oz_iinc X (q := 6) (v := x4 + 1) (L2 := [(4, .int (x4 + 1)), (6, .int (if 0 ≤ r6 - (s6 0 17) then r6 - (s6 0 17) else 0 - (r6 - (s6 0 17)))), (5, .int r6), (0, .ref (ad 0)), (1, .int x1), (2, .int x2), (3, .int x3)]) dX0_nearestRequest_73 rfl rfl (by decide) rfl ?_
              refine oz_goto X (tgt := 10) dX0_nearestRequest_76 (by decide) ?_
              exact oz_sub X [3, 4, 5, 6, 0] (L2 := [(0, .ref (ad 0)), (1, .int x1), (2, .int x2), (3, .int x3), (4, .int (x4 + 1))]) rfl (ih _ (by omega) x1 x2 x3 (x4 + 1) s6)
            · refine oz_iload X dX0_nearestRequest_58 1 rfl ?_
              refine oz_iload_n X dX0_nearestRequest_60 rfl 4 rfl ?_
              refine oz_icmp_ge X (tgt := 73) dX0_nearestRequest_61 (by decide) (fun q9 => ?_) (fun q9 => ?_)
              · refine oz_iinc X (q := 6) (v := x4 + 1) (L2 := [(4, .int (x4 + 1)), (6, .int (if 0 ≤ r6 - (s6 0 17) then r6 - (s6 0 17) else 0 - (r6 - (s6 0 17)))), (5, .int r6), (0, .ref (ad 0)), (1, .int x1), (2, .int x2), (3, .int x3)]) dX0_nearestRequest_73 rfl rfl (by decide) rfl ?_
                refine oz_goto X (tgt := 10) dX0_nearestRequest_76 (by decide) ?_
                exact oz_sub X [3, 4, 5, 6, 0] (L2 := [(0, .ref (ad 0)), (1, .int x1), (2, .int x2), (3, .int x3), (4, .int (x4 + 1))]) rfl (ih _ (by omega) x1 x2 x3 (x4 + 1) s6)
              · exact oz_sub X [2, 6, 1, 0] (L2 := [(0, .ref (ad 0)), (4, .int x4), (5, .int r6), (6, .int (if 0 ≤ r6 - (s6 0 17) then r6 - (s6 0 17) else 0 - (r6 - (s6 0 17))))]) rfl (hc64 (FX0_nearestRequest_w10 n) ih _ (by omega) x4 r6 (if 0 ≤ r6 - (s6 0 17) then r6 - (s6 0 17) else 0 - (r6 - (s6 0 17))) s6)
  show G 0 0 [(0, .ref (ad 0))] [] st (FX0_nearestRequest st)
  unfold FX0_nearestRequest
  refine oz_iconst X (v := (-1)) dX0_nearestRequest_0 (by decide) ?_
  refine oz_istore_n X (L2 := [(1, .int (-1)), (0, .ref (ad 0))]) dX0_nearestRequest_1 rfl (by decide) rfl ?_
  refine oz_iconst X (v := (-1)) dX0_nearestRequest_2 (by decide) ?_
  refine oz_istore_n X (L2 := [(2, .int (-1)), (1, .int (-1)), (0, .ref (ad 0))]) dX0_nearestRequest_3 rfl (by decide) rfl ?_
  refine oz_bipush X (v := 40) dX0_nearestRequest_4 (by decide) ?_
  refine oz_istore_n X (L2 := [(3, .int 40), (2, .int (-1)), (1, .int (-1)), (0, .ref (ad 0))]) dX0_nearestRequest_6 rfl (by decide) rfl ?_
  refine oz_iconst X (v := 0) dX0_nearestRequest_7 (by decide) ?_
  refine oz_istore X (L2 := [(4, .int 0), (3, .int 40), (2, .int (-1)), (1, .int (-1)), (0, .ref (ad 0))]) dX0_nearestRequest_8 (by decide) rfl ?_
  exact oz_sub X [4, 3, 2, 1, 0] (L2 := [(0, .ref (ad 0)), (1, .int (-1)), (2, .int (-1)), (3, .int 40), (4, .int 0)]) rfl (hc10 300 _ (by omega) (-1) (-1) 40 0 st)

/-! AlmsKernel.finishRequest -/
def FX0_finishRequest (a1 : Int32) (st : ST) : Option Res := stp (oz_se st 0 18 (-1)) (fun s1 => gd (oz_in a1 12) (stp (oz_se s1 8 a1.toNatClampNeg 1) (fun s2 => gd (oz_in a1 12) (stp (oz_se s2 9 a1.toNatClampNeg (s2 0 16)) (fun s3 => gd (oz_in a1 12) (bnd (FX0_isProcess (s3 6 a1.toNatClampNeg) s3) (fun r5 s5 => (if r5 = 0 then some (0, 0, s5) else gd (oz_in (s3 6 a1.toNatClampNeg) 5) (stp (oz_se s5 3 (s3 6 a1.toNatClampNeg).toNatClampNeg 0) (fun s7 => some (0, 0, s7)))))))))))
def rmX0_finishRequest : Room := { frames := 1, cells := 0, slots := 0, locals := 20 }
theorem hX0_finishRequest : yX0_finishRequest.cls = RX0 ∧ yX0_finishRequest.cls ≠ "java/lang/invoke/MethodHandle" ∧ yX0_finishRequest.cls ≠ "java/lang/invoke/VarHandle" ∧ (parseMethodDescriptor yX0_finishRequest.desc).map (fun d => d.parameters.length) = some 1 := by decide +kernel
theorem lkX0_finishRequest_16 : Cond.fieldLink RX0 16 RX0 (TX0 2).2.1 (TX0 2).2.2.1 ∈ wsX0_finishRequest := by decide +kernel
theorem lkX0_finishRequest_25 : Cond.fieldLink RX0 25 RX0 (TX0 5).2.1 (TX0 5).2.2.1 ∈ wsX0_finishRequest := by decide +kernel
theorem lkX0_finishRequest_31 : Cond.fieldLink RX0 31 RX0 (TX0 7).2.1 (TX0 7).2.2.1 ∈ wsX0_finishRequest := by decide +kernel
theorem lkX0_finishRequest_35 : Cond.fieldLink RX0 35 RX0 (TX0 8).2.1 (TX0 8).2.2.1 ∈ wsX0_finishRequest := by decide +kernel
theorem lkX0_finishRequest_60 : Cond.fieldLink RX0 60 RX0 (TX0 16).2.1 (TX0 16).2.2.1 ∈ wsX0_finishRequest := by decide +kernel
theorem lkX0_finishRequest_66 : Cond.fieldLink RX0 66 RX0 (TX0 18).2.1 (TX0 18).2.2.1 ∈ wsX0_finishRequest := by decide +kernel
set_option maxHeartbeats 4000000 in
set_option maxRecDepth 100000 in
theorem mX0_finishRequest (l : Launch) (hst : l.stackTraces = false) (D : va_G) (cI cZ : ClassId) (ad : Nat → Nat) (a1 : Int32) : oz_MV l yX0_finishRequest wsX0_finishRequest rmX0_finishRequest D cI cZ RX0 0 oz_KSX0 ad oz_lyX0 0 [.ref (ad 0), .int a1] (FX0_finishRequest a1) := by
  refine oz_ofV (bytes := cX0_finishRequest) (maxL := 3) (ret := none) (T := TX0) (N := 19) (by decide) rfl rfl oz_CX0 hst (Nat.le_of_ble_eq_true rfl) ?_
  intro p e s m below meth c st A res G hr X
  have hin : ∀ w ∈ u_ws RX0 TX0 19, w ∈ wsX0_finishRequest := fun w h => List.mem_cons_of_mem _ (List.mem_append_right _ h)
  have lk16 := lkX0_finishRequest_16
  have lk25 := lkX0_finishRequest_25
  have lk31 := lkX0_finishRequest_31
  have lk35 := lkX0_finishRequest_35
  have lk60 := lkX0_finishRequest_60
  have lk66 := lkX0_finishRequest_66
  show G 0 0 [(0, .ref (ad 0)), (1, .int a1)] [] st (FX0_finishRequest a1 st)
  unfold FX0_finishRequest
  refine oz_aload_n X dX0_finishRequest_0 rfl 0 rfl ?_
  refine oz_iconst X (v := (-1)) dX0_finishRequest_1 (by decide) ?_
  refine oz_putS X hin (j := 18) rfl lk66 dX0_finishRequest_2 (fun s1 e1 => ?_)
  refine oz_aload_n X dX0_finishRequest_5 rfl 0 rfl ?_
  refine oz_getA X hin (j := 7) rfl lk31 dX0_finishRequest_6 ?_
  refine oz_iload_n X dX0_finishRequest_9 rfl 1 rfl ?_
  refine oz_iconst X (v := 1) dX0_finishRequest_10 (by decide) ?_
  refine oz_zast X (j := 7) (v2 := 1) rfl (by decide) rfl dX0_finishRequest_11 (fun s2 e2 g2 => ?_)
  refine oz_aload_n X dX0_finishRequest_12 rfl 0 rfl ?_
  refine oz_getA X hin (j := 8) rfl lk35 dX0_finishRequest_13 ?_
  refine oz_iload_n X dX0_finishRequest_16 rfl 1 rfl ?_
  refine oz_aload_n X dX0_finishRequest_17 rfl 0 rfl ?_
  refine oz_getS X hin (j := 16) rfl lk60 dX0_finishRequest_18 ?_
  refine oz_iast X (j := 8) rfl (by decide) dX0_finishRequest_21 (fun s3 e3 g3 => ?_)
  refine oz_aload_n X dX0_finishRequest_22 rfl 0 rfl ?_
  refine oz_getA X hin (j := 5) rfl lk25 dX0_finishRequest_23 ?_
  refine oz_iload_n X dX0_finishRequest_26 rfl 1 rfl ?_
  refine oz_iald X (j := 5) rfl (by decide) dX0_finishRequest_27 (fun g4 => ?_)
  refine oz_istore_n X (L2 := [(2, .int (s3 6 a1.toNatClampNeg)), (0, .ref (ad 0)), (1, .int a1)]) dX0_finishRequest_28 rfl (by decide) rfl ?_
  refine oz_iload_n X dX0_finishRequest_29 rfl 0 rfl ?_
  refine oz_callS X rfl (As := [.int (s3 6 a1.toNatClampNeg)]) (S := []) (mX0_isProcess l hst D cI cZ ad (s3 6 a1.toNatClampNeg)) gX0_finishRequest_X0_isProcess rfl rfl rfl hX0_isProcess ⟨by decide, by decide⟩ rfl rfl (Nat.le_of_ble_eq_true rfl) dX0_finishRequest_30 (by omega) (by decide) (by decide) (fun r5 s5 => ?_)
  refine oz_if_eq X (tgt := 43) dX0_finishRequest_33 (by decide) (fun q6 => ?_) (fun q6 => ?_)
  · exact oz_vret X rfl hr (by omega) dX0_finishRequest_43
  · refine oz_aload_n X dX0_finishRequest_36 rfl 1 rfl ?_
    refine oz_getA X hin (j := 2) rfl lk16 dX0_finishRequest_37 ?_
    refine oz_iload_n X dX0_finishRequest_40 rfl 0 rfl ?_
    refine oz_iconst X (v := 0) dX0_finishRequest_41 (by decide) ?_
    refine oz_iast X (j := 2) rfl (by decide) dX0_finishRequest_42 (fun s7 e7 g7 => ?_)
    exact oz_vret X rfl hr (by omega) dX0_finishRequest_43

/-! AlmsKernel.moveDisk -/
def FX0_moveDisk_j75 (x1 : Int32) (st : ST) : Option Res := (if st 0 17 = x1 then bnd (FX0_finishRequest (st 0 18) st) (fun _ s3 => some (0, 0, s3)) else some (0, 0, st))
def FX0_moveDisk_j16 (st : ST) : Option Res := bnd (FX0_isFrame (st 0 18) st) (fun r5 s5 => (if r5 = 0 then some (0, 0, s5) else bnd (FX0_trackOf (s5 0 18) s5) (fun r7 s7 => (if r7 ≤ s7 0 17 then (if s7 0 17 ≤ r7 then (FX0_moveDisk_j75 r7 s7) else stp (oz_se s7 0 17 ((s7 0 17) - 1)) (fun s10 => (FX0_moveDisk_j75 r7 s10))) else stp (oz_se s7 0 17 ((s7 0 17) + 1)) (fun s11 => (FX0_moveDisk_j75 r7 s11))))))
def FX0_moveDisk (st : ST) : Option Res := (if st 0 18 = (-1) then bnd (FX0_nearestRequest st) (fun r13 s13 => stp (oz_se s13 0 18 r13) (fun s14 => (FX0_moveDisk_j16 s14))) else (FX0_moveDisk_j16 st))
def rmX0_moveDisk : Room := { frames := 3, cells := 0, slots := 0, locals := 67 }
theorem hX0_moveDisk : yX0_moveDisk.cls = RX0 ∧ yX0_moveDisk.cls ≠ "java/lang/invoke/MethodHandle" ∧ yX0_moveDisk.cls ≠ "java/lang/invoke/VarHandle" ∧ (parseMethodDescriptor yX0_moveDisk.desc).map (fun d => d.parameters.length) = some 0 := by decide +kernel
theorem lkX0_moveDisk_63 : Cond.fieldLink RX0 63 RX0 (TX0 17).2.1 (TX0 17).2.2.1 ∈ wsX0_moveDisk := by decide +kernel
theorem lkX0_moveDisk_66 : Cond.fieldLink RX0 66 RX0 (TX0 18).2.1 (TX0 18).2.2.1 ∈ wsX0_moveDisk := by decide +kernel
set_option maxHeartbeats 4000000 in
set_option maxRecDepth 100000 in
theorem mX0_moveDisk (l : Launch) (hst : l.stackTraces = false) (D : va_G) (cI cZ : ClassId) (ad : Nat → Nat) : oz_MV l yX0_moveDisk wsX0_moveDisk rmX0_moveDisk D cI cZ RX0 0 oz_KSX0 ad oz_lyX0 0 [.ref (ad 0)] (FX0_moveDisk) := by
  refine oz_ofV (bytes := cX0_moveDisk) (maxL := 2) (ret := none) (T := TX0) (N := 19) (by decide) rfl rfl oz_CX0 hst (Nat.le_of_ble_eq_true rfl) ?_
  intro p e s m below meth c st A res G hr X
  have hin : ∀ w ∈ u_ws RX0 TX0 19, w ∈ wsX0_moveDisk := fun w h => List.mem_cons_of_mem _ (List.mem_append_right _ h)
  have lk63 := lkX0_moveDisk_63
  have lk66 := lkX0_moveDisk_66
  have hc75 : ∀ (k : Nat), k ≤ 0 → ∀ (x1 : Int32) (st : ST), G k 75 [(0, .ref (ad 0)), (1, .int x1)] [] st (FX0_moveDisk_j75 x1 st) := by
    intro k hk x1 st
    unfold FX0_moveDisk_j75
    refine oz_aload_n X dX0_moveDisk_75 rfl 0 rfl ?_
    refine oz_getS X hin (j := 17) rfl lk63 dX0_moveDisk_76 ?_
    refine oz_iload_n X dX0_moveDisk_79 rfl 1 rfl ?_
    refine oz_icmp_ne X (tgt := 91) dX0_moveDisk_80 (by decide) (fun q2 => ?_) (fun q2 => ?_)
    · exact oz_vret X rfl hr (by omega) dX0_moveDisk_91
    · refine oz_aload_n X dX0_moveDisk_83 rfl 0 rfl ?_
      refine oz_aload_n X dX0_moveDisk_84 rfl 0 rfl ?_
      refine oz_getS X hin (j := 18) rfl lk66 dX0_moveDisk_85 ?_
      refine oz_callVv X rfl (As := [.int (st 0 18)]) (S := []) (mX0_finishRequest l hst D cI cZ ad (st 0 18)) gX0_moveDisk_X0_finishRequest rfl rfl rfl hX0_finishRequest ⟨by decide, by decide⟩ rfl rfl (Nat.le_of_ble_eq_true rfl) dX0_moveDisk_88 (by omega) (by decide) (by decide) (fun s3 => ?_)
      exact oz_vret X rfl hr (by omega) dX0_moveDisk_91
  have hc16 : ∀ (k : Nat), k ≤ 0 → ∀ (st : ST), G k 16 [(0, .ref (ad 0))] [] st (FX0_moveDisk_j16 st) := by
    intro k hk st
    unfold FX0_moveDisk_j16
    refine oz_aload_n X dX0_moveDisk_16 rfl 0 rfl ?_
    refine oz_getS X hin (j := 18) rfl lk66 dX0_moveDisk_17 ?_
    refine oz_callS X rfl (As := [.int (st 0 18)]) (S := []) (mX0_isFrame l hst D cI cZ ad (st 0 18)) gX0_moveDisk_X0_isFrame rfl rfl rfl hX0_isFrame ⟨by decide, by decide⟩ rfl rfl (Nat.le_of_ble_eq_true rfl) dX0_moveDisk_20 (by omega) (by decide) (by decide) (fun r5 s5 => ?_)
    refine oz_if_ne X (tgt := 27) dX0_moveDisk_23 (by decide) (fun q6 => ?_) (fun q6 => ?_)
    · refine oz_aload_n X dX0_moveDisk_27 rfl 0 rfl ?_
      refine oz_aload_n X dX0_moveDisk_28 rfl 0 rfl ?_
      refine oz_getS X hin (j := 18) rfl lk66 dX0_moveDisk_29 ?_
      refine oz_callV X rfl (As := [.int (s5 0 18)]) (S := []) (mX0_trackOf l hst D cI cZ ad (s5 0 18)) gX0_moveDisk_X0_trackOf rfl rfl rfl hX0_trackOf ⟨by decide, by decide⟩ rfl rfl (Nat.le_of_ble_eq_true rfl) dX0_moveDisk_32 (by omega) (by decide) (by decide) (fun r7 s7 => ?_)
      refine oz_istore_n X (L2 := [(1, .int r7), (0, .ref (ad 0))]) dX0_moveDisk_35 rfl (by decide) rfl ?_
      refine oz_aload_n X dX0_moveDisk_36 rfl 1 rfl ?_
      refine oz_getS X hin (j := 17) rfl lk63 dX0_moveDisk_37 ?_
      refine oz_iload_n X dX0_moveDisk_40 rfl 0 rfl ?_
      refine oz_icmp_ge X (tgt := 57) dX0_moveDisk_41 (by decide) (fun q8 => ?_) (fun q8 => ?_)
      · refine oz_aload_n X dX0_moveDisk_57 rfl 1 rfl ?_
        refine oz_getS X hin (j := 17) rfl lk63 dX0_moveDisk_58 ?_
        refine oz_iload_n X dX0_moveDisk_61 rfl 0 rfl ?_
        refine oz_icmp_le X (tgt := 75) dX0_moveDisk_62 (by decide) (fun q9 => ?_) (fun q9 => ?_)
        · exact oz_sub X [1, 0] (L2 := [(0, .ref (ad 0)), (1, .int r7)]) rfl (hc75 _ (by omega) r7 s7)
        · refine oz_aload_n X dX0_moveDisk_65 rfl 1 rfl ?_
          refine oz_dup X dX0_moveDisk_66 rfl ?_
          refine oz_getS X hin (j := 17) rfl lk63 dX0_moveDisk_67 ?_
          refine oz_iconst X (v := 1) dX0_moveDisk_70 (by decide) ?_
          refine oz_isub X dX0_moveDisk_71 ?_
          refine oz_putS X hin (j := 17) rfl lk63 dX0_moveDisk_72 (fun s10 e10 => ?_)
          exact oz_sub X [1, 0] (L2 := [(0, .ref (ad 0)), (1, .int r7)]) rfl (hc75 _ (by omega) r7 s10)
      · refine oz_aload_n X dX0_moveDisk_44 rfl 1 rfl ?_
        refine oz_dup X dX0_moveDisk_45 rfl ?_
        refine oz_getS X hin (j := 17) rfl lk63 dX0_moveDisk_46 ?_
        refine oz_iconst X (v := 1) dX0_moveDisk_49 (by decide) ?_
        refine oz_iadd X dX0_moveDisk_50 ?_
        refine oz_putS X hin (j := 17) rfl lk63 dX0_moveDisk_51 (fun s11 e11 => ?_)
        refine oz_goto X (tgt := 75) dX0_moveDisk_54 (by decide) ?_
        exact oz_sub X [1, 0] (L2 := [(0, .ref (ad 0)), (1, .int r7)]) rfl (hc75 _ (by omega) r7 s11)
    · exact oz_vret X rfl hr (by omega) dX0_moveDisk_26
  show G 0 0 [(0, .ref (ad 0))] [] st (FX0_moveDisk st)
  unfold FX0_moveDisk
  refine oz_aload_n X dX0_moveDisk_0 rfl 0 rfl ?_
  refine oz_getS X hin (j := 18) rfl lk66 dX0_moveDisk_1 ?_
  refine oz_iconst X (v := (-1)) dX0_moveDisk_4 (by decide) ?_
  refine oz_icmp_ne X (tgt := 16) dX0_moveDisk_5 (by decide) (fun q12 => ?_) (fun q12 => ?_)
  · exact oz_sub X [0] (L2 := [(0, .ref (ad 0))]) rfl (hc16 _ (by omega) st)
  · refine oz_aload_n X dX0_moveDisk_8 rfl 0 rfl ?_
    refine oz_aload_n X dX0_moveDisk_9 rfl 0 rfl ?_
    refine oz_callV X rfl (As := []) (S := [.ref (ad 0)]) (mX0_nearestRequest l hst D cI cZ ad) gX0_moveDisk_X0_nearestRequest rfl rfl rfl hX0_nearestRequest ⟨by decide, by decide⟩ rfl rfl (Nat.le_of_ble_eq_true rfl) dX0_moveDisk_10 (by omega) (by decide) (by decide) (fun r13 s13 => ?_)
    refine oz_putS X hin (j := 18) rfl lk66 dX0_moveDisk_13 (fun s14 e14 => ?_)
    exact oz_sub X [0] (L2 := [(0, .ref (ad 0))]) rfl (hc16 _ (by omega) s14)

/-! AlmsKernel.passTick -/
def FX0_passTick (st : ST) : Option Res := bnd (FX0_payWages st) (fun _ s1 => bnd (FX0_chargeLoans s1) (fun _ s2 => bnd (FX0_giveAlms s2) (fun _ s3 => bnd (FX0_moveDisk s3) (fun _ s4 => stp (oz_se s4 0 16 ((s4 0 16) + 1)) (fun s5 => some (0, 0, s5))))))
def rmX0_passTick : Room := { frames := 5, cells := 0, slots := 0, locals := 109 }
theorem hX0_passTick : yX0_passTick.cls = RX0 ∧ yX0_passTick.cls ≠ "java/lang/invoke/MethodHandle" ∧ yX0_passTick.cls ≠ "java/lang/invoke/VarHandle" ∧ (parseMethodDescriptor yX0_passTick.desc).map (fun d => d.parameters.length) = some 0 := by decide +kernel
theorem lkX0_passTick_60 : Cond.fieldLink RX0 60 RX0 (TX0 16).2.1 (TX0 16).2.2.1 ∈ wsX0_passTick := by decide +kernel
set_option maxHeartbeats 4000000 in
set_option maxRecDepth 100000 in
theorem mX0_passTick (l : Launch) (hst : l.stackTraces = false) (D : va_G) (cI cZ : ClassId) (ad : Nat → Nat) : oz_MV l yX0_passTick wsX0_passTick rmX0_passTick D cI cZ RX0 0 oz_KSX0 ad oz_lyX0 0 [.ref (ad 0)] (FX0_passTick) := by
  refine oz_ofV (bytes := cX0_passTick) (maxL := 1) (ret := none) (T := TX0) (N := 19) (by decide) rfl rfl oz_CX0 hst (Nat.le_of_ble_eq_true rfl) ?_
  intro p e s m below meth c st A res G hr X
  have hin : ∀ w ∈ u_ws RX0 TX0 19, w ∈ wsX0_passTick := fun w h => List.mem_cons_of_mem _ (List.mem_append_right _ h)
  have lk60 := lkX0_passTick_60
  show G 0 0 [(0, .ref (ad 0))] [] st (FX0_passTick st)
  unfold FX0_passTick
  refine oz_aload_n X dX0_passTick_0 rfl 0 rfl ?_
  refine oz_callVv X rfl (As := []) (S := []) (mX0_payWages l hst D cI cZ ad) gX0_passTick_X0_payWages rfl rfl rfl hX0_payWages ⟨by decide, by decide⟩ rfl rfl (Nat.le_of_ble_eq_true rfl) dX0_passTick_1 (by omega) (by decide) (by decide) (fun s1 => ?_)
  refine oz_aload_n X dX0_passTick_4 rfl 0 rfl ?_
  refine oz_callVv X rfl (As := []) (S := []) (mX0_chargeLoans l hst D cI cZ ad) gX0_passTick_X0_chargeLoans rfl rfl rfl hX0_chargeLoans ⟨by decide, by decide⟩ rfl rfl (Nat.le_of_ble_eq_true rfl) dX0_passTick_5 (by omega) (by decide) (by decide) (fun s2 => ?_)
  refine oz_aload_n X dX0_passTick_8 rfl 0 rfl ?_
  refine oz_callVv X rfl (As := []) (S := []) (mX0_giveAlms l hst D cI cZ ad) gX0_passTick_X0_giveAlms rfl rfl rfl hX0_giveAlms ⟨by decide, by decide⟩ rfl rfl (Nat.le_of_ble_eq_true rfl) dX0_passTick_9 (by omega) (by decide) (by decide) (fun s3 => ?_)
  refine oz_aload_n X dX0_passTick_12 rfl 0 rfl ?_
  refine oz_callVv X rfl (As := []) (S := []) (mX0_moveDisk l hst D cI cZ ad) gX0_passTick_X0_moveDisk rfl rfl rfl hX0_moveDisk ⟨by decide, by decide⟩ rfl rfl (Nat.le_of_ble_eq_true rfl) dX0_passTick_13 (by omega) (by decide) (by decide) (fun s4 => ?_)
  refine oz_aload_n X dX0_passTick_16 rfl 0 rfl ?_
  refine oz_dup X dX0_passTick_17 rfl ?_
  refine oz_getS X hin (j := 16) rfl lk60 dX0_passTick_18 ?_
  refine oz_iconst X (v := 1) dX0_passTick_21 (by decide) ?_
  refine oz_iadd X dX0_passTick_22 ?_
  refine oz_putS X hin (j := 16) rfl lk60 dX0_passTick_23 (fun s5 e5 => ?_)
  exact oz_vret X rfl hr (by omega) dX0_passTick_26

/-! AlmsKernel.advance -/
def FX0_advance_w45 : Nat → Int32 → Int32 → ST → Option Res
  | 0, _, _, _ => none
  | n + 1, x1, x2, st => (if x1 ≤ x2 then some (0, st 0 16, st) else bnd (FX0_passTick st) (fun _ s3 => (FX0_advance_w45 n x1 (x2 + 1) s3)))
def FX0_advance (a1 : Int32) (st : ST) : Option Res := (if a1 < 1 then some (3, 0, st) else (if a1 ≤ 200 then (if st 0 16 ≤ 50000 - a1 then (FX0_advance_w45 300 a1 0 st) else some (2, 0, st)) else some (3, 0, st)))
def rmX0_advance : Room := { frames := 6, cells := 1, slots := 6, locals := 129 }
theorem hX0_advance : yX0_advance.cls = RX0 ∧ yX0_advance.cls ≠ "java/lang/invoke/MethodHandle" ∧ yX0_advance.cls ≠ "java/lang/invoke/VarHandle" ∧ (parseMethodDescriptor yX0_advance.desc).map (fun d => d.parameters.length) = some 1 := by decide +kernel
theorem lkX0_advance_60 : Cond.fieldLink RX0 60 RX0 (TX0 16).2.1 (TX0 16).2.2.1 ∈ wsX0_advance := by decide +kernel
set_option maxHeartbeats 4000000 in
set_option maxRecDepth 100000 in
theorem mX0_advance (l : Launch) (hst : l.stackTraces = false) (D : va_G) (cI cZ : ClassId) (ad : Nat → Nat) (a1 : Int32) : oz_MI l yX0_advance wsX0_advance rmX0_advance D cI cZ RX0 0 oz_KSX0 ad oz_lyX0 1 [.ref (ad 0), .int a1] (FX0_advance a1) := by
  refine oz_ofI (bytes := cX0_advance) (maxL := 3) (ret := (some .int)) (T := TX0) (N := 19) (by decide) rfl rfl oz_CX0 hst (Nat.le_of_ble_eq_true rfl) ?_
  intro p e s m below meth c st A res G hr X
  have hin : ∀ w ∈ u_ws RX0 TX0 19, w ∈ wsX0_advance := fun w h => List.mem_cons_of_mem _ (List.mem_append_left _ (List.mem_append_left _ (List.mem_append_right _ h)))
  have lk60 := lkX0_advance_60
  have tk2 : Cond.classLink RX0 93 (oz_exn 2) ∈ wsX0_advance := by decide +kernel
  have ti2 : Cond.initialized (oz_exn 2) ∈ wsX0_advance := by decide +kernel
  have tg2 : ∀ w ∈ (vx_atS RX0 97 (oz_exn 2) oz_names).filter goodWord, w ∈ wsX0_advance := fun w h => List.mem_cons_of_mem _ (List.mem_append_right _ h)
  have tk3 : Cond.classLink RX0 86 (oz_exn 3) ∈ wsX0_advance := by decide +kernel
  have ti3 : Cond.initialized (oz_exn 3) ∈ wsX0_advance := by decide +kernel
  have tg3 : ∀ w ∈ (vx_atS RX0 90 (oz_exn 3) oz_names).filter goodWord, w ∈ wsX0_advance := fun w h => List.mem_cons_of_mem _ (List.mem_append_left _ (List.mem_append_right _ h))
  have hc45 : ∀ (n k : Nat), k ≤ 0 → ∀ (x1 x2 : Int32) (st : ST), G k 45 [(0, .ref (ad 0)), (1, .int x1), (2, .int x2)] [] st (FX0_advance_w45 n x1 x2 st) := by
    intro n
    induction n with
    | zero => intros; exact oz_none X
    | succ n ih =>
      intro k hk x1 x2 st
      rw [FX0_advance_w45]
      refine oz_iload_n X dX0_advance_45 rfl 2 rfl ?_
      refine oz_iload_n X dX0_advance_46 rfl 1 rfl ?_
      refine oz_icmp_ge X (tgt := 60) dX0_advance_47 (by decide) (fun q2 => ?_) (fun q2 => ?_)
      · refine oz_aload_n X dX0_advance_60 rfl 0 rfl ?_
        refine oz_getS X hin (j := 16) rfl lk60 dX0_advance_61 ?_
        exact oz_iret X rfl hr (by omega) dX0_advance_64
      · refine oz_aload_n X dX0_advance_50 rfl 0 rfl ?_
        refine oz_callVv X rfl (As := []) (S := []) (mX0_passTick l hst D cI cZ ad) gX0_advance_X0_passTick rfl rfl rfl hX0_passTick ⟨by decide, by decide⟩ rfl rfl (Nat.le_of_ble_eq_true rfl) dX0_advance_51 (by omega) (by decide) (by decide) (fun s3 => ?_)
        refine oz_iinc X (q := 2) (v := x2 + 1) (L2 := [(2, .int (x2 + 1)), (0, .ref (ad 0)), (1, .int x1)]) dX0_advance_54 rfl rfl (by decide) rfl ?_
        refine oz_goto X (tgt := 45) dX0_advance_57 (by decide) ?_
        exact oz_sub X [1, 2, 0] (L2 := [(0, .ref (ad 0)), (1, .int x1), (2, .int (x2 + 1))]) rfl (ih _ (by omega) x1 (x2 + 1) s3)
  show G 0 0 [(0, .ref (ad 0)), (1, .int a1)] [] st (FX0_advance a1 st)
  unfold FX0_advance
  refine oz_iload_n X dX0_advance_0 rfl 1 rfl ?_
  refine oz_iconst X (v := 1) dX0_advance_1 (by decide) ?_
  refine oz_icmp_lt X (tgt := 12) dX0_advance_2 (by decide) (fun q4 => ?_) (fun q4 => ?_)
  · exact oz_throw X rfl 3 (text := "ticks is out of range") (by decide) (oz_KSX0_148) (by decide +kernel) tk3 ti3 tg3 oz_tbX0_3 oz_twX0_3 dX0_advance_12 dX0_advance_15 dX0_advance_16 dX0_advance_18 dX0_advance_21 (by decide) (by decide) (by omega) (by decide) (by decide)
  · refine oz_iload_n X dX0_advance_5 rfl 1 rfl ?_
    refine oz_sipush X (v := 200) dX0_advance_6 (by decide) ?_
    refine oz_icmp_le X (tgt := 22) dX0_advance_9 (by decide) (fun q5 => ?_) (fun q5 => ?_)
    · refine oz_aload_n X dX0_advance_22 rfl 0 rfl ?_
      refine oz_getS X hin (j := 16) rfl lk60 dX0_advance_23 ?_
      refine oz_ldc X (v := 50000) (by decide +kernel) dX0_advance_26 ?_
      refine oz_iload_n X dX0_advance_28 rfl 1 rfl ?_
      refine oz_isub X dX0_advance_29 ?_
      refine oz_icmp_le X (tgt := 43) dX0_advance_30 (by decide) (fun q6 => ?_) (fun q6 => ?_)
      · refine oz_iconst X (v := 0) dX0_advance_43 (by decide) ?_
        refine oz_istore_n X (L2 := [(2, .int 0), (0, .ref (ad 0)), (1, .int a1)]) dX0_advance_44 rfl (by decide) rfl ?_
        exact oz_sub X [1, 2, 0] (L2 := [(0, .ref (ad 0)), (1, .int a1), (2, .int 0)]) rfl (hc45 300 _ (by omega) a1 0 st)
      · exact oz_throw X rfl 2 (text := "the tick would be above 50000") (by decide) (oz_KSX0_151) (by decide +kernel) tk2 ti2 tg2 oz_tbX0_2 oz_twX0_2 dX0_advance_33 dX0_advance_36 dX0_advance_37 dX0_advance_39 dX0_advance_42 (by decide) (by decide) (by omega) (by decide) (by decide)
    · exact oz_throw X rfl 3 (text := "ticks is out of range") (by decide) (oz_KSX0_148) (by decide +kernel) tk3 ti3 tg3 oz_tbX0_3 oz_twX0_3 dX0_advance_12 dX0_advance_15 dX0_advance_16 dX0_advance_18 dX0_advance_21 (by decide) (by decide) (by omega) (by decide) (by decide)

/-! AlmsKernel.tick -/
def FX0_tick (st : ST) : Option Res := some (0, st 0 16, st)
def rmX0_tick : Room := { frames := 0, cells := 0, slots := 0, locals := 0 }
theorem hX0_tick : yX0_tick.cls = RX0 ∧ yX0_tick.cls ≠ "java/lang/invoke/MethodHandle" ∧ yX0_tick.cls ≠ "java/lang/invoke/VarHandle" ∧ (parseMethodDescriptor yX0_tick.desc).map (fun d => d.parameters.length) = some 0 := by decide +kernel
theorem lkX0_tick_60 : Cond.fieldLink RX0 60 RX0 (TX0 16).2.1 (TX0 16).2.2.1 ∈ wsX0_tick := by decide +kernel
set_option maxHeartbeats 4000000 in
set_option maxRecDepth 100000 in
theorem mX0_tick (l : Launch) (hst : l.stackTraces = false) (D : va_G) (cI cZ : ClassId) (ad : Nat → Nat) : oz_MI l yX0_tick wsX0_tick rmX0_tick D cI cZ RX0 0 oz_KSX0 ad oz_lyX0 0 [.ref (ad 0)] (FX0_tick) := by
  refine oz_ofI (bytes := cX0_tick) (maxL := 1) (ret := (some .int)) (T := TX0) (N := 19) (by decide) rfl rfl oz_CX0 hst (Nat.le_of_ble_eq_true rfl) ?_
  intro p e s m below meth c st A res G hr X
  have hin : ∀ w ∈ u_ws RX0 TX0 19, w ∈ wsX0_tick := fun w h => List.mem_cons_of_mem _ (List.mem_append_right _ h)
  have lk60 := lkX0_tick_60
  show G 0 0 [(0, .ref (ad 0))] [] st (FX0_tick st)
  unfold FX0_tick
  refine oz_aload_n X dX0_tick_0 rfl 0 rfl ?_
  refine oz_getS X hin (j := 16) rfl lk60 dX0_tick_1 ?_
  exact oz_iret X rfl hr (by omega) dX0_tick_4

/-! AlmsKernel.owner -/
def FX0_owner (a1 : Int32) (st : ST) : Option Res := bnd (FX0_isFrame a1 st) (fun r1 s1 => (if r1 = 0 then some (1, 0, s1) else gd (oz_in a1 12) (some (0, s1 5 a1.toNatClampNeg, s1))))
def rmX0_owner : Room := { frames := 6, cells := 1, slots := 6, locals := 82 }
theorem hX0_owner : yX0_owner.cls = RX0 ∧ yX0_owner.cls ≠ "java/lang/invoke/MethodHandle" ∧ yX0_owner.cls ≠ "java/lang/invoke/VarHandle" ∧ (parseMethodDescriptor yX0_owner.desc).map (fun d => d.parameters.length) = some 1 := by decide +kernel
theorem lkX0_owner_22 : Cond.fieldLink RX0 22 RX0 (TX0 4).2.1 (TX0 4).2.2.1 ∈ wsX0_owner := by decide +kernel
set_option maxHeartbeats 4000000 in
set_option maxRecDepth 100000 in
theorem mX0_owner (l : Launch) (hst : l.stackTraces = false) (D : va_G) (cI cZ : ClassId) (ad : Nat → Nat) (a1 : Int32) : oz_MI l yX0_owner wsX0_owner rmX0_owner D cI cZ RX0 0 oz_KSX0 ad oz_lyX0 1 [.ref (ad 0), .int a1] (FX0_owner a1) := by
  refine oz_ofI (bytes := cX0_owner) (maxL := 2) (ret := (some .int)) (T := TX0) (N := 19) (by decide) rfl rfl oz_CX0 hst (Nat.le_of_ble_eq_true rfl) ?_
  intro p e s m below meth c st A res G hr X
  have hin : ∀ w ∈ u_ws RX0 TX0 19, w ∈ wsX0_owner := fun w h => List.mem_cons_of_mem _ (List.mem_append_left _ (List.mem_append_right _ h))
  have lk22 := lkX0_owner_22
  have tk1 : Cond.classLink RX0 79 (oz_exn 1) ∈ wsX0_owner := by decide +kernel
  have ti1 : Cond.initialized (oz_exn 1) ∈ wsX0_owner := by decide +kernel
  have tg1 : ∀ w ∈ (vx_atS RX0 83 (oz_exn 1) oz_names).filter goodWord, w ∈ wsX0_owner := fun w h => List.mem_cons_of_mem _ (List.mem_append_right _ h)
  show G 0 0 [(0, .ref (ad 0)), (1, .int a1)] [] st (FX0_owner a1 st)
  unfold FX0_owner
  refine oz_iload_n X dX0_owner_0 rfl 1 rfl ?_
  refine oz_callS X rfl (As := [.int a1]) (S := []) (mX0_isFrame l hst D cI cZ ad a1) gX0_owner_X0_isFrame rfl rfl rfl hX0_isFrame ⟨by decide, by decide⟩ rfl rfl (Nat.le_of_ble_eq_true rfl) dX0_owner_1 (by omega) (by decide) (by decide) (fun r1 s1 => ?_)
  refine oz_if_ne X (tgt := 17) dX0_owner_4 (by decide) (fun q2 => ?_) (fun q2 => ?_)
  · refine oz_aload_n X dX0_owner_17 rfl 0 rfl ?_
    refine oz_getA X hin (j := 4) rfl lk22 dX0_owner_18 ?_
    refine oz_iload_n X dX0_owner_21 rfl 1 rfl ?_
    refine oz_iald X (j := 4) rfl (by decide) dX0_owner_22 (fun g3 => ?_)
    exact oz_iret X rfl hr (by omega) dX0_owner_23
  · exact oz_throw X rfl 1 (text := "no such frame") (by decide) (oz_KSX0_107) (by decide +kernel) tk1 ti1 tg1 oz_tbX0_1 oz_twX0_1 dX0_owner_7 dX0_owner_10 dX0_owner_11 dX0_owner_13 dX0_owner_16 (by decide) (by decide) (by omega) (by decide) (by decide)

/-! AlmsKernel.holder -/
def FX0_holder (a1 : Int32) (st : ST) : Option Res := bnd (FX0_isFrame a1 st) (fun r1 s1 => (if r1 = 0 then some (1, 0, s1) else gd (oz_in a1 12) (some (0, s1 6 a1.toNatClampNeg, s1))))
def rmX0_holder : Room := { frames := 6, cells := 1, slots := 6, locals := 82 }
theorem hX0_holder : yX0_holder.cls = RX0 ∧ yX0_holder.cls ≠ "java/lang/invoke/MethodHandle" ∧ yX0_holder.cls ≠ "java/lang/invoke/VarHandle" ∧ (parseMethodDescriptor yX0_holder.desc).map (fun d => d.parameters.length) = some 1 := by decide +kernel
theorem lkX0_holder_25 : Cond.fieldLink RX0 25 RX0 (TX0 5).2.1 (TX0 5).2.2.1 ∈ wsX0_holder := by decide +kernel
set_option maxHeartbeats 4000000 in
set_option maxRecDepth 100000 in
theorem mX0_holder (l : Launch) (hst : l.stackTraces = false) (D : va_G) (cI cZ : ClassId) (ad : Nat → Nat) (a1 : Int32) : oz_MI l yX0_holder wsX0_holder rmX0_holder D cI cZ RX0 0 oz_KSX0 ad oz_lyX0 1 [.ref (ad 0), .int a1] (FX0_holder a1) := by
  refine oz_ofI (bytes := cX0_holder) (maxL := 2) (ret := (some .int)) (T := TX0) (N := 19) (by decide) rfl rfl oz_CX0 hst (Nat.le_of_ble_eq_true rfl) ?_
  intro p e s m below meth c st A res G hr X
  have hin : ∀ w ∈ u_ws RX0 TX0 19, w ∈ wsX0_holder := fun w h => List.mem_cons_of_mem _ (List.mem_append_left _ (List.mem_append_right _ h))
  have lk25 := lkX0_holder_25
  have tk1 : Cond.classLink RX0 79 (oz_exn 1) ∈ wsX0_holder := by decide +kernel
  have ti1 : Cond.initialized (oz_exn 1) ∈ wsX0_holder := by decide +kernel
  have tg1 : ∀ w ∈ (vx_atS RX0 83 (oz_exn 1) oz_names).filter goodWord, w ∈ wsX0_holder := fun w h => List.mem_cons_of_mem _ (List.mem_append_right _ h)
  show G 0 0 [(0, .ref (ad 0)), (1, .int a1)] [] st (FX0_holder a1 st)
  unfold FX0_holder
  refine oz_iload_n X dX0_holder_0 rfl 1 rfl ?_
  refine oz_callS X rfl (As := [.int a1]) (S := []) (mX0_isFrame l hst D cI cZ ad a1) gX0_holder_X0_isFrame rfl rfl rfl hX0_isFrame ⟨by decide, by decide⟩ rfl rfl (Nat.le_of_ble_eq_true rfl) dX0_holder_1 (by omega) (by decide) (by decide) (fun r1 s1 => ?_)
  refine oz_if_ne X (tgt := 17) dX0_holder_4 (by decide) (fun q2 => ?_) (fun q2 => ?_)
  · refine oz_aload_n X dX0_holder_17 rfl 0 rfl ?_
    refine oz_getA X hin (j := 5) rfl lk25 dX0_holder_18 ?_
    refine oz_iload_n X dX0_holder_21 rfl 1 rfl ?_
    refine oz_iald X (j := 5) rfl (by decide) dX0_holder_22 (fun g3 => ?_)
    exact oz_iret X rfl hr (by omega) dX0_holder_23
  · exact oz_throw X rfl 1 (text := "no such frame") (by decide) (oz_KSX0_107) (by decide +kernel) tk1 ti1 tg1 oz_tbX0_1 oz_twX0_1 dX0_holder_7 dX0_holder_10 dX0_holder_11 dX0_holder_13 dX0_holder_16 (by decide) (by decide) (by omega) (by decide) (by decide)

/-! AlmsKernel.holderByLog -/
def FX0_holderByLog_w19 : Nat → Int32 → Int32 → ST → Option Res
  | 0, _, _, _ => none
  | n + 1, x1, x2, st => (if 60 ≤ x2 then gd (oz_in x1 12) (some (0, st 5 x1.toNatClampNeg, st)) else (if st 0 14 ≤ x2 then gd (oz_in x1 12) (some (0, st 5 x1.toNatClampNeg, st)) else gd (oz_in x2 60) ((if st 13 x2.toNatClampNeg = 0 then (FX0_holderByLog_w19 n x1 (x2 + 1) st) else gd (oz_in x2 60) ((if st 10 x2.toNatClampNeg = x1 then gd (oz_in x2 60) (some (0, st 12 x2.toNatClampNeg, st)) else (FX0_holderByLog_w19 n x1 (x2 + 1) st)))))))
def FX0_holderByLog (a1 : Int32) (st : ST) : Option Res := bnd (FX0_isFrame a1 st) (fun r11 s11 => (if r11 = 0 then some (1, 0, s11) else (FX0_holderByLog_w19 300 a1 0 s11)))
def rmX0_holderByLog : Room := { frames := 6, cells := 1, slots := 6, locals := 82 }
theorem hX0_holderByLog : yX0_holderByLog.cls = RX0 ∧ yX0_holderByLog.cls ≠ "java/lang/invoke/MethodHandle" ∧ yX0_holderByLog.cls ≠ "java/lang/invoke/VarHandle" ∧ (parseMethodDescriptor yX0_holderByLog.desc).map (fun d => d.parameters.length) = some 1 := by decide +kernel
theorem lkX0_holderByLog_22 : Cond.fieldLink RX0 22 RX0 (TX0 4).2.1 (TX0 4).2.2.1 ∈ wsX0_holderByLog := by decide +kernel
theorem lkX0_holderByLog_38 : Cond.fieldLink RX0 38 RX0 (TX0 9).2.1 (TX0 9).2.2.1 ∈ wsX0_holderByLog := by decide +kernel
theorem lkX0_holderByLog_44 : Cond.fieldLink RX0 44 RX0 (TX0 11).2.1 (TX0 11).2.2.1 ∈ wsX0_holderByLog := by decide +kernel
theorem lkX0_holderByLog_47 : Cond.fieldLink RX0 47 RX0 (TX0 12).2.1 (TX0 12).2.2.1 ∈ wsX0_holderByLog := by decide +kernel
theorem lkX0_holderByLog_53 : Cond.fieldLink RX0 53 RX0 (TX0 14).2.1 (TX0 14).2.2.1 ∈ wsX0_holderByLog := by decide +kernel
set_option maxHeartbeats 4000000 in
set_option maxRecDepth 100000 in
theorem mX0_holderByLog (l : Launch) (hst : l.stackTraces = false) (D : va_G) (cI cZ : ClassId) (ad : Nat → Nat) (a1 : Int32) : oz_MI l yX0_holderByLog wsX0_holderByLog rmX0_holderByLog D cI cZ RX0 0 oz_KSX0 ad oz_lyX0 1 [.ref (ad 0), .int a1] (FX0_holderByLog a1) := by
  refine oz_ofI (bytes := cX0_holderByLog) (maxL := 3) (ret := (some .int)) (T := TX0) (N := 19) (by decide) rfl rfl oz_CX0 hst (Nat.le_of_ble_eq_true rfl) ?_
  intro p e s m below meth c st A res G hr X
  have hin : ∀ w ∈ u_ws RX0 TX0 19, w ∈ wsX0_holderByLog := fun w h => List.mem_cons_of_mem _ (List.mem_append_left _ (List.mem_append_right _ h))
  have lk22 := lkX0_holderByLog_22
  have lk38 := lkX0_holderByLog_38
  have lk44 := lkX0_holderByLog_44
  have lk47 := lkX0_holderByLog_47
  have lk53 := lkX0_holderByLog_53
  have tk1 : Cond.classLink RX0 79 (oz_exn 1) ∈ wsX0_holderByLog := by decide +kernel
  have ti1 : Cond.initialized (oz_exn 1) ∈ wsX0_holderByLog := by decide +kernel
  have tg1 : ∀ w ∈ (vx_atS RX0 83 (oz_exn 1) oz_names).filter goodWord, w ∈ wsX0_holderByLog := fun w h => List.mem_cons_of_mem _ (List.mem_append_right _ h)
  have hc19 : ∀ (n k : Nat), k ≤ 0 → ∀ (x1 x2 : Int32) (st : ST), G k 19 [(0, .ref (ad 0)), (1, .int x1), (2, .int x2)] [] st (FX0_holderByLog_w19 n x1 x2 st) := by
    intro n
    induction n with
    | zero => intros; exact oz_none X
    | succ n ih =>
      intro k hk x1 x2 st
      rw [FX0_holderByLog_w19]
      refine oz_iload_n X dX0_holderByLog_19 rfl 2 rfl ?_
      refine oz_bipush X (v := 60) dX0_holderByLog_20 (by decide) ?_
      refine oz_icmp_ge X (tgt := 65) dX0_holderByLog_22 (by decide) (fun q2 => ?_) (fun q2 => ?_)
      · refine oz_aload_n X dX0_holderByLog_65 rfl 0 rfl ?_
        refine oz_getA X hin (j := 4) rfl lk22 dX0_holderByLog_66 ?_
        refine oz_iload_n X dX0_holderByLog_69 rfl 1 rfl ?_
        refine oz_iald X (j := 4) rfl (by decide) dX0_holderByLog_70 (fun g3 => ?_)
        exact oz_iret X rfl hr (by omega) dX0_holderByLog_71
      · refine oz_iload_n X dX0_holderByLog_25 rfl 2 rfl ?_
        refine oz_aload_n X dX0_holderByLog_26 rfl 0 rfl ?_
        refine oz_getS X hin (j := 14) rfl lk53 dX0_holderByLog_27 ?_
        refine oz_icmp_ge X (tgt := 65) dX0_holderByLog_30 (by decide) (fun q4 => ?_) (fun q4 => ?_)
        · refine oz_aload_n X dX0_holderByLog_65 rfl 0 rfl ?_
          refine oz_getA X hin (j := 4) rfl lk22 dX0_holderByLog_66 ?_
          refine oz_iload_n X dX0_holderByLog_69 rfl 1 rfl ?_
          refine oz_iald X (j := 4) rfl (by decide) dX0_holderByLog_70 (fun g5 => ?_)
          exact oz_iret X rfl hr (by omega) dX0_holderByLog_71
        · refine oz_aload_n X dX0_holderByLog_33 rfl 0 rfl ?_
          refine oz_getA X hin (j := 12) rfl lk47 dX0_holderByLog_34 ?_
          refine oz_iload_n X dX0_holderByLog_37 rfl 2 rfl ?_
          refine oz_zald X (j := 12) rfl (by decide) dX0_holderByLog_38 (fun g6 => ?_)
          refine oz_if_eq X (tgt := 59) dX0_holderByLog_39 (by decide) (fun q7 => ?_) (fun q7 => ?_)
          · refine oz_iinc X (q := 2) (v := x2 + 1) (L2 := [(2, .int (x2 + 1)), (0, .ref (ad 0)), (1, .int x1)]) dX0_holderByLog_59 rfl rfl (by decide) rfl ?_
            refine oz_goto X (tgt := 19) dX0_holderByLog_62 (by decide) ?_
            exact oz_sub X [1, 2, 0] (L2 := [(0, .ref (ad 0)), (1, .int x1), (2, .int (x2 + 1))]) rfl (ih _ (by omega) x1 (x2 + 1) st)
          · refine oz_aload_n X dX0_holderByLog_42 rfl 0 rfl ?_
            refine oz_getA X hin (j := 9) rfl lk38 dX0_holderByLog_43 ?_
            refine oz_iload_n X dX0_holderByLog_46 rfl 2 rfl ?_
            refine oz_iald X (j := 9) rfl (by decide) dX0_holderByLog_47 (fun g8 => ?_)
            refine oz_iload_n X dX0_holderByLog_48 rfl 1 rfl ?_
            refine oz_icmp_ne X (tgt := 59) dX0_holderByLog_49 (by decide) (fun q9 => ?_) (fun q9 => ?_)
            · refine oz_iinc X (q := 2) (v := x2 + 1) (L2 := [(2, .int (x2 + 1)), (0, .ref (ad 0)), (1, .int x1)]) dX0_holderByLog_59 rfl rfl (by decide) rfl ?_
              refine oz_goto X (tgt := 19) dX0_holderByLog_62 (by decide) ?_
              exact oz_sub X [1, 2, 0] (L2 := [(0, .ref (ad 0)), (1, .int x1), (2, .int (x2 + 1))]) rfl (ih _ (by omega) x1 (x2 + 1) st)
            · refine oz_aload_n X dX0_holderByLog_52 rfl 0 rfl ?_
              refine oz_getA X hin (j := 11) rfl lk44 dX0_holderByLog_53 ?_
              refine oz_iload_n X dX0_holderByLog_56 rfl 2 rfl ?_
              refine oz_iald X (j := 11) rfl (by decide) dX0_holderByLog_57 (fun g10 => ?_)
              exact oz_iret X rfl hr (by omega) dX0_holderByLog_58
  show G 0 0 [(0, .ref (ad 0)), (1, .int a1)] [] st (FX0_holderByLog a1 st)
  unfold FX0_holderByLog
  refine oz_iload_n X dX0_holderByLog_0 rfl 1 rfl ?_
  refine oz_callS X rfl (As := [.int a1]) (S := []) (mX0_isFrame l hst D cI cZ ad a1) gX0_holderByLog_X0_isFrame rfl rfl rfl hX0_isFrame ⟨by decide, by decide⟩ rfl rfl (Nat.le_of_ble_eq_true rfl) dX0_holderByLog_1 (by omega) (by decide) (by decide) (fun r11 s11 => ?_)
  refine oz_if_ne X (tgt := 17) dX0_holderByLog_4 (by decide) (fun q12 => ?_) (fun q12 => ?_)
  · refine oz_iconst X (v := 0) dX0_holderByLog_17 (by decide) ?_
    refine oz_istore_n X (L2 := [(2, .int 0), (0, .ref (ad 0)), (1, .int a1)]) dX0_holderByLog_18 rfl (by decide) rfl ?_
    exact oz_sub X [1, 2, 0] (L2 := [(0, .ref (ad 0)), (1, .int a1), (2, .int 0)]) rfl (hc19 300 _ (by omega) a1 0 s11)
  · exact oz_throw X rfl 1 (text := "no such frame") (by decide) (oz_KSX0_107) (by decide +kernel) tk1 ti1 tg1 oz_tbX0_1 oz_twX0_1 dX0_holderByLog_7 dX0_holderByLog_10 dX0_holderByLog_11 dX0_holderByLog_13 dX0_holderByLog_16 (by decide) (by decide) (by omega) (by decide) (by decide)

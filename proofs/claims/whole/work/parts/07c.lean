/-! AlmsKernelModel.touch -/
def FX1_touch_j84 (x1 x2 x3 y0 : Int32) (st : ST) : Option Res := bnd (FX1_goes y0 st) (fun r2 s2 => (if r2 = 0 then some (0, 0, s2) else gd (oz_in x3 12) (stp (oz_se s2 4 x3.toNatClampNeg x2) (fun s4 => gd (oz_in x3 12) (stp (oz_se s4 5 x3.toNatClampNeg 0) (fun s5 => gd (oz_in x1 5) (stp (oz_se s5 10 x1.toNatClampNeg 1) (fun s6 => gd (oz_in x1 5) (gd (oz_in x1 5) (stp (oz_se s6 11 x1.toNatClampNeg ((s6 11 x1.toNatClampNeg) + 1)) (fun s8 => some (0, x3, s8))))))))))))
def FX1_touch_j36 (x1 x2 y0 : Int32) (st : ST) : Option Res := bnd (FX1_goes y0 st) (fun r10 s10 => (if r10 = 0 then some (0, 0, s10) else bnd (FX1_frameWith x1 x2 s10) (fun r12 s12 => (if r12 = (-1) then bnd (FX1_frameFor x1 s12) (fun r14 s14 => (if 0 ≤ r14 then (FX1_touch_j84 x1 x2 r14 0 s14) else (FX1_touch_j84 x1 x2 r14 2 s14))) else gd (oz_in r12 12) (stp (oz_se s12 6 r12.toNatClampNeg (s12 0 0)) (fun s16 => some (0, (-1), s16)))))))
def FX1_touch (a1 a2 : Int32) (st : ST) : Option Res := bnd (FX1_isProcess a1 st) (fun r17 s17 => (if r17 = 0 then (FX1_touch_j36 a1 a2 1 s17) else bnd (FX1_isIn a2 0 7 s17) (fun r19 s19 => (if r19 = 0 then (FX1_touch_j36 a1 a2 1 s19) else gd (oz_in a1 5) ((if s19 10 a1.toNatClampNeg = 0 then (FX1_touch_j36 a1 a2 0 s19) else (FX1_touch_j36 a1 a2 2 s19)))))))
def rmX1_touch : Room := { frames := 6, cells := 0, slots := 0, locals := 136 }
theorem hX1_touch : yX1_touch.cls = RX1 ∧ yX1_touch.cls ≠ "java/lang/invoke/MethodHandle" ∧ yX1_touch.cls ≠ "java/lang/invoke/VarHandle" ∧ (parseMethodDescriptor yX1_touch.desc).map (fun d => d.parameters.length) = some 2 := by decide +kernel
theorem lkX1_touch_17 : Cond.fieldLink RX1 17 RX1 (TX1 3).2.1 (TX1 3).2.2.1 ∈ wsX1_touch := by decide +kernel
theorem lkX1_touch_20 : Cond.fieldLink RX1 20 RX1 (TX1 4).2.1 (TX1 4).2.2.1 ∈ wsX1_touch := by decide +kernel
theorem lkX1_touch_24 : Cond.fieldLink RX1 24 RX1 (TX1 5).2.1 (TX1 5).2.2.1 ∈ wsX1_touch := by decide +kernel
theorem lkX1_touch_36 : Cond.fieldLink RX1 36 RX1 (TX1 9).2.1 (TX1 9).2.2.1 ∈ wsX1_touch := by decide +kernel
theorem lkX1_touch_39 : Cond.fieldLink RX1 39 RX1 (TX1 10).2.1 (TX1 10).2.2.1 ∈ wsX1_touch := by decide +kernel
theorem lkX1_touch_71 : Cond.fieldLink RX1 71 RX1 (TX1 0).2.1 (TX1 0).2.2.1 ∈ wsX1_touch := by decide +kernel
set_option maxHeartbeats 4000000 in
set_option maxRecDepth 100000 in
theorem mX1_touch (l : Launch) (hst : l.stackTraces = false) (D : va_G) (cI cZ : ClassId) (ad : Nat → Nat) (a1 a2 : Int32) : oz_MI l yX1_touch wsX1_touch rmX1_touch D cI cZ RX1 1 oz_KSX1 ad oz_lyX1 0 [.ref (ad 0), .int a1, .int a2] (FX1_touch a1 a2) := by
  refine oz_ofI (bytes := cX1_touch) (maxL := 4) (ret := (some .int)) (T := TX1) (N := 19) (by decide) rfl rfl oz_CX1 hst (Nat.le_of_ble_eq_true rfl) ?_
  intro p e s m below meth c st A res G hr X
  have hin : ∀ w ∈ u_ws RX1 TX1 19, w ∈ wsX1_touch := fun w h => List.mem_cons_of_mem _ (List.mem_append_right _ h)
  have lk17 := lkX1_touch_17
  have lk20 := lkX1_touch_20
  have lk24 := lkX1_touch_24
  have lk36 := lkX1_touch_36
  have lk39 := lkX1_touch_39
  have lk71 := lkX1_touch_71
  have hc84 : ∀ (k : Nat), k ≤ 0 → ∀ (x1 x2 x3 y0 : Int32) (st : ST), G k 84 [(0, .ref (ad 0)), (1, .int x1), (2, .int x2), (3, .int x3)] [.int y0, .ref (ad 0)] st (FX1_touch_j84 x1 x2 x3 y0 st) := by
    intro k hk x1 x2 x3 y0 st
    unfold FX1_touch_j84
    refine oz_callV X rfl (As := [.int y0]) (S := []) (mX1_goes l hst D cI cZ ad y0) gX1_touch_X1_goes rfl rfl rfl hX1_goes ⟨by decide, by decide⟩ rfl rfl (Nat.le_of_ble_eq_true rfl) dX1_touch_84 (by omega) (by decide) (by decide) (fun r2 s2 => ?_)
    refine oz_if_ne X (tgt := 92) dX1_touch_87 (by decide) (fun q3 => ?_) (fun q3 => ?_)
    · refine oz_aload_n X dX1_touch_92 rfl 0 rfl ?_
      refine oz_getA X hin (j := 3) rfl lk17 dX1_touch_93 ?_
      refine oz_iload_n X dX1_touch_96 rfl 3 rfl ?_
      refine oz_iload_n X dX1_touch_97 rfl 2 rfl ?_
      refine oz_iast X (j := 3) rfl (by decide) dX1_touch_98 (fun s4 e4 g4 => ?_)
      refine oz_aload_n X dX1_touch_99 rfl 0 rfl ?_
      refine oz_getA X hin (j := 4) rfl lk20 dX1_touch_100 ?_
      refine oz_iload_n X dX1_touch_103 rfl 3 rfl ?_
      refine oz_iconst X (v := 0) dX1_touch_104 (by decide) ?_
      refine oz_zast X (j := 4) (v2 := 0) rfl (by decide) rfl dX1_touch_105 (fun s5 e5 g5 => ?_)
      refine oz_aload_n X dX1_touch_106 rfl 0 rfl ?_
      refine oz_getA X hin (j := 9) rfl lk36 dX1_touch_107 ?_
      refine oz_iload_n X dX1_touch_110 rfl 1 rfl ?_
      refine oz_iconst X (v := 1) dX1_touch_111 (by decide) ?_
      refine oz_iast X (j := 9) rfl (by decide) dX1_touch_112 (fun s6 e6 g6 => ?_)
      refine oz_aload_n X dX1_touch_113 rfl 0 rfl ?_
      refine oz_getA X hin (j := 10) rfl lk39 dX1_touch_114 ?_
      refine oz_iload_n X dX1_touch_117 rfl 1 rfl ?_
      refine oz_dup2 X dX1_touch_118 rfl rfl ?_
      refine oz_iald X (j := 10) rfl (by decide) dX1_touch_119 (fun g7 => ?_)
      refine oz_iconst X (v := 1) dX1_touch_120 (by decide) ?_
      refine oz_iadd X dX1_touch_121 ?_
      refine oz_iast X (j := 10) rfl (by decide) dX1_touch_122 (fun s8 e8 g8 => ?_)
      refine oz_iload_n X dX1_touch_123 rfl 3 rfl ?_
      exact oz_iret X rfl hr (by omega) dX1_touch_124
    · refine oz_iconst X (v := 0) dX1_touch_90 (by decide) ?_
      exact oz_iret X rfl hr (by omega) dX1_touch_91
  have hc36 : ∀ (k : Nat), k ≤ 0 → ∀ (x1 x2 y0 : Int32) (st : ST), G k 36 [(0, .ref (ad 0)), (1, .int x1), (2, .int x2)] [.int y0, .ref (ad 0)] st (FX1_touch_j36 x1 x2 y0 st) := by
    intro k hk x1 x2 y0 st
    unfold FX1_touch_j36
    refine oz_callV X rfl (As := [.int y0]) (S := []) (mX1_goes l hst D cI cZ ad y0) gX1_touch_X1_goes rfl rfl rfl hX1_goes ⟨by decide, by decide⟩ rfl rfl (Nat.le_of_ble_eq_true rfl) dX1_touch_36 (by omega) (by decide) (by decide) (fun r10 s10 => ?_)
    refine oz_if_ne X (tgt := 44) dX1_touch_39 (by decide) (fun q11 => ?_) (fun q11 => ?_)
    · refine oz_aload_n X dX1_touch_44 rfl 0 rfl ?_
      refine oz_iload_n X dX1_touch_45 rfl 1 rfl ?_
      refine oz_iload_n X dX1_touch_46 rfl 2 rfl ?_
      refine oz_callV X rfl (As := [.int x1, .int x2]) (S := []) (mX1_frameWith l hst D cI cZ ad x1 x2) gX1_touch_X1_frameWith rfl rfl rfl hX1_frameWith ⟨by decide, by decide⟩ rfl rfl (Nat.le_of_ble_eq_true rfl) dX1_touch_47 (by omega) (by decide) (by decide) (fun r12 s12 => ?_)
      refine oz_istore_n X (L2 := [(3, .int r12), (0, .ref (ad 0)), (1, .int x1), (2, .int x2)]) dX1_touch_50 rfl (by decide) rfl ?_
      refine oz_iload_n X dX1_touch_51 rfl 0 rfl ?_
      refine oz_iconst X (v := (-1)) dX1_touch_52 (by decide) ?_
      refine oz_icmp_eq X (tgt := 68) dX1_touch_53 (by decide) (fun q13 => ?_) (fun q13 => ?_)
      · refine oz_aload_n X dX1_touch_68 rfl 1 rfl ?_
        refine oz_iload_n X dX1_touch_69 rfl 2 rfl ?_
        refine oz_callV X rfl (As := [.int x1]) (S := []) (mX1_frameFor l hst D cI cZ ad x1) gX1_touch_X1_frameFor rfl rfl rfl hX1_frameFor ⟨by decide, by decide⟩ rfl rfl (Nat.le_of_ble_eq_true rfl) dX1_touch_70 (by omega) (by decide) (by decide) (fun r14 s14 => ?_)
        refine oz_istore_n X (L2 := [(3, .int r14), (0, .ref (ad 0)), (1, .int x1), (2, .int x2)]) dX1_touch_73 rfl (by decide) rfl ?_
        refine oz_aload_n X dX1_touch_74 rfl 1 rfl ?_
        refine oz_iload_n X dX1_touch_75 rfl 0 rfl ?_
        refine oz_if_ge X (tgt := 83) dX1_touch_76 (by decide) (fun q15 => ?_) (fun q15 => ?_)
        · refine oz_iconst X (v := 0) dX1_touch_83 (by decide) ?_
          exact oz_sub X [1, 2, 3, 0] (L2 := [(0, .ref (ad 0)), (1, .int x1), (2, .int x2), (3, .int r14)]) rfl (hc84 _ (by omega) x1 x2 r14 0 s14)
        · refine oz_iconst X (v := 2) dX1_touch_79 (by decide) ?_
          refine oz_goto X (tgt := 84) dX1_touch_80 (by decide) ?_
          exact oz_sub X [1, 2, 3, 0] (L2 := [(0, .ref (ad 0)), (1, .int x1), (2, .int x2), (3, .int r14)]) rfl (hc84 _ (by omega) x1 x2 r14 2 s14)
      · refine oz_aload_n X dX1_touch_56 rfl 1 rfl ?_
        refine oz_getA X hin (j := 5) rfl lk24 dX1_touch_57 ?_
        refine oz_iload_n X dX1_touch_60 rfl 0 rfl ?_
        refine oz_aload_n X dX1_touch_61 rfl 1 rfl ?_
        refine oz_getS X hin (j := 0) rfl lk71 dX1_touch_62 ?_
        refine oz_iast X (j := 5) rfl (by decide) dX1_touch_65 (fun s16 e16 g16 => ?_)
        refine oz_iconst X (v := (-1)) dX1_touch_66 (by decide) ?_
        exact oz_iret X rfl hr (by omega) dX1_touch_67
    · refine oz_iconst X (v := 0) dX1_touch_42 (by decide) ?_
      exact oz_iret X rfl hr (by omega) dX1_touch_43
  show G 0 0 [(0, .ref (ad 0)), (1, .int a1), (2, .int a2)] [] st (FX1_touch a1 a2 st)
  unfold FX1_touch
  refine oz_aload_n X dX1_touch_0 rfl 0 rfl ?_
  refine oz_iload_n X dX1_touch_1 rfl 1 rfl ?_
  refine oz_callS X rfl (As := [.int a1]) (S := [.ref (ad 0)]) (mX1_isProcess l hst D cI cZ ad a1) gX1_touch_X1_isProcess rfl rfl rfl hX1_isProcess ⟨by decide, by decide⟩ rfl rfl (Nat.le_of_ble_eq_true rfl) dX1_touch_2 (by omega) (by decide) (by decide) (fun r17 s17 => ?_)
  refine oz_if_eq X (tgt := 18) dX1_touch_5 (by decide) (fun q18 => ?_) (fun q18 => ?_)
  · refine oz_iconst X (v := 1) dX1_touch_18 (by decide) ?_
    refine oz_goto X (tgt := 36) dX1_touch_19 (by decide) ?_
    exact oz_sub X [0, 1, 2] (L2 := [(0, .ref (ad 0)), (1, .int a1), (2, .int a2)]) rfl (hc36 _ (by omega) a1 a2 1 s17)
  · refine oz_iload_n X dX1_touch_8 rfl 2 rfl ?_
    refine oz_iconst X (v := 0) dX1_touch_9 (by decide) ?_
    refine oz_bipush X (v := 7) dX1_touch_10 (by decide) ?_
    refine oz_callS X rfl (As := [.int a2, .int 0, .int 7]) (S := [.ref (ad 0)]) (mX1_isIn l hst D cI cZ ad a2 0 7) gX1_touch_X1_isIn rfl rfl rfl hX1_isIn ⟨by decide, by decide⟩ rfl rfl (Nat.le_of_ble_eq_true rfl) dX1_touch_12 (by omega) (by decide) (by decide) (fun r19 s19 => ?_)
    refine oz_if_ne X (tgt := 22) dX1_touch_15 (by decide) (fun q20 => ?_) (fun q20 => ?_)
    · refine oz_aload_n X dX1_touch_22 rfl 0 rfl ?_
      refine oz_getA X hin (j := 9) rfl lk36 dX1_touch_23 ?_
      refine oz_iload_n X dX1_touch_26 rfl 1 rfl ?_
      refine oz_iald X (j := 9) rfl (by decide) dX1_touch_27 (fun g21 => ?_)
      refine oz_if_ne X (tgt := 35) dX1_touch_28 (by decide) (fun q22 => ?_) (fun q22 => ?_)
      · refine oz_iconst X (v := 2) dX1_touch_35 (by decide) ?_
        exact oz_sub X [0, 1, 2] (L2 := [(0, .ref (ad 0)), (1, .int a1), (2, .int a2)]) rfl (hc36 _ (by omega) a1 a2 2 s19)
      · refine oz_iconst X (v := 0) dX1_touch_31 (by decide) ?_
        refine oz_goto X (tgt := 36) dX1_touch_32 (by decide) ?_
        exact oz_sub X [0, 1, 2] (L2 := [(0, .ref (ad 0)), (1, .int a1), (2, .int a2)]) rfl (hc36 _ (by omega) a1 a2 0 s19)
    · refine oz_iconst X (v := 1) dX1_touch_18 (by decide) ?_
      refine oz_goto X (tgt := 36) dX1_touch_19 (by decide) ?_
      exact oz_sub X [0, 1, 2] (L2 := [(0, .ref (ad 0)), (1, .int a1), (2, .int a2)]) rfl (hc36 _ (by omega) a1 a2 1 s19)

/-! AlmsKernelModel.payBack -/
def FX1_payBack_j47 (x1 y0 : Int32) (st : ST) : Option Res := bnd (FX1_goes y0 st) (fun r2 s2 => (if r2 = 0 then some (0, 0, s2) else bnd (FX1_ends x1 s2) (fun _ s4 => gd (oz_in x1 60) (some (0, s4 14 x1.toNatClampNeg, s4)))))
def FX1_payBack_j14 (x1 y0 : Int32) (st : ST) : Option Res := bnd (FX1_goes y0 st) (fun r7 s7 => (if r7 = 0 then some (0, 0, s7) else bnd (FX1_doesLast x1 s7) (fun r9 s9 => (if r9 = 0 then (FX1_payBack_j47 x1 2 s9) else gd (oz_in x1 60) (bnd (FX1_isComing (s9 13 x1.toNatClampNeg) s9) (fun r12 s12 => (if r12 = 0 then (FX1_payBack_j47 x1 0 s12) else (FX1_payBack_j47 x1 2 s12))))))))
def FX1_payBack (a1 : Int32) (st : ST) : Option Res := bnd (FX1_isLoan a1 st) (fun r14 s14 => (if r14 = 0 then (FX1_payBack_j14 a1 1 s14) else (FX1_payBack_j14 a1 0 s14)))
def rmX1_payBack : Room := { frames := 2, cells := 0, slots := 0, locals := 43 }
theorem hX1_payBack : yX1_payBack.cls = RX1 ∧ yX1_payBack.cls ≠ "java/lang/invoke/MethodHandle" ∧ yX1_payBack.cls ≠ "java/lang/invoke/VarHandle" ∧ (parseMethodDescriptor yX1_payBack.desc).map (fun d => d.parameters.length) = some 1 := by decide +kernel
theorem lkX1_payBack_42 : Cond.fieldLink RX1 42 RX1 (TX1 12).2.1 (TX1 12).2.2.1 ∈ wsX1_payBack := by decide +kernel
theorem lkX1_payBack_45 : Cond.fieldLink RX1 45 RX1 (TX1 13).2.1 (TX1 13).2.2.1 ∈ wsX1_payBack := by decide +kernel
set_option maxHeartbeats 4000000 in
set_option maxRecDepth 100000 in
theorem mX1_payBack (l : Launch) (hst : l.stackTraces = false) (D : va_G) (cI cZ : ClassId) (ad : Nat → Nat) (a1 : Int32) : oz_MI l yX1_payBack wsX1_payBack rmX1_payBack D cI cZ RX1 1 oz_KSX1 ad oz_lyX1 0 [.ref (ad 0), .int a1] (FX1_payBack a1) := by
  refine oz_ofI (bytes := cX1_payBack) (maxL := 2) (ret := (some .int)) (T := TX1) (N := 19) (by decide) rfl rfl oz_CX1 hst (Nat.le_of_ble_eq_true rfl) ?_
  intro p e s m below meth c st A res G hr X
  have hin : ∀ w ∈ u_ws RX1 TX1 19, w ∈ wsX1_payBack := fun w h => List.mem_cons_of_mem _ (List.mem_append_right _ h)
  have lk42 := lkX1_payBack_42
  have lk45 := lkX1_payBack_45
  have hc47 : ∀ (k : Nat), k ≤ 0 → ∀ (x1 y0 : Int32) (st : ST), G k 47 [(0, .ref (ad 0)), (1, .int x1)] [.int y0, .ref (ad 0)] st (FX1_payBack_j47 x1 y0 st) := by
    intro k hk x1 y0 st
    unfold FX1_payBack_j47
    refine oz_callV X rfl (As := [.int y0]) (S := []) (mX1_goes l hst D cI cZ ad y0) gX1_payBack_X1_goes rfl rfl rfl hX1_goes ⟨by decide, by decide⟩ rfl rfl (Nat.le_of_ble_eq_true rfl) dX1_payBack_47 (by omega) (by decide) (by decide) (fun r2 s2 => ?_)
    refine oz_if_ne X (tgt := 55) dX1_payBack_50 (by decide) (fun q3 => ?_) (fun q3 => ?_)
    · refine oz_aload_n X dX1_payBack_55 rfl 0 rfl ?_
      refine oz_iload_n X dX1_payBack_56 rfl 1 rfl ?_
      refine oz_callVv X rfl (As := [.int x1]) (S := []) (mX1_ends l hst D cI cZ ad x1) gX1_payBack_X1_ends rfl rfl rfl hX1_ends ⟨by decide, by decide⟩ rfl rfl (Nat.le_of_ble_eq_true rfl) dX1_payBack_57 (by omega) (by decide) (by decide) (fun s4 => ?_)
      refine oz_aload_n X dX1_payBack_60 rfl 0 rfl ?_
      refine oz_getA X hin (j := 13) rfl lk45 dX1_payBack_61 ?_
      refine oz_iload_n X dX1_payBack_64 rfl 1 rfl ?_
      refine oz_iald X (j := 13) rfl (by decide) dX1_payBack_65 (fun g5 => ?_)
      exact oz_iret X rfl hr (by omega) dX1_payBack_66
    · refine oz_iconst X (v := 0) dX1_payBack_53 (by decide) ?_
      exact oz_iret X rfl hr (by omega) dX1_payBack_54
  have hc14 : ∀ (k : Nat), k ≤ 0 → ∀ (x1 y0 : Int32) (st : ST), G k 14 [(0, .ref (ad 0)), (1, .int x1)] [.int y0, .ref (ad 0)] st (FX1_payBack_j14 x1 y0 st) := by
    intro k hk x1 y0 st
    unfold FX1_payBack_j14
    refine oz_callV X rfl (As := [.int y0]) (S := []) (mX1_goes l hst D cI cZ ad y0) gX1_payBack_X1_goes rfl rfl rfl hX1_goes ⟨by decide, by decide⟩ rfl rfl (Nat.le_of_ble_eq_true rfl) dX1_payBack_14 (by omega) (by decide) (by decide) (fun r7 s7 => ?_)
    refine oz_if_eq X (tgt := 53) dX1_payBack_17 (by decide) (fun q8 => ?_) (fun q8 => ?_)
    · refine oz_iconst X (v := 0) dX1_payBack_53 (by decide) ?_
      exact oz_iret X rfl hr (by omega) dX1_payBack_54
    · refine oz_aload_n X dX1_payBack_20 rfl 0 rfl ?_
      refine oz_aload_n X dX1_payBack_21 rfl 0 rfl ?_
      refine oz_iload_n X dX1_payBack_22 rfl 1 rfl ?_
      refine oz_callV X rfl (As := [.int x1]) (S := [.ref (ad 0)]) (mX1_doesLast l hst D cI cZ ad x1) gX1_payBack_X1_doesLast rfl rfl rfl hX1_doesLast ⟨by decide, by decide⟩ rfl rfl (Nat.le_of_ble_eq_true rfl) dX1_payBack_23 (by omega) (by decide) (by decide) (fun r9 s9 => ?_)
      refine oz_if_eq X (tgt := 42) dX1_payBack_26 (by decide) (fun q10 => ?_) (fun q10 => ?_)
      · refine oz_iconst X (v := 2) dX1_payBack_42 (by decide) ?_
        refine oz_goto X (tgt := 47) dX1_payBack_43 (by decide) ?_
        exact oz_sub X [0, 1] (L2 := [(0, .ref (ad 0)), (1, .int x1)]) rfl (hc47 _ (by omega) x1 2 s9)
      · refine oz_aload_n X dX1_payBack_29 rfl 0 rfl ?_
        refine oz_aload_n X dX1_payBack_30 rfl 0 rfl ?_
        refine oz_getA X hin (j := 12) rfl lk42 dX1_payBack_31 ?_
        refine oz_iload_n X dX1_payBack_34 rfl 1 rfl ?_
        refine oz_iald X (j := 12) rfl (by decide) dX1_payBack_35 (fun g11 => ?_)
        refine oz_callV X rfl (As := [.int (s9 13 x1.toNatClampNeg)]) (S := [.ref (ad 0)]) (mX1_isComing l hst D cI cZ ad (s9 13 x1.toNatClampNeg)) gX1_payBack_X1_isComing rfl rfl rfl hX1_isComing ⟨by decide, by decide⟩ rfl rfl (Nat.le_of_ble_eq_true rfl) dX1_payBack_36 (by omega) (by decide) (by decide) (fun r12 s12 => ?_)
        refine oz_if_eq X (tgt := 46) dX1_payBack_39 (by decide) (fun q13 => ?_) (fun q13 => ?_)
        · refine oz_iconst X (v := 0) dX1_payBack_46 (by decide) ?_
          exact oz_sub X [0, 1] (L2 := [(0, .ref (ad 0)), (1, .int x1)]) rfl (hc47 _ (by omega) x1 0 s12)
        · refine oz_iconst X (v := 2) dX1_payBack_42 (by decide) ?_
          refine oz_goto X (tgt := 47) dX1_payBack_43 (by decide) ?_
          exact oz_sub X [0, 1] (L2 := [(0, .ref (ad 0)), (1, .int x1)]) rfl (hc47 _ (by omega) x1 2 s12)
  show G 0 0 [(0, .ref (ad 0)), (1, .int a1)] [] st (FX1_payBack a1 st)
  unfold FX1_payBack
  refine oz_aload_n X dX1_payBack_0 rfl 0 rfl ?_
  refine oz_aload_n X dX1_payBack_1 rfl 0 rfl ?_
  refine oz_iload_n X dX1_payBack_2 rfl 1 rfl ?_
  refine oz_callV X rfl (As := [.int a1]) (S := [.ref (ad 0)]) (mX1_isLoan l hst D cI cZ ad a1) gX1_payBack_X1_isLoan rfl rfl rfl hX1_isLoan ⟨by decide, by decide⟩ rfl rfl (Nat.le_of_ble_eq_true rfl) dX1_payBack_3 (by omega) (by decide) (by decide) (fun r14 s14 => ?_)
  refine oz_if_eq X (tgt := 13) dX1_payBack_6 (by decide) (fun q15 => ?_) (fun q15 => ?_)
  · refine oz_iconst X (v := 1) dX1_payBack_13 (by decide) ?_
    exact oz_sub X [0, 1] (L2 := [(0, .ref (ad 0)), (1, .int a1)]) rfl (hc14 _ (by omega) a1 1 s14)
  · refine oz_iconst X (v := 0) dX1_payBack_9 (by decide) ?_
    refine oz_goto X (tgt := 14) dX1_payBack_10 (by decide) ?_
    exact oz_sub X [0, 1] (L2 := [(0, .ref (ad 0)), (1, .int a1)]) rfl (hc14 _ (by omega) a1 0 s14)

/-! AlmsKernelModel.trackOf -/
def FX1_trackOf (a1 : Int32) (st : ST) : Option Res := bnd (FX1_holderOf a1 st) (fun r1 s1 => gd (oz_in a1 12) (some (0, (8 * r1) + (s1 4 a1.toNatClampNeg), s1)))
def rmX1_trackOf : Room := { frames := 1, cells := 0, slots := 0, locals := 21 }
theorem hX1_trackOf : yX1_trackOf.cls = RX1 ∧ yX1_trackOf.cls ≠ "java/lang/invoke/MethodHandle" ∧ yX1_trackOf.cls ≠ "java/lang/invoke/VarHandle" ∧ (parseMethodDescriptor yX1_trackOf.desc).map (fun d => d.parameters.length) = some 1 := by decide +kernel
theorem lkX1_trackOf_17 : Cond.fieldLink RX1 17 RX1 (TX1 3).2.1 (TX1 3).2.2.1 ∈ wsX1_trackOf := by decide +kernel
set_option maxHeartbeats 4000000 in
set_option maxRecDepth 100000 in
theorem mX1_trackOf (l : Launch) (hst : l.stackTraces = false) (D : va_G) (cI cZ : ClassId) (ad : Nat → Nat) (a1 : Int32) : oz_MI l yX1_trackOf wsX1_trackOf rmX1_trackOf D cI cZ RX1 1 oz_KSX1 ad oz_lyX1 0 [.ref (ad 0), .int a1] (FX1_trackOf a1) := by
  refine oz_ofI (bytes := cX1_trackOf) (maxL := 2) (ret := (some .int)) (T := TX1) (N := 19) (by decide) rfl rfl oz_CX1 hst (Nat.le_of_ble_eq_true rfl) ?_
  intro p e s m below meth c st A res G hr X
  have hin : ∀ w ∈ u_ws RX1 TX1 19, w ∈ wsX1_trackOf := fun w h => List.mem_cons_of_mem _ (List.mem_append_right _ h)
  have lk17 := lkX1_trackOf_17
  show G 0 0 [(0, .ref (ad 0)), (1, .int a1)] [] st (FX1_trackOf a1 st)
  unfold FX1_trackOf
  refine oz_bipush X (v := 8) dX1_trackOf_0 (by decide) ?_
  refine oz_aload_n X dX1_trackOf_2 rfl 0 rfl ?_
  refine oz_iload_n X dX1_trackOf_3 rfl 1 rfl ?_
  refine oz_callV X rfl (As := [.int a1]) (S := [.int 8]) (mX1_holderOf l hst D cI cZ ad a1) gX1_trackOf_X1_holderOf rfl rfl rfl hX1_holderOf ⟨by decide, by decide⟩ rfl rfl (Nat.le_of_ble_eq_true rfl) dX1_trackOf_4 (by omega) (by decide) (by decide) (fun r1 s1 => ?_)
  refine oz_imul X dX1_trackOf_7 ?_
  refine oz_aload_n X dX1_trackOf_8 rfl 0 rfl ?_
  refine oz_getA X hin (j := 3) rfl lk17 dX1_trackOf_9 ?_
  refine oz_iload_n X dX1_trackOf_12 rfl 1 rfl ?_
  refine oz_iald X (j := 3) rfl (by decide) dX1_trackOf_13 (fun g2 => ?_)
  refine oz_iadd X dX1_trackOf_14 ?_
  exact oz_iret X rfl hr (by omega) dX1_trackOf_15

/-! AlmsKernelModel.sleeps -/
def FX1_sleeps_j42 (k2 : Int32 → Int32 → ST → Option Res) (x1 x2 y0 : Int32) (st : ST) : Option Res := stp (oz_se st 0 17 y0) (fun s2 => gd (oz_in x2 12) (stp (oz_se s2 4 x2.toNatClampNeg (-1)) (fun s3 => (k2 x1 (x2 + 1) s3))))
def FX1_sleeps_w60 : Nat → Int32 → Int32 → ST → Option Res
  | 0, _, _, _ => none
  | n + 1, x1, x2, st => (if st 0 11 ≤ x2 then gd (oz_in x1 5) (stp (oz_se st 10 x1.toNatClampNeg 2) (fun s6 => some (0, 0, s6))) else bnd (FX1_doesLast x2 st) (fun r7 s7 => (if r7 = 0 then (FX1_sleeps_w60 n x1 (x2 + 1) s7) else gd (oz_in x2 60) ((if s7 15 x2.toNatClampNeg = x1 then bnd (FX1_ends x2 s7) (fun _ s11 => (FX1_sleeps_w60 n x1 (x2 + 1) s11)) else (FX1_sleeps_w60 n x1 (x2 + 1) s7))))))
def FX1_sleeps_w2 : Nat → Int32 → Int32 → ST → Option Res
  | 0, _, _, _ => none
  | n + 1, x1, x2, st => (if 12 ≤ x2 then (FX1_sleeps_w60 300 x1 0 st) else bnd (FX1_holderOf x2 st) (fun r14 s14 => (if r14 = x1 then bnd (FX1_isComing x2 s14) (fun r16 s16 => (if r16 = 0 then (FX1_sleeps_w2 n x1 (x2 + 1) s16) else (if s16 0 17 = x2 then (FX1_sleeps_j42 (FX1_sleeps_w2 n) x1 x2 (-1) s16) else (FX1_sleeps_j42 (FX1_sleeps_w2 n) x1 x2 (s16 0 17) s16)))) else (FX1_sleeps_w2 n x1 (x2 + 1) s14))))
def FX1_sleeps (a1 : Int32) (st : ST) : Option Res := (FX1_sleeps_w2 300 a1 0 st)
def rmX1_sleeps : Room := { frames := 1, cells := 0, slots := 0, locals := 22 }
theorem hX1_sleeps : yX1_sleeps.cls = RX1 ∧ yX1_sleeps.cls ≠ "java/lang/invoke/MethodHandle" ∧ yX1_sleeps.cls ≠ "java/lang/invoke/VarHandle" ∧ (parseMethodDescriptor yX1_sleeps.desc).map (fun d => d.parameters.length) = some 1 := by decide +kernel
theorem lkX1_sleeps_17 : Cond.fieldLink RX1 17 RX1 (TX1 3).2.1 (TX1 3).2.2.1 ∈ wsX1_sleeps := by decide +kernel
theorem lkX1_sleeps_36 : Cond.fieldLink RX1 36 RX1 (TX1 9).2.1 (TX1 9).2.2.1 ∈ wsX1_sleeps := by decide +kernel
theorem lkX1_sleeps_48 : Cond.fieldLink RX1 48 RX1 (TX1 14).2.1 (TX1 14).2.2.1 ∈ wsX1_sleeps := by decide +kernel
theorem lkX1_sleeps_54 : Cond.fieldLink RX1 54 RX1 (TX1 17).2.1 (TX1 17).2.2.1 ∈ wsX1_sleeps := by decide +kernel
theorem lkX1_sleeps_64 : Cond.fieldLink RX1 64 RX1 (TX1 11).2.1 (TX1 11).2.2.1 ∈ wsX1_sleeps := by decide +kernel
set_option maxHeartbeats 4000000 in
set_option maxRecDepth 100000 in
theorem mX1_sleeps (l : Launch) (hst : l.stackTraces = false) (D : va_G) (cI cZ : ClassId) (ad : Nat → Nat) (a1 : Int32) : oz_MV l yX1_sleeps wsX1_sleeps rmX1_sleeps D cI cZ RX1 1 oz_KSX1 ad oz_lyX1 0 [.ref (ad 0), .int a1] (FX1_sleeps a1) := by
  refine oz_ofV (bytes := cX1_sleeps) (maxL := 3) (ret := none) (T := TX1) (N := 19) (by decide) rfl rfl oz_CX1 hst (Nat.le_of_ble_eq_true rfl) ?_
  intro p e s m below meth c st A res G hr X
  have hin : ∀ w ∈ u_ws RX1 TX1 19, w ∈ wsX1_sleeps := fun w h => List.mem_cons_of_mem _ (List.mem_append_right _ h)
  have lk17 := lkX1_sleeps_17
  have lk36 := lkX1_sleeps_36
  have lk48 := lkX1_sleeps_48
  have lk54 := lkX1_sleeps_54
  have lk64 := lkX1_sleeps_64
  have hc42 : ∀ (k2 : Int32 → Int32 → ST → Option Res) (hk2 : ∀ (k : Nat), k ≤ 0 → ∀ (x1 x2 : Int32) (st : ST), G k 2 [(0, .ref (ad 0)), (1, .int x1), (2, .int x2)] [] st (k2 x1 x2 st)) (k : Nat), k ≤ 0 → ∀ (x1 x2 y0 : Int32) (st : ST), G k 42 [(0, .ref (ad 0)), (1, .int x1), (2, .int x2)] [.int y0, .ref (ad 0)] st (FX1_sleeps_j42 k2 x1 x2 y0 st) := by
    intro k2 hk2 k hk x1 x2 y0 st
    unfold FX1_sleeps_j42
    refine oz_putS X hin (j := 17) rfl lk54 dX1_sleeps_42 (fun s2 e2 => ?_)
    refine oz_aload_n X dX1_sleeps_45 rfl 0 rfl ?_
    refine oz_getA X hin (j := 3) rfl lk17 dX1_sleeps_46 ?_
    refine oz_iload_n X dX1_sleeps_49 rfl 2 rfl ?_
    refine oz_iconst X (v := (-1)) dX1_sleeps_50 (by decide) ?_
    refine oz_iast X (j := 3) rfl (by decide) dX1_sleeps_51 (fun s3 e3 g3 => ?_)
    refine oz_iinc X (q := 2) (v := x2 + 1) (L2 := [(2, .int (x2 + 1)), (0, .ref (ad 0)), (1, .int x1)]) dX1_sleeps_52 rfl rfl (by decide) rfl ?_
    refine oz_goto X (tgt := 2) dX1_sleeps_55 (by decide) ?_
    exact oz_sub X [1, 2, 0] (L2 := [(0, .ref (ad 0)), (1, .int x1), (2, .int (x2 + 1))]) rfl (hk2 _ (by omega) x1 (x2 + 1) s3)
  have hc60 : ∀ (n k : Nat), k ≤ 0 → ∀ (x1 x2 : Int32) (st : ST), G k 60 [(0, .ref (ad 0)), (1, .int x1), (2, .int x2)] [] st (FX1_sleeps_w60 n x1 x2 st) := by
    intro n
    induction n with
    | zero => intros; exact oz_none X
    | succ n ih =>
      intro k hk x1 x2 st
      rw [FX1_sleeps_w60]
      refine oz_iload_n X dX1_sleeps_60 rfl 2 rfl ?_
      refine oz_aload_n X dX1_sleeps_61 rfl 0 rfl ?_
      refine oz_getS X hin (j := 11) rfl lk64 dX1_sleeps_62 ?_
      refine oz_icmp_ge X (tgt := 97) dX1_sleeps_65 (by decide) (fun q5 => ?_) (fun q5 => ?_)
      · refine oz_aload_n X dX1_sleeps_97 rfl 0 rfl ?_
        refine oz_getA X hin (j := 9) rfl lk36 dX1_sleeps_98 ?_
        refine oz_iload_n X dX1_sleeps_101 rfl 1 rfl ?_
        refine oz_iconst X (v := 2) dX1_sleeps_102 (by decide) ?_
        refine oz_iast X (j := 9) rfl (by decide) dX1_sleeps_103 (fun s6 e6 g6 => ?_)
        exact oz_vret X rfl hr (by omega) dX1_sleeps_104
      · refine oz_aload_n X dX1_sleeps_68 rfl 0 rfl ?_
        refine oz_iload_n X dX1_sleeps_69 rfl 2 rfl ?_
        refine oz_callV X rfl (As := [.int x2]) (S := []) (mX1_doesLast l hst D cI cZ ad x2) gX1_sleeps_X1_doesLast rfl rfl rfl hX1_doesLast ⟨by decide, by decide⟩ rfl rfl (Nat.le_of_ble_eq_true rfl) dX1_sleeps_70 (by omega) (by decide) (by decide) (fun r7 s7 => ?_)
        refine oz_if_eq X (tgt := 91) dX1_sleeps_73 (by decide) (fun q8 => ?_) (fun q8 => ?_)
        · refine oz_iinc X (q := 2) (v := x2 + 1) (L2 := [(2, .int (x2 + 1)), (0, .ref (ad 0)), (1, .int x1)]) dX1_sleeps_91 rfl rfl (by decide) rfl ?_
          refine oz_goto X (tgt := 60) dX1_sleeps_94 (by decide) ?_
          exact oz_sub X [1, 2, 0] (L2 := [(0, .ref (ad 0)), (1, .int x1), (2, .int (x2 + 1))]) rfl (ih _ (by omega) x1 (x2 + 1) s7)
        · refine oz_aload_n X dX1_sleeps_76 rfl 0 rfl ?_
          refine oz_getA X hin (j := 14) rfl lk48 dX1_sleeps_77 ?_
          refine oz_iload_n X dX1_sleeps_80 rfl 2 rfl ?_
          refine oz_iald X (j := 14) rfl (by decide) dX1_sleeps_81 (fun g9 => ?_)
          refine oz_iload_n X dX1_sleeps_82 rfl 1 rfl ?_
          refine oz_icmp_ne X (tgt := 91) dX1_sleeps_83 (by decide) (fun q10 => ?_) (fun q10 => ?_)
          · refine oz_iinc X (q := 2) (v := x2 + 1) (L2 := [(2, .int (x2 + 1)), (0, .ref (ad 0)), (1, .int x1)]) dX1_sleeps_91 rfl rfl (by decide) rfl ?_
            refine oz_goto X (tgt := 60) dX1_sleeps_94 (by decide) ?_
            exact oz_sub X [1, 2, 0] (L2 := [(0, .ref (ad 0)), (1, .int x1), (2, .int (x2 + 1))]) rfl (ih _ (by omega) x1 (x2 + 1) s7)
          · refine oz_aload_n X dX1_sleeps_86 rfl 0 rfl ?_
            refine oz_iload_n X dX1_sleeps_87 rfl 2 rfl ?_
            refine oz_callVv X rfl (As := [.int x2]) (S := []) (mX1_ends l hst D cI cZ ad x2) gX1_sleeps_X1_ends rfl rfl rfl hX1_ends ⟨by decide, by decide⟩ rfl rfl (Nat.le_of_ble_eq_true rfl) dX1_sleeps_88 (by omega) (by decide) (by decide) (fun s11 => ?_)
            refine oz_iinc X (q := 2) (v := x2 + 1) (L2 := [(2, .int (x2 + 1)), (0, .ref (ad 0)), (1, .int x1)]) dX1_sleeps_91 rfl rfl (by decide) rfl ?_
            refine oz_goto X (tgt := 60) dX1_sleeps_94 (by decide) ?_
            exact oz_sub X [1, 2, 0] (L2 := [(0, .ref (ad 0)), (1, .int x1), (2, .int (x2 + 1))]) rfl (ih _ (by omega) x1 (x2 + 1) s11)
  have hc2 : ∀ (n k : Nat), k ≤ 0 → ∀ (x1 x2 : Int32) (st : ST), G k 2 [(0, .ref (ad 0)), (1, .int x1), (2, .int x2)] [] st (FX1_sleeps_w2 n x1 x2 st) := by
    intro n
    induction n with
    | zero => intros; exact oz_none X
    | succ n ih =>
      intro k hk x1 x2 st
      rw [FX1_sleeps_w2]
      refine oz_iload_n X dX1_sleeps_2 rfl 2 rfl ?_
      refine oz_bipush X (v := 12) dX1_sleeps_3 (by decide) ?_
      refine oz_icmp_ge X (tgt := 58) dX1_sleeps_5 (by decide) (fun q13 => ?_) (fun q13 => ?_)
      · refine oz_iconst X (v := 0) dX1_sleeps_58 (by decide) ?_
        refine oz_istore_n X (L2 := [(2, .int 0), (0, .ref (ad 0)), (1, .int x1)]) dX1_sleeps_59 rfl (by decide) rfl ?_
        exact oz_sub X [1, 2, 0] (L2 := [(0, .ref (ad 0)), (1, .int x1), (2, .int 0)]) rfl (hc60 300 _ (by omega) x1 0 st)
      · refine oz_aload_n X dX1_sleeps_8 rfl 0 rfl ?_
        refine oz_iload_n X dX1_sleeps_9 rfl 2 rfl ?_
        refine oz_callV X rfl (As := [.int x2]) (S := []) (mX1_holderOf l hst D cI cZ ad x2) gX1_sleeps_X1_holderOf rfl rfl rfl hX1_holderOf ⟨by decide, by decide⟩ rfl rfl (Nat.le_of_ble_eq_true rfl) dX1_sleeps_10 (by omega) (by decide) (by decide) (fun r14 s14 => ?_)
        refine oz_iload_n X dX1_sleeps_13 rfl 1 rfl ?_
        refine oz_icmp_ne X (tgt := 52) dX1_sleeps_14 (by decide) (fun q15 => ?_) (fun q15 => ?_)
        · refine oz_iinc X (q := 2) (v := x2 + 1) (L2 := [(2, .int (x2 + 1)), (0, .ref (ad 0)), (1, .int x1)]) dX1_sleeps_52 rfl rfl (by decide) rfl ?_
          refine oz_goto X (tgt := 2) dX1_sleeps_55 (by decide) ?_
          exact oz_sub X [1, 2, 0] (L2 := [(0, .ref (ad 0)), (1, .int x1), (2, .int (x2 + 1))]) rfl (ih _ (by omega) x1 (x2 + 1) s14)
        · refine oz_aload_n X dX1_sleeps_17 rfl 0 rfl ?_
          refine oz_iload_n X dX1_sleeps_18 rfl 2 rfl ?_
          refine oz_callV X rfl (As := [.int x2]) (S := []) (mX1_isComing l hst D cI cZ ad x2) gX1_sleeps_X1_isComing rfl rfl rfl hX1_isComing ⟨by decide, by decide⟩ rfl rfl (Nat.le_of_ble_eq_true rfl) dX1_sleeps_19 (by omega) (by decide) (by decide) (fun r16 s16 => ?_)
          refine oz_if_eq X (tgt := 52) dX1_sleeps_22 (by decide) (fun q17 => ?_) (fun q17 => ?_)
          · refine oz_iinc X (q := 2) (v := x2 + 1) (L2 := [(2, .int (x2 + 1)), (0, .ref (ad 0)), (1, .int x1)]) dX1_sleeps_52 rfl rfl (by decide) rfl ?_
            refine oz_goto X (tgt := 2) dX1_sleeps_55 (by decide) ?_
            exact oz_sub X [1, 2, 0] (L2 := [(0, .ref (ad 0)), (1, .int x1), (2, .int (x2 + 1))]) rfl (ih _ (by omega) x1 (x2 + 1) s16)
          · refine oz_aload_n X dX1_sleeps_25 rfl 0 rfl ?_
            refine oz_aload_n X dX1_sleeps_26 rfl 0 rfl ?_
            refine oz_getS X hin (j := 17) rfl lk54 dX1_sleeps_27 ?_
            refine oz_iload_n X dX1_sleeps_30 rfl 2 rfl ?_
            refine oz_icmp_ne X (tgt := 38) dX1_sleeps_31 (by decide) (fun q18 => ?_) (fun q18 => ?_)
            · refine oz_aload_n X dX1_sleeps_38 rfl 0 rfl ?_
              refine oz_getS X hin (j := 17) rfl lk54 dX1_sleeps_39 ?_
              exact oz_sub X [0, 1, 2] (L2 := [(0, .ref (ad 0)), (1, .int x1), (2, .int x2)]) rfl (hc42 (FX1_sleeps_w2 n) ih _ (by omega) x1 x2 (s16 0 17) s16)
            · refine oz_iconst X (v := (-1)) dX1_sleeps_34 (by decide) ?_
              refine oz_goto X (tgt := 42) dX1_sleeps_35 (by decide) ?_
              exact oz_sub X [0, 1, 2] (L2 := [(0, .ref (ad 0)), (1, .int x1), (2, .int x2)]) rfl (hc42 (FX1_sleeps_w2 n) ih _ (by omega) x1 x2 (-1) s16)
  show G 0 0 [(0, .ref (ad 0)), (1, .int a1)] [] st (FX1_sleeps a1 st)
  unfold FX1_sleeps
  refine oz_iconst X (v := 0) dX1_sleeps_0 (by decide) ?_
  refine oz_istore_n X (L2 := [(2, .int 0), (0, .ref (ad 0)), (1, .int a1)]) dX1_sleeps_1 rfl (by decide) rfl ?_
  exact oz_sub X [1, 2, 0] (L2 := [(0, .ref (ad 0)), (1, .int a1), (2, .int 0)]) rfl (hc2 300 _ (by omega) a1 0 st)

/-! AlmsKernelModel.pays -/
def FX1_pays_j46 (k2 : Int32 → ST → Option Res) (x1 : Int32) (st : ST) : Option Res := bnd (FX1_doesLast x1 st) (fun r2 s2 => (if r2 = 0 then (k2 (x1 + 1) s2) else gd (oz_in x1 60) (gd (oz_in (s2 15 x1.toNatClampNeg) 5) (gd (oz_in (s2 15 x1.toNatClampNeg) 5) (stp (oz_se s2 9 (s2 15 x1.toNatClampNeg).toNatClampNeg ((s2 9 (s2 15 x1.toNatClampNeg).toNatClampNeg) - (s2 0 1))) (fun s6 => gd (oz_in x1 60) (gd (oz_in (s6 14 x1.toNatClampNeg) 5) (gd (oz_in (s6 14 x1.toNatClampNeg) 5) (stp (oz_se s6 9 (s6 14 x1.toNatClampNeg).toNatClampNeg ((s6 9 (s6 14 x1.toNatClampNeg).toNatClampNeg) + (s6 0 1))) (fun s9 => gd (oz_in x1 60) (gd (oz_in x1 60) (stp (oz_se s9 16 x1.toNatClampNeg ((s9 16 x1.toNatClampNeg) + (s9 0 1))) (fun s11 => (k2 (x1 + 1) s11))))))))))))))
def FX1_pays_w2 : Nat → Int32 → ST → Option Res
  | 0, _, _ => none
  | n + 1, x1, st => (if st 0 11 ≤ x1 then some (0, 0, st) else bnd (FX1_doesLast x1 st) (fun r14 s14 => (if r14 = 0 then (FX1_pays_j46 (FX1_pays_w2 n) x1 s14) else gd (oz_in x1 60) (gd (oz_in (s14 15 x1.toNatClampNeg) 5) ((if s14 0 1 ≤ s14 9 (s14 15 x1.toNatClampNeg).toNatClampNeg then (FX1_pays_j46 (FX1_pays_w2 n) x1 s14) else gd (oz_in x1 60) (bnd (FX1_sleeps (s14 15 x1.toNatClampNeg) s14) (fun _ s20 => (FX1_pays_j46 (FX1_pays_w2 n) x1 s20)))))))))
def FX1_pays (st : ST) : Option Res := (FX1_pays_w2 300 0 st)
def rmX1_pays : Room := { frames := 2, cells := 0, slots := 0, locals := 44 }
theorem hX1_pays : yX1_pays.cls = RX1 ∧ yX1_pays.cls ≠ "java/lang/invoke/MethodHandle" ∧ yX1_pays.cls ≠ "java/lang/invoke/VarHandle" ∧ (parseMethodDescriptor yX1_pays.desc).map (fun d => d.parameters.length) = some 0 := by decide +kernel
theorem lkX1_pays_7 : Cond.fieldLink RX1 7 RX1 (TX1 1).2.1 (TX1 1).2.2.1 ∈ wsX1_pays := by decide +kernel
theorem lkX1_pays_33 : Cond.fieldLink RX1 33 RX1 (TX1 8).2.1 (TX1 8).2.2.1 ∈ wsX1_pays := by decide +kernel
theorem lkX1_pays_45 : Cond.fieldLink RX1 45 RX1 (TX1 13).2.1 (TX1 13).2.2.1 ∈ wsX1_pays := by decide +kernel
theorem lkX1_pays_48 : Cond.fieldLink RX1 48 RX1 (TX1 14).2.1 (TX1 14).2.2.1 ∈ wsX1_pays := by decide +kernel
theorem lkX1_pays_51 : Cond.fieldLink RX1 51 RX1 (TX1 15).2.1 (TX1 15).2.2.1 ∈ wsX1_pays := by decide +kernel
theorem lkX1_pays_64 : Cond.fieldLink RX1 64 RX1 (TX1 11).2.1 (TX1 11).2.2.1 ∈ wsX1_pays := by decide +kernel
set_option maxHeartbeats 4000000 in
set_option maxRecDepth 100000 in
theorem mX1_pays (l : Launch) (hst : l.stackTraces = false) (D : va_G) (cI cZ : ClassId) (ad : Nat → Nat) : oz_MV l yX1_pays wsX1_pays rmX1_pays D cI cZ RX1 1 oz_KSX1 ad oz_lyX1 0 [.ref (ad 0)] (FX1_pays) := by
  refine oz_ofV (bytes := cX1_pays) (maxL := 2) (ret := none) (T := TX1) (N := 19) (by decide) rfl rfl oz_CX1 hst (Nat.le_of_ble_eq_true rfl) ?_
  intro p e s m below meth c st A res G hr X
  have hin : ∀ w ∈ u_ws RX1 TX1 19, w ∈ wsX1_pays := fun w h => List.mem_cons_of_mem _ (List.mem_append_right _ h)
  have lk7 := lkX1_pays_7
  have lk33 := lkX1_pays_33
  have lk45 := lkX1_pays_45
  have lk48 := lkX1_pays_48
  have lk51 := lkX1_pays_51
  have lk64 := lkX1_pays_64
  have hc46 : ∀ (k2 : Int32 → ST → Option Res) (hk2 : ∀ (k : Nat), k ≤ 0 → ∀ (x1 : Int32) (st : ST), G k 2 [(0, .ref (ad 0)), (1, .int x1)] [] st (k2 x1 st)) (k : Nat), k ≤ 0 → ∀ (x1 : Int32) (st : ST), G k 46 [(0, .ref (ad 0)), (1, .int x1)] [] st (FX1_pays_j46 k2 x1 st) := by
    intro k2 hk2 k hk x1 st
    unfold FX1_pays_j46
    refine oz_aload_n X dX1_pays_46 rfl 0 rfl ?_
    refine oz_iload_n X dX1_pays_47 rfl 1 rfl ?_
    refine oz_callV X rfl (As := [.int x1]) (S := []) (mX1_doesLast l hst D cI cZ ad x1) gX1_pays_X1_doesLast rfl rfl rfl hX1_doesLast ⟨by decide, by decide⟩ rfl rfl (Nat.le_of_ble_eq_true rfl) dX1_pays_48 (by omega) (by decide) (by decide) (fun r2 s2 => ?_)
    refine oz_if_eq X (tgt := 103) dX1_pays_51 (by decide) (fun q3 => ?_) (fun q3 => ?_)
    · refine oz_iinc X (q := 1) (v := x1 + 1) (L2 := [(1, .int (x1 + 1)), (0, .ref (ad 0))]) dX1_pays_103 rfl rfl (by decide) rfl ?_
      refine oz_goto X (tgt := 2) dX1_pays_106 (by decide) ?_
      exact oz_sub X [1, 0] (L2 := [(0, .ref (ad 0)), (1, .int (x1 + 1))]) rfl (hk2 _ (by omega) (x1 + 1) s2)
    · refine oz_aload_n X dX1_pays_54 rfl 0 rfl ?_
      refine oz_getA X hin (j := 8) rfl lk33 dX1_pays_55 ?_
      refine oz_aload_n X dX1_pays_58 rfl 0 rfl ?_
      refine oz_getA X hin (j := 14) rfl lk48 dX1_pays_59 ?_
      refine oz_iload_n X dX1_pays_62 rfl 1 rfl ?_
      refine oz_iald X (j := 14) rfl (by decide) dX1_pays_63 (fun g4 => ?_)
      refine oz_dup2 X dX1_pays_64 rfl rfl ?_
      refine oz_iald X (j := 8) rfl (by decide) dX1_pays_65 (fun g5 => ?_)
      refine oz_aload_n X dX1_pays_66 rfl 0 rfl ?_
      refine oz_getS X hin (j := 1) rfl lk7 dX1_pays_67 ?_
      refine oz_isub X dX1_pays_70 ?_
      refine oz_iast X (j := 8) rfl (by decide) dX1_pays_71 (fun s6 e6 g6 => ?_)
      refine oz_aload_n X dX1_pays_72 rfl 0 rfl ?_
      refine oz_getA X hin (j := 8) rfl lk33 dX1_pays_73 ?_
      refine oz_aload_n X dX1_pays_76 rfl 0 rfl ?_
      refine oz_getA X hin (j := 13) rfl lk45 dX1_pays_77 ?_
      refine oz_iload_n X dX1_pays_80 rfl 1 rfl ?_
      refine oz_iald X (j := 13) rfl (by decide) dX1_pays_81 (fun g7 => ?_)
      refine oz_dup2 X dX1_pays_82 rfl rfl ?_
      refine oz_iald X (j := 8) rfl (by decide) dX1_pays_83 (fun g8 => ?_)
      refine oz_aload_n X dX1_pays_84 rfl 0 rfl ?_
      refine oz_getS X hin (j := 1) rfl lk7 dX1_pays_85 ?_
      refine oz_iadd X dX1_pays_88 ?_
      refine oz_iast X (j := 8) rfl (by decide) dX1_pays_89 (fun s9 e9 g9 => ?_)
      refine oz_aload_n X dX1_pays_90 rfl 0 rfl ?_
      refine oz_getA X hin (j := 15) rfl lk51 dX1_pays_91 ?_
      refine oz_iload_n X dX1_pays_94 rfl 1 rfl ?_
      refine oz_dup2 X dX1_pays_95 rfl rfl ?_
      refine oz_iald X (j := 15) rfl (by decide) dX1_pays_96 (fun g10 => ?_)
      refine oz_aload_n X dX1_pays_97 rfl 0 rfl ?_
      refine oz_getS X hin (j := 1) rfl lk7 dX1_pays_98 ?_
      refine oz_iadd X dX1_pays_101 ?_
      refine oz_iast X (j := 15) rfl (by decide) dX1_pays_102 (fun s11 e11 g11 => ?_)
      refine oz_iinc X (q := 1) (v := x1 + 1) (L2 := [(1, .int (x1 + 1)), (0, .ref (ad 0))]) dX1_pays_103 rfl rfl (by decide) rfl ?_
      refine oz_goto X (tgt := 2) dX1_pays_106 (by decide) ?_
      exact oz_sub X [1, 0] (L2 := [(0, .ref (ad 0)), (1, .int (x1 + 1))]) rfl (hk2 _ (by omega) (x1 + 1) s11)
  have hc2 : ∀ (n k : Nat), k ≤ 0 → ∀ (x1 : Int32) (st : ST), G k 2 [(0, .ref (ad 0)), (1, .int x1)] [] st (FX1_pays_w2 n x1 st) := by
    intro n
    induction n with
    | zero => intros; exact oz_none X
    | succ n ih =>
      intro k hk x1 st
      rw [FX1_pays_w2]
      refine oz_iload_n X dX1_pays_2 rfl 1 rfl ?_
      refine oz_aload_n X dX1_pays_3 rfl 0 rfl ?_
      refine oz_getS X hin (j := 11) rfl lk64 dX1_pays_4 ?_
      refine oz_icmp_ge X (tgt := 109) dX1_pays_7 (by decide) (fun q13 => ?_) (fun q13 => ?_)
      · exact oz_vret X rfl hr (by omega) dX1_pays_109
      · refine oz_aload_n X dX1_pays_10 rfl 0 rfl ?_
        refine oz_iload_n X dX1_pays_11 rfl 1 rfl ?_
        refine oz_callV X rfl (As := [.int x1]) (S := []) (mX1_doesLast l hst D cI cZ ad x1) gX1_pays_X1_doesLast rfl rfl rfl hX1_doesLast ⟨by decide, by decide⟩ rfl rfl (Nat.le_of_ble_eq_true rfl) dX1_pays_12 (by omega) (by decide) (by decide) (fun r14 s14 => ?_)
        refine oz_if_eq X (tgt := 46) dX1_pays_15 (by decide) (fun q15 => ?_) (fun q15 => ?_)
        · exact oz_sub X [0, 1] (L2 := [(0, .ref (ad 0)), (1, .int x1)]) rfl (hc46 (FX1_pays_w2 n) ih _ (by omega) x1 s14)
        · refine oz_aload_n X dX1_pays_18 rfl 0 rfl ?_
          refine oz_getA X hin (j := 8) rfl lk33 dX1_pays_19 ?_
          refine oz_aload_n X dX1_pays_22 rfl 0 rfl ?_
          refine oz_getA X hin (j := 14) rfl lk48 dX1_pays_23 ?_
          refine oz_iload_n X dX1_pays_26 rfl 1 rfl ?_
          refine oz_iald X (j := 14) rfl (by decide) dX1_pays_27 (fun g16 => ?_)
          refine oz_iald X (j := 8) rfl (by decide) dX1_pays_28 (fun g17 => ?_)
          refine oz_aload_n X dX1_pays_29 rfl 0 rfl ?_
          refine oz_getS X hin (j := 1) rfl lk7 dX1_pays_30 ?_
          refine oz_icmp_ge X (tgt := 46) dX1_pays_33 (by decide) (fun q18 => ?_) (fun q18 => ?_)
          · exact oz_sub X [0, 1] (L2 := [(0, .ref (ad 0)), (1, .int x1)]) rfl (hc46 (FX1_pays_w2 n) ih _ (by omega) x1 s14)
          · refine oz_aload_n X dX1_pays_36 rfl 0 rfl ?_
            refine oz_aload_n X dX1_pays_37 rfl 0 rfl ?_
            refine oz_getA X hin (j := 14) rfl lk48 dX1_pays_38 ?_
            refine oz_iload_n X dX1_pays_41 rfl 1 rfl ?_
            refine oz_iald X (j := 14) rfl (by decide) dX1_pays_42 (fun g19 => ?_)
            refine oz_callVv X rfl (As := [.int (s14 15 x1.toNatClampNeg)]) (S := []) (mX1_sleeps l hst D cI cZ ad (s14 15 x1.toNatClampNeg)) gX1_pays_X1_sleeps rfl rfl rfl hX1_sleeps ⟨by decide, by decide⟩ rfl rfl (Nat.le_of_ble_eq_true rfl) dX1_pays_43 (by omega) (by decide) (by decide) (fun s20 => ?_)
            exact oz_sub X [0, 1] (L2 := [(0, .ref (ad 0)), (1, .int x1)]) rfl (hc46 (FX1_pays_w2 n) ih _ (by omega) x1 s20)
  show G 0 0 [(0, .ref (ad 0))] [] st (FX1_pays st)
  unfold FX1_pays
  refine oz_iconst X (v := 0) dX1_pays_0 (by decide) ?_
  refine oz_istore_n X (L2 := [(1, .int 0), (0, .ref (ad 0))]) dX1_pays_1 rfl (by decide) rfl ?_
  exact oz_sub X [1, 0] (L2 := [(0, .ref (ad 0)), (1, .int 0)]) rfl (hc2 300 _ (by omega) 0 st)

/-! AlmsKernelModel.richest -/
def FX1_richest_j35 (k4 : Int32 → Int32 → ST → Option Res) (x1 x2 y0 : Int32) (st : ST) : Option Res := (if y0 = 0 then (k4 x1 (x2 + 1) st) else (if x1 = (-1) then (k4 x2 (x2 + 1) st) else gd (oz_in x2 5) (gd (oz_in x1 5) ((if st 9 x2.toNatClampNeg ≤ st 9 x1.toNatClampNeg then (k4 x1 (x2 + 1) st) else (k4 x2 (x2 + 1) st))))))
def FX1_richest_j34 (k4 : Int32 → Int32 → ST → Option Res) (x1 x2 : Int32) (st : ST) : Option Res := (FX1_richest_j35 k4 x1 x2 0 st)
def FX1_richest_w4 : Nat → Int32 → Int32 → ST → Option Res
  | 0, _, _, _ => none
  | n + 1, x1, x2, st => (if 5 ≤ x2 then some (0, x1, st) else gd (oz_in x2 5) ((if st 10 x2.toNatClampNeg = 2 then (FX1_richest_j34 (FX1_richest_w4 n) x1 x2 st) else gd (oz_in x2 5) ((if st 9 x2.toNatClampNeg < 20 then (FX1_richest_j34 (FX1_richest_w4 n) x1 x2 st) else (FX1_richest_j35 (FX1_richest_w4 n) x1 x2 1 st))))))
def FX1_richest (st : ST) : Option Res := (FX1_richest_w4 300 (-1) 0 st)
def rmX1_richest : Room := { frames := 0, cells := 0, slots := 0, locals := 0 }
theorem hX1_richest : yX1_richest.cls = RX1 ∧ yX1_richest.cls ≠ "java/lang/invoke/MethodHandle" ∧ yX1_richest.cls ≠ "java/lang/invoke/VarHandle" ∧ (parseMethodDescriptor yX1_richest.desc).map (fun d => d.parameters.length) = some 0 := by decide +kernel
theorem lkX1_richest_33 : Cond.fieldLink RX1 33 RX1 (TX1 8).2.1 (TX1 8).2.2.1 ∈ wsX1_richest := by decide +kernel
theorem lkX1_richest_36 : Cond.fieldLink RX1 36 RX1 (TX1 9).2.1 (TX1 9).2.2.1 ∈ wsX1_richest := by decide +kernel
set_option maxHeartbeats 4000000 in
set_option maxRecDepth 100000 in
theorem mX1_richest (l : Launch) (hst : l.stackTraces = false) (D : va_G) (cI cZ : ClassId) (ad : Nat → Nat) : oz_MI l yX1_richest wsX1_richest rmX1_richest D cI cZ RX1 1 oz_KSX1 ad oz_lyX1 0 [.ref (ad 0)] (FX1_richest) := by
  refine oz_ofI (bytes := cX1_richest) (maxL := 4) (ret := (some .int)) (T := TX1) (N := 19) (by decide) rfl rfl oz_CX1 hst (Nat.le_of_ble_eq_true rfl) ?_
  intro p e s m below meth c st A res G hr X
  have hin : ∀ w ∈ u_ws RX1 TX1 19, w ∈ wsX1_richest := fun w h => List.mem_cons_of_mem _ (List.mem_append_right _ h)
  have lk33 := lkX1_richest_33
  have lk36 := lkX1_richest_36
  have hc35 : ∀ (k4 : Int32 → Int32 → ST → Option Res) (hk4 : ∀ (k : Nat), k ≤ 0 → ∀ (x1 x2 : Int32) (st : ST), G k 4 [(0, .ref (ad 0)), (1, .int x1), (2, .int x2)] [] st (k4 x1 x2 st)) (k : Nat), k ≤ 0 → ∀ (x1 x2 y0 : Int32) (st : ST), G k 35 [(0, .ref (ad 0)), (1, .int x1), (2, .int x2)] [.int y0] st (FX1_richest_j35 k4 x1 x2 y0 st) := by
    intro k4 hk4 k hk x1 x2 y0 st
    unfold FX1_richest_j35
    refine oz_istore_n X (L2 := [(3, .int y0), (0, .ref (ad 0)), (1, .int x1), (2, .int x2)]) dX1_richest_35 rfl (by decide) rfl ?_
    refine oz_iload_n X dX1_richest_36 rfl 0 rfl ?_
    refine oz_if_eq X (tgt := 64) dX1_richest_37 (by decide) (fun q2 => ?_) (fun q2 => ?_)
    · refine oz_iload_n X dX1_richest_64 rfl 2 rfl ?_
      refine oz_istore_n X (L2 := [(1, .int x1), (3, .int y0), (0, .ref (ad 0)), (2, .int x2)]) dX1_richest_65 rfl (by decide) rfl ?_
      refine oz_iinc X (q := 3) (v := x2 + 1) (L2 := [(2, .int (x2 + 1)), (1, .int x1), (3, .int y0), (0, .ref (ad 0))]) dX1_richest_66 rfl rfl (by decide) rfl ?_
      refine oz_goto X (tgt := 4) dX1_richest_69 (by decide) ?_
      exact oz_sub X [3, 1, 0] (L2 := [(0, .ref (ad 0)), (1, .int x1), (2, .int (x2 + 1))]) rfl (hk4 _ (by omega) x1 (x2 + 1) st)
    · refine oz_iload_n X dX1_richest_40 rfl 2 rfl ?_
      refine oz_iconst X (v := (-1)) dX1_richest_41 (by decide) ?_
      refine oz_icmp_eq X (tgt := 60) dX1_richest_42 (by decide) (fun q3 => ?_) (fun q3 => ?_)
      · refine oz_iload_n X dX1_richest_60 rfl 3 rfl ?_
        refine oz_goto X (tgt := 65) dX1_richest_61 (by decide) ?_
        refine oz_istore_n X (L2 := [(1, .int x2), (3, .int y0), (0, .ref (ad 0)), (2, .int x2)]) dX1_richest_65 rfl (by decide) rfl ?_
        refine oz_iinc X (q := 3) (v := x2 + 1) (L2 := [(2, .int (x2 + 1)), (1, .int x2), (3, .int y0), (0, .ref (ad 0))]) dX1_richest_66 rfl rfl (by decide) rfl ?_
        refine oz_goto X (tgt := 4) dX1_richest_69 (by decide) ?_
        exact oz_sub X [3, 1, 0] (L2 := [(0, .ref (ad 0)), (1, .int x2), (2, .int (x2 + 1))]) rfl (hk4 _ (by omega) x2 (x2 + 1) st)
      · refine oz_aload_n X dX1_richest_45 rfl 1 rfl ?_
        refine oz_getA X hin (j := 8) rfl lk33 dX1_richest_46 ?_
        refine oz_iload_n X dX1_richest_49 rfl 3 rfl ?_
        refine oz_iald X (j := 8) rfl (by decide) dX1_richest_50 (fun g4 => ?_)
        refine oz_aload_n X dX1_richest_51 rfl 1 rfl ?_
        refine oz_getA X hin (j := 8) rfl lk33 dX1_richest_52 ?_
        refine oz_iload_n X dX1_richest_55 rfl 2 rfl ?_
        refine oz_iald X (j := 8) rfl (by decide) dX1_richest_56 (fun g5 => ?_)
        refine oz_icmp_le X (tgt := 64) dX1_richest_57 (by decide) (fun q6 => ?_) (fun q6 => ?_)
        · refine oz_iload_n X dX1_richest_64 rfl 2 rfl ?_
          refine oz_istore_n X (L2 := [(1, .int x1), (3, .int y0), (0, .ref (ad 0)), (2, .int x2)]) dX1_richest_65 rfl (by decide) rfl ?_
          refine oz_iinc X (q := 3) (v := x2 + 1) (L2 := [(2, .int (x2 + 1)), (1, .int x1), (3, .int y0), (0, .ref (ad 0))]) dX1_richest_66 rfl rfl (by decide) rfl ?_
          refine oz_goto X (tgt := 4) dX1_richest_69 (by decide) ?_
          exact oz_sub X [3, 1, 0] (L2 := [(0, .ref (ad 0)), (1, .int x1), (2, .int (x2 + 1))]) rfl (hk4 _ (by omega) x1 (x2 + 1) st)
        · refine oz_iload_n X dX1_richest_60 rfl 3 rfl ?_
          refine oz_goto X (tgt := 65) dX1_richest_61 (by decide) ?_
          refine oz_istore_n X (L2 := [(1, .int x2), (3, .int y0), (0, .ref (ad 0)), (2, .int x2)]) dX1_richest_65 rfl (by decide) rfl ?_
          refine oz_iinc X (q := 3) (v := x2 + 1) (L2 := [(2, .int (x2 + 1)), (1, .int x2), (3, .int y0), (0, .ref (ad 0))]) dX1_richest_66 rfl rfl (by decide) rfl ?_
          refine oz_goto X (tgt := 4) dX1_richest_69 (by decide) ?_
          exact oz_sub X [3, 1, 0] (L2 := [(0, .ref (ad 0)), (1, .int x2), (2, .int (x2 + 1))]) rfl (hk4 _ (by omega) x2 (x2 + 1) st)
  have hc34 : ∀ (k4 : Int32 → Int32 → ST → Option Res) (hk4 : ∀ (k : Nat), k ≤ 0 → ∀ (x1 x2 : Int32) (st : ST), G k 4 [(0, .ref (ad 0)), (1, .int x1), (2, .int x2)] [] st (k4 x1 x2 st)) (k : Nat), k ≤ 0 → ∀ (x1 x2 : Int32) (st : ST), G k 34 [(0, .ref (ad 0)), (1, .int x1), (2, .int x2)] [] st (FX1_richest_j34 k4 x1 x2 st) := by
    intro k4 hk4 k hk x1 x2 st
    unfold FX1_richest_j34
    refine oz_iconst X (v := 0) dX1_richest_34 (by decide) ?_
    exact oz_sub X [0, 1, 2] (L2 := [(0, .ref (ad 0)), (1, .int x1), (2, .int x2)]) rfl (hc35 k4 hk4 _ (by omega) x1 x2 0 st)
  have hc4 : ∀ (n k : Nat), k ≤ 0 → ∀ (x1 x2 : Int32) (st : ST), G k 4 [(0, .ref (ad 0)), (1, .int x1), (2, .int x2)] [] st (FX1_richest_w4 n x1 x2 st) := by
    intro n
    induction n with
    | zero => intros; exact oz_none X
    | succ n ih =>
      intro k hk x1 x2 st
      rw [FX1_richest_w4]
      refine oz_iload_n X dX1_richest_4 rfl 2 rfl ?_
      refine oz_iconst X (v := 5) dX1_richest_5 (by decide) ?_
      refine oz_icmp_ge X (tgt := 72) dX1_richest_6 (by decide) (fun q9 => ?_) (fun q9 => ?_)
      · refine oz_iload_n X dX1_richest_72 rfl 1 rfl ?_
        exact oz_iret X rfl hr (by omega) dX1_richest_73
      · refine oz_aload_n X dX1_richest_9 rfl 0 rfl ?_
        refine oz_getA X hin (j := 9) rfl lk36 dX1_richest_10 ?_
        refine oz_iload_n X dX1_richest_13 rfl 2 rfl ?_
        refine oz_iald X (j := 9) rfl (by decide) dX1_richest_14 (fun g10 => ?_)
        refine oz_iconst X (v := 2) dX1_richest_15 (by decide) ?_
        refine oz_icmp_eq X (tgt := 34) dX1_richest_16 (by decide) (fun q11 => ?_) (fun q11 => ?_)
        · exact oz_sub X [0, 1, 2] (L2 := [(0, .ref (ad 0)), (1, .int x1), (2, .int x2)]) rfl (hc34 (FX1_richest_w4 n) ih _ (by omega) x1 x2 st)
        · refine oz_aload_n X dX1_richest_19 rfl 0 rfl ?_
          refine oz_getA X hin (j := 8) rfl lk33 dX1_richest_20 ?_
          refine oz_iload_n X dX1_richest_23 rfl 2 rfl ?_
          refine oz_iald X (j := 8) rfl (by decide) dX1_richest_24 (fun g12 => ?_)
          refine oz_bipush X (v := 20) dX1_richest_25 (by decide) ?_
          refine oz_icmp_lt X (tgt := 34) dX1_richest_27 (by decide) (fun q13 => ?_) (fun q13 => ?_)
          · exact oz_sub X [0, 1, 2] (L2 := [(0, .ref (ad 0)), (1, .int x1), (2, .int x2)]) rfl (hc34 (FX1_richest_w4 n) ih _ (by omega) x1 x2 st)
          · refine oz_iconst X (v := 1) dX1_richest_30 (by decide) ?_
            refine oz_goto X (tgt := 35) dX1_richest_31 (by decide) ?_
            exact oz_sub X [0, 1, 2] (L2 := [(0, .ref (ad 0)), (1, .int x1), (2, .int x2)]) rfl (hc35 (FX1_richest_w4 n) ih _ (by omega) x1 x2 1 st)
  show G 0 0 [(0, .ref (ad 0))] [] st (FX1_richest st)
  unfold FX1_richest
  refine oz_iconst X (v := (-1)) dX1_richest_0 (by decide) ?_
  refine oz_istore_n X (L2 := [(1, .int (-1)), (0, .ref (ad 0))]) dX1_richest_1 rfl (by decide) rfl ?_
  refine oz_iconst X (v := 0) dX1_richest_2 (by decide) ?_
  refine oz_istore_n X (L2 := [(2, .int 0), (1, .int (-1)), (0, .ref (ad 0))]) dX1_richest_3 rfl (by decide) rfl ?_
  exact oz_sub X [2, 1, 0] (L2 := [(0, .ref (ad 0)), (1, .int (-1)), (2, .int 0)]) rfl (hc4 300 _ (by omega) (-1) 0 st)

/-! AlmsKernelModel.gives -/
def FX1_gives_j86 (k2 : Int32 → ST → Option Res) (x1 y0 y1 : Int32) (st : ST) : Option Res := gd (oz_in y1 5) (stp (oz_se st 10 y1.toNatClampNeg y0) (fun s2 => (k2 (x1 + 1) s2)))
def FX1_gives_j80 (k2 : Int32 → ST → Option Res) (x1 y0 : Int32) (st : ST) : Option Res := gd (oz_in x1 5) ((FX1_gives_j86 k2 x1 (st 10 x1.toNatClampNeg) y0 st))
def FX1_gives_j51 (k2 : Int32 → ST → Option Res) (x1 : Int32) (st : ST) : Option Res := gd (oz_in x1 5) ((if st 10 x1.toNatClampNeg = 2 then gd (oz_in x1 5) ((if st 9 x1.toNatClampNeg < 5 then (FX1_gives_j80 k2 x1 x1 st) else (FX1_gives_j86 k2 x1 0 x1 st))) else (FX1_gives_j80 k2 x1 x1 st)))
def FX1_gives_j25 (k2 : Int32 → ST → Option Res) (x1 y0 : Int32) (st : ST) : Option Res := (if y0 = (-1) then (FX1_gives_j51 k2 x1 st) else gd (oz_in y0 5) (gd (oz_in y0 5) (stp (oz_se st 9 y0.toNatClampNeg ((st 9 y0.toNatClampNeg) - 1)) (fun s13 => gd (oz_in x1 5) (gd (oz_in x1 5) (stp (oz_se s13 9 x1.toNatClampNeg ((s13 9 x1.toNatClampNeg) + 1)) (fun s15 => (FX1_gives_j51 k2 x1 s15))))))))
def FX1_gives_w2 : Nat → Int32 → ST → Option Res
  | 0, _, _ => none
  | n + 1, x1, st => (if 5 ≤ x1 then some (0, 0, st) else gd (oz_in x1 5) ((if st 10 x1.toNatClampNeg = 2 then bnd (FX1_richest st) (fun r20 s20 => (FX1_gives_j25 (FX1_gives_w2 n) x1 r20 s20)) else (FX1_gives_j25 (FX1_gives_w2 n) x1 (-1) st))))
def FX1_gives (st : ST) : Option Res := (FX1_gives_w2 300 0 st)
def rmX1_gives : Room := { frames := 1, cells := 0, slots := 0, locals := 23 }
theorem hX1_gives : yX1_gives.cls = RX1 ∧ yX1_gives.cls ≠ "java/lang/invoke/MethodHandle" ∧ yX1_gives.cls ≠ "java/lang/invoke/VarHandle" ∧ (parseMethodDescriptor yX1_gives.desc).map (fun d => d.parameters.length) = some 0 := by decide +kernel
theorem lkX1_gives_33 : Cond.fieldLink RX1 33 RX1 (TX1 8).2.1 (TX1 8).2.2.1 ∈ wsX1_gives := by decide +kernel
theorem lkX1_gives_36 : Cond.fieldLink RX1 36 RX1 (TX1 9).2.1 (TX1 9).2.2.1 ∈ wsX1_gives := by decide +kernel
set_option maxHeartbeats 4000000 in
set_option maxRecDepth 100000 in
theorem mX1_gives (l : Launch) (hst : l.stackTraces = false) (D : va_G) (cI cZ : ClassId) (ad : Nat → Nat) : oz_MV l yX1_gives wsX1_gives rmX1_gives D cI cZ RX1 1 oz_KSX1 ad oz_lyX1 0 [.ref (ad 0)] (FX1_gives) := by
  refine oz_ofV (bytes := cX1_gives) (maxL := 3) (ret := none) (T := TX1) (N := 19) (by decide) rfl rfl oz_CX1 hst (Nat.le_of_ble_eq_true rfl) ?_
  intro p e s m below meth c st A res G hr X
  have hin : ∀ w ∈ u_ws RX1 TX1 19, w ∈ wsX1_gives := fun w h => List.mem_cons_of_mem _ (List.mem_append_right _ h)
  have lk33 := lkX1_gives_33
  have lk36 := lkX1_gives_36
  have hc86 : ∀ (k2 : Int32 → ST → Option Res) (hk2 : ∀ (k : Nat), k ≤ 0 → ∀ (x1 : Int32) (st : ST), G k 2 [(0, .ref (ad 0)), (1, .int x1)] [] st (k2 x1 st)) (k : Nat), k ≤ 0 → ∀ (x1 y0 y1 : Int32) (st : ST), G k 86 [(0, .ref (ad 0)), (1, .int x1)] [.int y0, .int y1, .ref (ad 10)] st (FX1_gives_j86 k2 x1 y0 y1 st) := by
    intro k2 hk2 k hk x1 y0 y1 st
    unfold FX1_gives_j86
    refine oz_iast X (j := 9) rfl (by decide) dX1_gives_86 (fun s2 e2 g2 => ?_)
    refine oz_iinc X (q := 1) (v := x1 + 1) (L2 := [(1, .int (x1 + 1)), (0, .ref (ad 0))]) dX1_gives_87 rfl rfl (by decide) rfl ?_
    refine oz_goto X (tgt := 2) dX1_gives_90 (by decide) ?_
    exact oz_sub X [1, 0] (L2 := [(0, .ref (ad 0)), (1, .int (x1 + 1))]) rfl (hk2 _ (by omega) (x1 + 1) s2)
  have hc80 : ∀ (k2 : Int32 → ST → Option Res) (hk2 : ∀ (k : Nat), k ≤ 0 → ∀ (x1 : Int32) (st : ST), G k 2 [(0, .ref (ad 0)), (1, .int x1)] [] st (k2 x1 st)) (k : Nat), k ≤ 0 → ∀ (x1 y0 : Int32) (st : ST), G k 80 [(0, .ref (ad 0)), (1, .int x1)] [.int y0, .ref (ad 10)] st (FX1_gives_j80 k2 x1 y0 st) := by
    intro k2 hk2 k hk x1 y0 st
    unfold FX1_gives_j80
    refine oz_aload_n X dX1_gives_80 rfl 0 rfl ?_
    refine oz_getA X hin (j := 9) rfl lk36 dX1_gives_81 ?_
    refine oz_iload_n X dX1_gives_84 rfl 1 rfl ?_
    refine oz_iald X (j := 9) rfl (by decide) dX1_gives_85 (fun g4 => ?_)
    exact oz_sub X [0, 1] (L2 := [(0, .ref (ad 0)), (1, .int x1)]) rfl (hc86 k2 hk2 _ (by omega) x1 (st 10 x1.toNatClampNeg) y0 st)
  have hc51 : ∀ (k2 : Int32 → ST → Option Res) (hk2 : ∀ (k : Nat), k ≤ 0 → ∀ (x1 : Int32) (st : ST), G k 2 [(0, .ref (ad 0)), (1, .int x1)] [] st (k2 x1 st)) (k : Nat), k ≤ 0 → ∀ (x1 : Int32) (st : ST), G k 51 [(0, .ref (ad 0)), (1, .int x1)] [] st (FX1_gives_j51 k2 x1 st) := by
    intro k2 hk2 k hk x1 st
    unfold FX1_gives_j51
    refine oz_aload_n X dX1_gives_51 rfl 0 rfl ?_
    refine oz_getA X hin (j := 9) rfl lk36 dX1_gives_52 ?_
    refine oz_iload_n X dX1_gives_55 rfl 1 rfl ?_
    refine oz_aload_n X dX1_gives_56 rfl 0 rfl ?_
    refine oz_getA X hin (j := 9) rfl lk36 dX1_gives_57 ?_
    refine oz_iload_n X dX1_gives_60 rfl 1 rfl ?_
    refine oz_iald X (j := 9) rfl (by decide) dX1_gives_61 (fun g6 => ?_)
    refine oz_iconst X (v := 2) dX1_gives_62 (by decide) ?_
    refine oz_icmp_ne X (tgt := 80) dX1_gives_63 (by decide) (fun q7 => ?_) (fun q7 => ?_)
    · exact oz_sub X [0, 1] (L2 := [(0, .ref (ad 0)), (1, .int x1)]) rfl (hc80 k2 hk2 _ (by omega) x1 x1 st)
    · refine oz_aload_n X dX1_gives_66 rfl 0 rfl ?_
      refine oz_getA X hin (j := 8) rfl lk33 dX1_gives_67 ?_
      refine oz_iload_n X dX1_gives_70 rfl 1 rfl ?_
      refine oz_iald X (j := 8) rfl (by decide) dX1_gives_71 (fun g8 => ?_)
      refine oz_iconst X (v := 5) dX1_gives_72 (by decide) ?_
      refine oz_icmp_lt X (tgt := 80) dX1_gives_73 (by decide) (fun q9 => ?_) (fun q9 => ?_)
      · exact oz_sub X [0, 1] (L2 := [(0, .ref (ad 0)), (1, .int x1)]) rfl (hc80 k2 hk2 _ (by omega) x1 x1 st)
      · refine oz_iconst X (v := 0) dX1_gives_76 (by decide) ?_
        refine oz_goto X (tgt := 86) dX1_gives_77 (by decide) ?_
        exact oz_sub X [0, 1] (L2 := [(0, .ref (ad 0)), (1, .int x1)]) rfl (hc86 k2 hk2 _ (by omega) x1 0 x1 st)
  have hc25 : ∀ (k2 : Int32 → ST → Option Res) (hk2 : ∀ (k : Nat), k ≤ 0 → ∀ (x1 : Int32) (st : ST), G k 2 [(0, .ref (ad 0)), (1, .int x1)] [] st (k2 x1 st)) (k : Nat), k ≤ 0 → ∀ (x1 y0 : Int32) (st : ST), G k 25 [(0, .ref (ad 0)), (1, .int x1)] [.int y0] st (FX1_gives_j25 k2 x1 y0 st) := by
    intro k2 hk2 k hk x1 y0 st
    unfold FX1_gives_j25
    refine oz_istore_n X (L2 := [(2, .int y0), (0, .ref (ad 0)), (1, .int x1)]) dX1_gives_25 rfl (by decide) rfl ?_
    refine oz_iload_n X dX1_gives_26 rfl 0 rfl ?_
    refine oz_iconst X (v := (-1)) dX1_gives_27 (by decide) ?_
    refine oz_icmp_eq X (tgt := 51) dX1_gives_28 (by decide) (fun q11 => ?_) (fun q11 => ?_)
    · exact oz_sub X [1, 2] (L2 := [(0, .ref (ad 0)), (1, .int x1)]) rfl (hc51 k2 hk2 _ (by omega) x1 st)
    · refine oz_aload_n X dX1_gives_31 rfl 1 rfl ?_
      refine oz_getA X hin (j := 8) rfl lk33 dX1_gives_32 ?_
      refine oz_iload_n X dX1_gives_35 rfl 0 rfl ?_
      refine oz_dup2 X dX1_gives_36 rfl rfl ?_
      refine oz_iald X (j := 8) rfl (by decide) dX1_gives_37 (fun g12 => ?_)
      refine oz_iconst X (v := 1) dX1_gives_38 (by decide) ?_
      refine oz_isub X dX1_gives_39 ?_
      refine oz_iast X (j := 8) rfl (by decide) dX1_gives_40 (fun s13 e13 g13 => ?_)
      refine oz_aload_n X dX1_gives_41 rfl 1 rfl ?_
      refine oz_getA X hin (j := 8) rfl lk33 dX1_gives_42 ?_
      refine oz_iload_n X dX1_gives_45 rfl 2 rfl ?_
      refine oz_dup2 X dX1_gives_46 rfl rfl ?_
      refine oz_iald X (j := 8) rfl (by decide) dX1_gives_47 (fun g14 => ?_)
      refine oz_iconst X (v := 1) dX1_gives_48 (by decide) ?_
      refine oz_iadd X dX1_gives_49 ?_
      refine oz_iast X (j := 8) rfl (by decide) dX1_gives_50 (fun s15 e15 g15 => ?_)
      exact oz_sub X [1, 2] (L2 := [(0, .ref (ad 0)), (1, .int x1)]) rfl (hc51 k2 hk2 _ (by omega) x1 s15)
  have hc2 : ∀ (n k : Nat), k ≤ 0 → ∀ (x1 : Int32) (st : ST), G k 2 [(0, .ref (ad 0)), (1, .int x1)] [] st (FX1_gives_w2 n x1 st) := by
    intro n
    induction n with
    | zero => intros; exact oz_none X
    | succ n ih =>
      intro k hk x1 st
      rw [FX1_gives_w2]
      refine oz_iload_n X dX1_gives_2 rfl 1 rfl ?_
      refine oz_iconst X (v := 5) dX1_gives_3 (by decide) ?_
      refine oz_icmp_ge X (tgt := 93) dX1_gives_4 (by decide) (fun q17 => ?_) (fun q17 => ?_)
      · exact oz_vret X rfl hr (by omega) dX1_gives_93
      · refine oz_aload_n X dX1_gives_7 rfl 0 rfl ?_
        refine oz_getA X hin (j := 9) rfl lk36 dX1_gives_8 ?_
        refine oz_iload_n X dX1_gives_11 rfl 1 rfl ?_
        refine oz_iald X (j := 9) rfl (by decide) dX1_gives_12 (fun g18 => ?_)
        refine oz_iconst X (v := 2) dX1_gives_13 (by decide) ?_
        refine oz_icmp_ne X (tgt := 24) dX1_gives_14 (by decide) (fun q19 => ?_) (fun q19 => ?_)
        · refine oz_iconst X (v := (-1)) dX1_gives_24 (by decide) ?_
          exact oz_sub X [0, 1] (L2 := [(0, .ref (ad 0)), (1, .int x1)]) rfl (hc25 (FX1_gives_w2 n) ih _ (by omega) x1 (-1) st)
        · refine oz_aload_n X dX1_gives_17 rfl 0 rfl ?_
          refine oz_callV X rfl (As := []) (S := []) (mX1_richest l hst D cI cZ ad) gX1_gives_X1_richest rfl rfl rfl hX1_richest ⟨by decide, by decide⟩ rfl rfl (Nat.le_of_ble_eq_true rfl) dX1_gives_18 (by omega) (by decide) (by decide) (fun r20 s20 => ?_)
          refine oz_goto X (tgt := 25) dX1_gives_21 (by decide) ?_
          exact oz_sub X [0, 1] (L2 := [(0, .ref (ad 0)), (1, .int x1)]) rfl (hc25 (FX1_gives_w2 n) ih _ (by omega) x1 r20 s20)
  show G 0 0 [(0, .ref (ad 0))] [] st (FX1_gives st)
  unfold FX1_gives
  refine oz_iconst X (v := 0) dX1_gives_0 (by decide) ?_
  refine oz_istore_n X (L2 := [(1, .int 0), (0, .ref (ad 0))]) dX1_gives_1 rfl (by decide) rfl ?_
  exact oz_sub X [1, 0] (L2 := [(0, .ref (ad 0)), (1, .int 0)]) rfl (hc2 300 _ (by omega) 0 st)

/-! AlmsKernelModel.distance -/
def FX1_distance (a1 : Int32) (st : ST) : Option Res := bnd (FX1_trackOf a1 st) (fun r1 s1 => (if s1 0 16 ≤ r1 then some (0, r1 - (s1 0 16), s1) else some (0, (s1 0 16) - r1, s1)))
def rmX1_distance : Room := { frames := 2, cells := 0, slots := 0, locals := 42 }
theorem hX1_distance : yX1_distance.cls = RX1 ∧ yX1_distance.cls ≠ "java/lang/invoke/MethodHandle" ∧ yX1_distance.cls ≠ "java/lang/invoke/VarHandle" ∧ (parseMethodDescriptor yX1_distance.desc).map (fun d => d.parameters.length) = some 1 := by decide +kernel
theorem lkX1_distance_159 : Cond.fieldLink RX1 159 RX1 (TX1 16).2.1 (TX1 16).2.2.1 ∈ wsX1_distance := by decide +kernel
set_option maxHeartbeats 4000000 in
set_option maxRecDepth 100000 in
theorem mX1_distance (l : Launch) (hst : l.stackTraces = false) (D : va_G) (cI cZ : ClassId) (ad : Nat → Nat) (a1 : Int32) : oz_MI l yX1_distance wsX1_distance rmX1_distance D cI cZ RX1 1 oz_KSX1 ad oz_lyX1 0 [.ref (ad 0), .int a1] (FX1_distance a1) := by
  refine oz_ofI (bytes := cX1_distance) (maxL := 3) (ret := (some .int)) (T := TX1) (N := 19) (by decide) rfl rfl oz_CX1 hst (Nat.le_of_ble_eq_true rfl) ?_
  intro p e s m below meth c st A res G hr X
  have hin : ∀ w ∈ u_ws RX1 TX1 19, w ∈ wsX1_distance := fun w h => List.mem_cons_of_mem _ (List.mem_append_right _ h)
  have lk159 := lkX1_distance_159
  show G 0 0 [(0, .ref (ad 0)), (1, .int a1)] [] st (FX1_distance a1 st)
  unfold FX1_distance
  refine oz_aload_n X dX1_distance_0 rfl 0 rfl ?_
  refine oz_iload_n X dX1_distance_1 rfl 1 rfl ?_
  refine oz_callV X rfl (As := [.int a1]) (S := []) (mX1_trackOf l hst D cI cZ ad a1) gX1_distance_X1_trackOf rfl rfl rfl hX1_trackOf ⟨by decide, by decide⟩ rfl rfl (Nat.le_of_ble_eq_true rfl) dX1_distance_2 (by omega) (by decide) (by decide) (fun r1 s1 => ?_)
  refine oz_istore_n X (L2 := [(2, .int r1), (0, .ref (ad 0)), (1, .int a1)]) dX1_distance_5 rfl (by decide) rfl ?_
  refine oz_iload_n X dX1_distance_6 rfl 0 rfl ?_
  refine oz_aload_n X dX1_distance_7 rfl 1 rfl ?_
  refine oz_getS X hin (j := 16) rfl lk159 dX1_distance_8 ?_
  refine oz_icmp_ge X (tgt := 23) dX1_distance_11 (by decide) (fun q2 => ?_) (fun q2 => ?_)
  · refine oz_iload_n X dX1_distance_23 rfl 0 rfl ?_
    refine oz_aload_n X dX1_distance_24 rfl 1 rfl ?_
    refine oz_getS X hin (j := 16) rfl lk159 dX1_distance_25 ?_
    refine oz_isub X dX1_distance_28 ?_
    exact oz_iret X rfl hr (by omega) dX1_distance_29
  · refine oz_aload_n X dX1_distance_14 rfl 1 rfl ?_
    refine oz_getS X hin (j := 16) rfl lk159 dX1_distance_15 ?_
    refine oz_iload_n X dX1_distance_18 rfl 0 rfl ?_
    refine oz_isub X dX1_distance_19 ?_
    refine oz_goto X (tgt := 29) dX1_distance_20 (by decide) ?_
    exact oz_iret X rfl hr (by omega) dX1_distance_29

/-! AlmsKernelModel.nearest -/
def FX1_nearest_j85 (k4 : Int32 → Int32 → ST → Option Res) (x1 x2 x4 y0 : Int32) (st : ST) : Option Res := (if x4 = 0 then (if y0 = 0 then (k4 x1 (x2 + 1) st) else (k4 x2 (x2 + 1) st)) else (k4 x2 (x2 + 1) st))
def FX1_nearest_j84 (k4 : Int32 → Int32 → ST → Option Res) (x1 x2 x4 : Int32) (st : ST) : Option Res := (FX1_nearest_j85 k4 x1 x2 x4 0 st)
def FX1_nearest_j43 (k4 : Int32 → Int32 → ST → Option Res) (x1 x2 x3 y0 : Int32) (st : ST) : Option Res := (if x3 = 0 then (FX1_nearest_j84 k4 x1 x2 y0 st) else (if x1 = (-1) then (FX1_nearest_j84 k4 x1 x2 y0 st) else bnd (FX1_distance x2 st) (fun r8 s8 => bnd (FX1_distance x1 s8) (fun r9 s9 => (if r8 = r9 then bnd (FX1_trackOf x2 s9) (fun r11 s11 => bnd (FX1_trackOf x1 s11) (fun r12 s12 => (if r12 ≤ r11 then (FX1_nearest_j84 k4 x1 x2 y0 s12) else (FX1_nearest_j85 k4 x1 x2 y0 1 s12)))) else (FX1_nearest_j84 k4 x1 x2 y0 s9))))))
def FX1_nearest_j42 (k4 : Int32 → Int32 → ST → Option Res) (x1 x2 x3 : Int32) (st : ST) : Option Res := (FX1_nearest_j43 k4 x1 x2 x3 0 st)
def FX1_nearest_w4 : Nat → Int32 → Int32 → ST → Option Res
  | 0, _, _, _ => none
  | n + 1, x1, x2, st => (if 12 ≤ x2 then some (0, x1, st) else bnd (FX1_isComing x2 st) (fun r17 s17 => (if r17 = 0 then (FX1_nearest_j42 (FX1_nearest_w4 n) x1 x2 r17 s17) else (if x1 = (-1) then (FX1_nearest_j43 (FX1_nearest_w4 n) x1 x2 r17 1 s17) else bnd (FX1_distance x2 s17) (fun r20 s20 => bnd (FX1_distance x1 s20) (fun r21 s21 => (if r21 ≤ r20 then (FX1_nearest_j42 (FX1_nearest_w4 n) x1 x2 r17 s21) else (FX1_nearest_j43 (FX1_nearest_w4 n) x1 x2 r17 1 s21))))))))
def FX1_nearest (st : ST) : Option Res := (FX1_nearest_w4 300 (-1) 0 st)
def rmX1_nearest : Room := { frames := 3, cells := 0, slots := 0, locals := 64 }
theorem hX1_nearest : yX1_nearest.cls = RX1 ∧ yX1_nearest.cls ≠ "java/lang/invoke/MethodHandle" ∧ yX1_nearest.cls ≠ "java/lang/invoke/VarHandle" ∧ (parseMethodDescriptor yX1_nearest.desc).map (fun d => d.parameters.length) = some 0 := by decide +kernel
set_option maxHeartbeats 4000000 in
set_option maxRecDepth 100000 in
theorem mX1_nearest (l : Launch) (hst : l.stackTraces = false) (D : va_G) (cI cZ : ClassId) (ad : Nat → Nat) : oz_MI l yX1_nearest wsX1_nearest rmX1_nearest D cI cZ RX1 1 oz_KSX1 ad oz_lyX1 0 [.ref (ad 0)] (FX1_nearest) := by
  refine oz_ofI (bytes := cX1_nearest) (maxL := 6) (ret := (some .int)) (T := TX1) (N := 19) (by decide) rfl rfl oz_CX1 hst (Nat.le_of_ble_eq_true rfl) ?_
  intro p e s m below meth c st A res G hr X
  have hc85 : ∀ (k4 : Int32 → Int32 → ST → Option Res) (hk4 : ∀ (k : Nat), k ≤ 0 → ∀ (x1 x2 : Int32) (st : ST), G k 4 [(0, .ref (ad 0)), (1, .int x1), (2, .int x2)] [] st (k4 x1 x2 st)) (k : Nat), k ≤ 0 → ∀ (x1 x2 x4 y0 : Int32) (st : ST), G k 85 [(0, .ref (ad 0)), (1, .int x1), (2, .int x2), (4, .int x4)] [.int y0] st (FX1_nearest_j85 k4 x1 x2 x4 y0 st) := by
    intro k4 hk4 k hk x1 x2 x4 y0 st
    unfold FX1_nearest_j85
    refine oz_istore X (L2 := [(5, .int y0), (0, .ref (ad 0)), (1, .int x1), (2, .int x2), (4, .int x4)]) dX1_nearest_85 (by decide) rfl ?_
    refine oz_iload X dX1_nearest_87 4 rfl ?_
    refine oz_if_ne X (tgt := 97) dX1_nearest_89 (by decide) (fun q2 => ?_) (fun q2 => ?_)
    · refine oz_iload_n X dX1_nearest_97 rfl 3 rfl ?_
      refine oz_goto X (tgt := 102) dX1_nearest_98 (by decide) ?_
      refine oz_istore_n X (L2 := [(1, .int x2), (5, .int y0), (0, .ref (ad 0)), (2, .int x2), (4, .int x4)]) dX1_nearest_102 rfl (by decide) rfl ?_
      refine oz_iinc X (q := 3) (v := x2 + 1) (L2 := [(2, .int (x2 + 1)), (1, .int x2), (5, .int y0), (0, .ref (ad 0)), (4, .int x4)]) dX1_nearest_103 rfl rfl (by decide) rfl ?_
      refine oz_goto X (tgt := 4) dX1_nearest_106 (by decide) ?_
      exact oz_sub X [3, 1, 0] (L2 := [(0, .ref (ad 0)), (1, .int x2), (2, .int (x2 + 1))]) rfl (hk4 _ (by omega) x2 (x2 + 1) st)
    · refine oz_iload X dX1_nearest_92 0 rfl ?_
      refine oz_if_eq X (tgt := 101) dX1_nearest_94 (by decide) (fun q3 => ?_) (fun q3 => ?_)
      · refine oz_iload_n X dX1_nearest_101 rfl 2 rfl ?_
        refine oz_istore_n X (L2 := [(1, .int x1), (5, .int y0), (0, .ref (ad 0)), (2, .int x2), (4, .int x4)]) dX1_nearest_102 rfl (by decide) rfl ?_
        refine oz_iinc X (q := 3) (v := x2 + 1) (L2 := [(2, .int (x2 + 1)), (1, .int x1), (5, .int y0), (0, .ref (ad 0)), (4, .int x4)]) dX1_nearest_103 rfl rfl (by decide) rfl ?_
        refine oz_goto X (tgt := 4) dX1_nearest_106 (by decide) ?_
        exact oz_sub X [3, 1, 0] (L2 := [(0, .ref (ad 0)), (1, .int x1), (2, .int (x2 + 1))]) rfl (hk4 _ (by omega) x1 (x2 + 1) st)
      · refine oz_iload_n X dX1_nearest_97 rfl 3 rfl ?_
        refine oz_goto X (tgt := 102) dX1_nearest_98 (by decide) ?_
        refine oz_istore_n X (L2 := [(1, .int x2), (5, .int y0), (0, .ref (ad 0)), (2, .int x2), (4, .int x4)]) dX1_nearest_102 rfl (by decide) rfl ?_
        refine oz_iinc X (q := 3) (v := x2 + 1) (L2 := [(2, .int (x2 + 1)), (1, .int x2), (5, .int y0), (0, .ref (ad 0)), (4, .int x4)]) dX1_nearest_103 rfl rfl (by decide) rfl ?_
        refine oz_goto X (tgt := 4) dX1_nearest_106 (by decide) ?_
        exact oz_sub X [3, 1, 0] (L2 := [(0, .ref (ad 0)), (1, .int x2), (2, .int (x2 + 1))]) rfl (hk4 _ (by omega) x2 (x2 + 1) st)
  have hc84 : ∀ (k4 : Int32 → Int32 → ST → Option Res) (hk4 : ∀ (k : Nat), k ≤ 0 → ∀ (x1 x2 : Int32) (st : ST), G k 4 [(0, .ref (ad 0)), (1, .int x1), (2, .int x2)] [] st (k4 x1 x2 st)) (k : Nat), k ≤ 0 → ∀ (x1 x2 x4 : Int32) (st : ST), G k 84 [(0, .ref (ad 0)), (1, .int x1), (2, .int x2), (4, .int x4)] [] st (FX1_nearest_j84 k4 x1 x2 x4 st) := by
    intro k4 hk4 k hk x1 x2 x4 st
    unfold FX1_nearest_j84
    refine oz_iconst X (v := 0) dX1_nearest_84 (by decide) ?_
    exact oz_sub X [0, 1, 2, 3] (L2 := [(0, .ref (ad 0)), (1, .int x1), (2, .int x2), (4, .int x4)]) rfl (hc85 k4 hk4 _ (by omega) x1 x2 x4 0 st)
  have hc43 : ∀ (k4 : Int32 → Int32 → ST → Option Res) (hk4 : ∀ (k : Nat), k ≤ 0 → ∀ (x1 x2 : Int32) (st : ST), G k 4 [(0, .ref (ad 0)), (1, .int x1), (2, .int x2)] [] st (k4 x1 x2 st)) (k : Nat), k ≤ 0 → ∀ (x1 x2 x3 y0 : Int32) (st : ST), G k 43 [(0, .ref (ad 0)), (1, .int x1), (2, .int x2), (3, .int x3)] [.int y0] st (FX1_nearest_j43 k4 x1 x2 x3 y0 st) := by
    intro k4 hk4 k hk x1 x2 x3 y0 st
    unfold FX1_nearest_j43
    refine oz_istore X (L2 := [(4, .int y0), (0, .ref (ad 0)), (1, .int x1), (2, .int x2), (3, .int x3)]) dX1_nearest_43 (by decide) rfl ?_
    refine oz_iload_n X dX1_nearest_45 rfl 4 rfl ?_
    refine oz_if_eq X (tgt := 84) dX1_nearest_46 (by decide) (fun q6 => ?_) (fun q6 => ?_)
    · exact oz_sub X [1, 2, 3, 0] (L2 := [(0, .ref (ad 0)), (1, .int x1), (2, .int x2), (4, .int y0)]) rfl (hc84 k4 hk4 _ (by omega) x1 x2 y0 st)
    · refine oz_iload_n X dX1_nearest_49 rfl 2 rfl ?_
      refine oz_iconst X (v := (-1)) dX1_nearest_50 (by decide) ?_
      refine oz_icmp_eq X (tgt := 84) dX1_nearest_51 (by decide) (fun q7 => ?_) (fun q7 => ?_)
      · exact oz_sub X [1, 2, 3, 0] (L2 := [(0, .ref (ad 0)), (1, .int x1), (2, .int x2), (4, .int y0)]) rfl (hc84 k4 hk4 _ (by omega) x1 x2 y0 st)
      · refine oz_aload_n X dX1_nearest_54 rfl 1 rfl ?_
        refine oz_iload_n X dX1_nearest_55 rfl 3 rfl ?_
        refine oz_callV X rfl (As := [.int x2]) (S := []) (mX1_distance l hst D cI cZ ad x2) gX1_nearest_X1_distance rfl rfl rfl hX1_distance ⟨by decide, by decide⟩ rfl rfl (Nat.le_of_ble_eq_true rfl) dX1_nearest_56 (by omega) (by decide) (by decide) (fun r8 s8 => ?_)
        refine oz_aload_n X dX1_nearest_59 rfl 1 rfl ?_
        refine oz_iload_n X dX1_nearest_60 rfl 2 rfl ?_
        refine oz_callV X rfl (As := [.int x1]) (S := [.int r8]) (mX1_distance l hst D cI cZ ad x1) gX1_nearest_X1_distance rfl rfl rfl hX1_distance ⟨by decide, by decide⟩ rfl rfl (Nat.le_of_ble_eq_true rfl) dX1_nearest_61 (by omega) (by decide) (by decide) (fun r9 s9 => ?_)
        refine oz_icmp_ne X (tgt := 84) dX1_nearest_64 (by decide) (fun q10 => ?_) (fun q10 => ?_)
        · exact oz_sub X [1, 2, 3, 0] (L2 := [(0, .ref (ad 0)), (1, .int x1), (2, .int x2), (4, .int y0)]) rfl (hc84 k4 hk4 _ (by omega) x1 x2 y0 s9)
        · refine oz_aload_n X dX1_nearest_67 rfl 1 rfl ?_
          refine oz_iload_n X dX1_nearest_68 rfl 3 rfl ?_
          refine oz_callV X rfl (As := [.int x2]) (S := []) (mX1_trackOf l hst D cI cZ ad x2) gX1_nearest_X1_trackOf rfl rfl rfl hX1_trackOf ⟨by decide, by decide⟩ rfl rfl (Nat.le_of_ble_eq_true rfl) dX1_nearest_69 (by omega) (by decide) (by decide) (fun r11 s11 => ?_)
          refine oz_aload_n X dX1_nearest_72 rfl 1 rfl ?_
          refine oz_iload_n X dX1_nearest_73 rfl 2 rfl ?_
          refine oz_callV X rfl (As := [.int x1]) (S := [.int r11]) (mX1_trackOf l hst D cI cZ ad x1) gX1_nearest_X1_trackOf rfl rfl rfl hX1_trackOf ⟨by decide, by decide⟩ rfl rfl (Nat.le_of_ble_eq_true rfl) dX1_nearest_74 (by omega) (by decide) (by decide) (fun r12 s12 => ?_)
          refine oz_icmp_ge X (tgt := 84) dX1_nearest_77 (by decide) (fun q13 => ?_) (fun q13 => ?_)
          · exact oz_sub X [1, 2, 3, 0] (L2 := [(0, .ref (ad 0)), (1, .int x1), (2, .int x2), (4, .int y0)]) rfl (hc84 k4 hk4 _ (by omega) x1 x2 y0 s12)
          · refine oz_iconst X (v := 1) dX1_nearest_80 (by decide) ?_
            refine oz_goto X (tgt := 85) dX1_nearest_81 (by decide) ?_
            exact oz_sub X [1, 2, 3, 0] (L2 := [(0, .ref (ad 0)), (1, .int x1), (2, .int x2), (4, .int y0)]) rfl (hc85 k4 hk4 _ (by omega) x1 x2 y0 1 s12)
  have hc42 : ∀ (k4 : Int32 → Int32 → ST → Option Res) (hk4 : ∀ (k : Nat), k ≤ 0 → ∀ (x1 x2 : Int32) (st : ST), G k 4 [(0, .ref (ad 0)), (1, .int x1), (2, .int x2)] [] st (k4 x1 x2 st)) (k : Nat), k ≤ 0 → ∀ (x1 x2 x3 : Int32) (st : ST), G k 42 [(0, .ref (ad 0)), (1, .int x1), (2, .int x2), (3, .int x3)] [] st (FX1_nearest_j42 k4 x1 x2 x3 st) := by
    intro k4 hk4 k hk x1 x2 x3 st
    unfold FX1_nearest_j42
    refine oz_iconst X (v := 0) dX1_nearest_42 (by decide) ?_
    exact oz_sub X [0, 1, 2, 3] (L2 := [(0, .ref (ad 0)), (1, .int x1), (2, .int x2), (3, .int x3)]) rfl (hc43 k4 hk4 _ (by omega) x1 x2 x3 0 st)
  have hc4 : ∀ (n k : Nat), k ≤ 0 → ∀ (x1 x2 : Int32) (st : ST), G k 4 [(0, .ref (ad 0)), (1, .int x1), (2, .int x2)] [] st (FX1_nearest_w4 n x1 x2 st) := by
    intro n
    induction n with
    | zero => intros; exact oz_none X
    | succ n ih =>
      intro k hk x1 x2 st
      rw [FX1_nearest_w4]
      refine oz_iload_n X dX1_nearest_4 rfl 2 rfl ?_
      refine oz_bipush X (v := 12) dX1_nearest_5 (by decide) ?_
      refine oz_icmp_ge X (tgt := 109) dX1_nearest_7 (by decide) (fun q16 => ?_) (fun q16 => ?_)
      · refine oz_iload_n X dX1_nearest_109 rfl 1 rfl ?_
        exact oz_iret X rfl hr (by omega) dX1_nearest_110
      · refine oz_aload_n X dX1_nearest_10 rfl 0 rfl ?_
        refine oz_iload_n X dX1_nearest_11 rfl 2 rfl ?_
        refine oz_callV X rfl (As := [.int x2]) (S := []) (mX1_isComing l hst D cI cZ ad x2) gX1_nearest_X1_isComing rfl rfl rfl hX1_isComing ⟨by decide, by decide⟩ rfl rfl (Nat.le_of_ble_eq_true rfl) dX1_nearest_12 (by omega) (by decide) (by decide) (fun r17 s17 => ?_)
        refine oz_istore_n X (L2 := [(3, .int r17), (0, .ref (ad 0)), (1, .int x1), (2, .int x2)]) dX1_nearest_15 rfl (by decide) rfl ?_
        refine oz_iload_n X dX1_nearest_16 rfl 0 rfl ?_
        refine oz_if_eq X (tgt := 42) dX1_nearest_17 (by decide) (fun q18 => ?_) (fun q18 => ?_)
        · exact oz_sub X [1, 2, 3, 0] (L2 := [(0, .ref (ad 0)), (1, .int x1), (2, .int x2), (3, .int r17)]) rfl (hc42 (FX1_nearest_w4 n) ih _ (by omega) x1 x2 r17 s17)
        · refine oz_iload_n X dX1_nearest_20 rfl 2 rfl ?_
          refine oz_iconst X (v := (-1)) dX1_nearest_21 (by decide) ?_
          refine oz_icmp_eq X (tgt := 38) dX1_nearest_22 (by decide) (fun q19 => ?_) (fun q19 => ?_)
          · refine oz_iconst X (v := 1) dX1_nearest_38 (by decide) ?_
            refine oz_goto X (tgt := 43) dX1_nearest_39 (by decide) ?_
            exact oz_sub X [1, 2, 3, 0] (L2 := [(0, .ref (ad 0)), (1, .int x1), (2, .int x2), (3, .int r17)]) rfl (hc43 (FX1_nearest_w4 n) ih _ (by omega) x1 x2 r17 1 s17)
          · refine oz_aload_n X dX1_nearest_25 rfl 1 rfl ?_
            refine oz_iload_n X dX1_nearest_26 rfl 3 rfl ?_
            refine oz_callV X rfl (As := [.int x2]) (S := []) (mX1_distance l hst D cI cZ ad x2) gX1_nearest_X1_distance rfl rfl rfl hX1_distance ⟨by decide, by decide⟩ rfl rfl (Nat.le_of_ble_eq_true rfl) dX1_nearest_27 (by omega) (by decide) (by decide) (fun r20 s20 => ?_)
            refine oz_aload_n X dX1_nearest_30 rfl 1 rfl ?_
            refine oz_iload_n X dX1_nearest_31 rfl 2 rfl ?_
            refine oz_callV X rfl (As := [.int x1]) (S := [.int r20]) (mX1_distance l hst D cI cZ ad x1) gX1_nearest_X1_distance rfl rfl rfl hX1_distance ⟨by decide, by decide⟩ rfl rfl (Nat.le_of_ble_eq_true rfl) dX1_nearest_32 (by omega) (by decide) (by decide) (fun r21 s21 => ?_)
            refine oz_icmp_ge X (tgt := 42) dX1_nearest_35 (by decide) (fun q22 => ?_) (fun q22 => ?_)
            · exact oz_sub X [1, 2, 3, 0] (L2 := [(0, .ref (ad 0)), (1, .int x1), (2, .int x2), (3, .int r17)]) rfl (hc42 (FX1_nearest_w4 n) ih _ (by omega) x1 x2 r17 s21)
            · refine oz_iconst X (v := 1) dX1_nearest_38 (by decide) ?_
              refine oz_goto X (tgt := 43) dX1_nearest_39 (by decide) ?_
              exact oz_sub X [1, 2, 3, 0] (L2 := [(0, .ref (ad 0)), (1, .int x1), (2, .int x2), (3, .int r17)]) rfl (hc43 (FX1_nearest_w4 n) ih _ (by omega) x1 x2 r17 1 s21)
  show G 0 0 [(0, .ref (ad 0))] [] st (FX1_nearest st)
  unfold FX1_nearest
  refine oz_iconst X (v := (-1)) dX1_nearest_0 (by decide) ?_
  refine oz_istore_n X (L2 := [(1, .int (-1)), (0, .ref (ad 0))]) dX1_nearest_1 rfl (by decide) rfl ?_
  refine oz_iconst X (v := 0) dX1_nearest_2 (by decide) ?_
  refine oz_istore_n X (L2 := [(2, .int 0), (1, .int (-1)), (0, .ref (ad 0))]) dX1_nearest_3 rfl (by decide) rfl ?_
  exact oz_sub X [2, 1, 0] (L2 := [(0, .ref (ad 0)), (1, .int (-1)), (2, .int 0)]) rfl (hc4 300 _ (by omega) (-1) 0 st)

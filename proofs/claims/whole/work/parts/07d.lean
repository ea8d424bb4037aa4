/-! AlmsKernelModel.turns -/
def FX1_turns_j71 (x1 y0 y1 : Int32) (st : ST) : Option Res := stp (oz_se st 0 16 (y1 + y0)) (fun s2 => (if s2 0 16 = x1 then gd (oz_in (s2 0 17) 12) (stp (oz_se s2 5 (s2 0 17).toNatClampNeg 1) (fun s4 => gd (oz_in (s4 0 17) 12) (stp (oz_se s4 6 (s4 0 17).toNatClampNeg (s4 0 0)) (fun s5 => bnd (FX1_holderOf (s5 0 17) s5) (fun r6 s6 => gd (oz_in r6 5) (stp (oz_se s6 10 r6.toNatClampNeg 0) (fun s7 => stp (oz_se s7 0 17 (-1)) (fun s8 => some (0, 0, s8))))))))) else some (0, 0, s2)))
def FX1_turns_j20 (y0 : Int32) (st : ST) : Option Res := stp (oz_se st 0 17 y0) (fun s10 => (if s10 0 17 = (-1) then some (0, 0, s10) else bnd (FX1_trackOf (s10 0 17) s10) (fun r12 s12 => (if r12 ≤ s12 0 16 then (if s12 0 16 ≤ r12 then (FX1_turns_j71 r12 0 (s12 0 16) s12) else (FX1_turns_j71 r12 (-1) (s12 0 16) s12)) else (FX1_turns_j71 r12 1 (s12 0 16) s12)))))
def FX1_turns (st : ST) : Option Res := (if st 0 17 = (-1) then bnd (FX1_nearest st) (fun r16 s16 => (FX1_turns_j20 r16 s16)) else (FX1_turns_j20 (st 0 17) st))
def rmX1_turns : Room := { frames := 4, cells := 0, slots := 0, locals := 89 }
theorem hX1_turns : yX1_turns.cls = RX1 ∧ yX1_turns.cls ≠ "java/lang/invoke/MethodHandle" ∧ yX1_turns.cls ≠ "java/lang/invoke/VarHandle" ∧ (parseMethodDescriptor yX1_turns.desc).map (fun d => d.parameters.length) = some 0 := by decide +kernel
theorem lkX1_turns_20 : Cond.fieldLink RX1 20 RX1 (TX1 4).2.1 (TX1 4).2.2.1 ∈ wsX1_turns := by decide +kernel
theorem lkX1_turns_24 : Cond.fieldLink RX1 24 RX1 (TX1 5).2.1 (TX1 5).2.2.1 ∈ wsX1_turns := by decide +kernel
theorem lkX1_turns_36 : Cond.fieldLink RX1 36 RX1 (TX1 9).2.1 (TX1 9).2.2.1 ∈ wsX1_turns := by decide +kernel
theorem lkX1_turns_54 : Cond.fieldLink RX1 54 RX1 (TX1 17).2.1 (TX1 17).2.2.1 ∈ wsX1_turns := by decide +kernel
theorem lkX1_turns_71 : Cond.fieldLink RX1 71 RX1 (TX1 0).2.1 (TX1 0).2.2.1 ∈ wsX1_turns := by decide +kernel
theorem lkX1_turns_159 : Cond.fieldLink RX1 159 RX1 (TX1 16).2.1 (TX1 16).2.2.1 ∈ wsX1_turns := by decide +kernel
set_option maxHeartbeats 4000000 in
set_option maxRecDepth 100000 in
theorem mX1_turns (l : Launch) (hst : l.stackTraces = false) (D : va_G) (cI cZ : ClassId) (ad : Nat → Nat) : oz_MV l yX1_turns wsX1_turns rmX1_turns D cI cZ RX1 1 oz_KSX1 ad oz_lyX1 0 [.ref (ad 0)] (FX1_turns) := by
  refine oz_ofV (bytes := cX1_turns) (maxL := 2) (ret := none) (T := TX1) (N := 19) (by decide) rfl rfl oz_CX1 hst (Nat.le_of_ble_eq_true rfl) ?_
  intro p e s m below meth c st A res G hr X
  have hin : ∀ w ∈ u_ws RX1 TX1 19, w ∈ wsX1_turns := fun w h => List.mem_cons_of_mem _ (List.mem_append_right _ h)
  have lk20 := lkX1_turns_20
  have lk24 := lkX1_turns_24
  have lk36 := lkX1_turns_36
  have lk54 := lkX1_turns_54
  have lk71 := lkX1_turns_71
  have lk159 := lkX1_turns_159
  have hc71 : ∀ (k : Nat), k ≤ 0 → ∀ (x1 y0 y1 : Int32) (st : ST), G k 71 [(0, .ref (ad 0)), (1, .int x1)] [.int y0, .int y1, .ref (ad 0)] st (FX1_turns_j71 x1 y0 y1 st) := by
    intro k hk x1 y0 y1 st
    unfold FX1_turns_j71
    refine oz_iadd X dX1_turns_71 ?_
    refine oz_putS X hin (j := 16) rfl lk159 dX1_turns_72 (fun s2 e2 => ?_)
    refine oz_aload_n X dX1_turns_75 rfl 0 rfl ?_
    refine oz_getS X hin (j := 16) rfl lk159 dX1_turns_76 ?_
    refine oz_iload_n X dX1_turns_79 rfl 1 rfl ?_
    refine oz_icmp_ne X (tgt := 125) dX1_turns_80 (by decide) (fun q3 => ?_) (fun q3 => ?_)
    · exact oz_vret X rfl hr (by omega) dX1_turns_125
    · refine oz_aload_n X dX1_turns_83 rfl 0 rfl ?_
      refine oz_getA X hin (j := 4) rfl lk20 dX1_turns_84 ?_
      refine oz_aload_n X dX1_turns_87 rfl 0 rfl ?_
      refine oz_getS X hin (j := 17) rfl lk54 dX1_turns_88 ?_
      refine oz_iconst X (v := 1) dX1_turns_91 (by decide) ?_
      refine oz_zast X (j := 4) (v2 := 1) rfl (by decide) rfl dX1_turns_92 (fun s4 e4 g4 => ?_)
      refine oz_aload_n X dX1_turns_93 rfl 0 rfl ?_
      refine oz_getA X hin (j := 5) rfl lk24 dX1_turns_94 ?_
      refine oz_aload_n X dX1_turns_97 rfl 0 rfl ?_
      refine oz_getS X hin (j := 17) rfl lk54 dX1_turns_98 ?_
      refine oz_aload_n X dX1_turns_101 rfl 0 rfl ?_
      refine oz_getS X hin (j := 0) rfl lk71 dX1_turns_102 ?_
      refine oz_iast X (j := 5) rfl (by decide) dX1_turns_105 (fun s5 e5 g5 => ?_)
      refine oz_aload_n X dX1_turns_106 rfl 0 rfl ?_
      refine oz_getA X hin (j := 9) rfl lk36 dX1_turns_107 ?_
      refine oz_aload_n X dX1_turns_110 rfl 0 rfl ?_
      refine oz_aload_n X dX1_turns_111 rfl 0 rfl ?_
      refine oz_getS X hin (j := 17) rfl lk54 dX1_turns_112 ?_
      refine oz_callV X rfl (As := [.int (s5 0 17)]) (S := [.ref (ad 10)]) (mX1_holderOf l hst D cI cZ ad (s5 0 17)) gX1_turns_X1_holderOf rfl rfl rfl hX1_holderOf ⟨by decide, by decide⟩ rfl rfl (Nat.le_of_ble_eq_true rfl) dX1_turns_115 (by omega) (by decide) (by decide) (fun r6 s6 => ?_)
      refine oz_iconst X (v := 0) dX1_turns_118 (by decide) ?_
      refine oz_iast X (j := 9) rfl (by decide) dX1_turns_119 (fun s7 e7 g7 => ?_)
      refine oz_aload_n X dX1_turns_120 rfl 0 rfl ?_
      refine oz_iconst X (v := (-1)) dX1_turns_121 (by decide) ?_
      refine oz_putS X hin (j := 17) rfl lk54 dX1_turns_122 (fun s8 e8 => ?_)
      exact oz_vret X rfl hr (by omega) dX1_turns_125
  have hc20 : ∀ (k : Nat), k ≤ 0 → ∀ (y0 : Int32) (st : ST), G k 20 [(0, .ref (ad 0))] [.int y0, .ref (ad 0)] st (FX1_turns_j20 y0 st) := by
    intro k hk y0 st
    unfold FX1_turns_j20
    refine oz_putS X hin (j := 17) rfl lk54 dX1_turns_20 (fun s10 e10 => ?_)
    refine oz_aload_n X dX1_turns_23 rfl 0 rfl ?_
    refine oz_getS X hin (j := 17) rfl lk54 dX1_turns_24 ?_
    refine oz_iconst X (v := (-1)) dX1_turns_27 (by decide) ?_
    refine oz_icmp_ne X (tgt := 32) dX1_turns_28 (by decide) (fun q11 => ?_) (fun q11 => ?_)
    · refine oz_aload_n X dX1_turns_32 rfl 0 rfl ?_
      refine oz_aload_n X dX1_turns_33 rfl 0 rfl ?_
      refine oz_getS X hin (j := 17) rfl lk54 dX1_turns_34 ?_
      refine oz_callV X rfl (As := [.int (s10 0 17)]) (S := []) (mX1_trackOf l hst D cI cZ ad (s10 0 17)) gX1_turns_X1_trackOf rfl rfl rfl hX1_trackOf ⟨by decide, by decide⟩ rfl rfl (Nat.le_of_ble_eq_true rfl) dX1_turns_37 (by omega) (by decide) (by decide) (fun r12 s12 => ?_)
      refine oz_istore_n X (L2 := [(1, .int r12), (0, .ref (ad 0))]) dX1_turns_40 rfl (by decide) rfl ?_
      refine oz_aload_n X dX1_turns_41 rfl 1 rfl ?_
      refine oz_dup X dX1_turns_42 rfl ?_
      refine oz_getS X hin (j := 16) rfl lk159 dX1_turns_43 ?_
      refine oz_iload_n X dX1_turns_46 rfl 0 rfl ?_
      refine oz_aload_n X dX1_turns_47 rfl 1 rfl ?_
      refine oz_getS X hin (j := 16) rfl lk159 dX1_turns_48 ?_
      refine oz_icmp_le X (tgt := 58) dX1_turns_51 (by decide) (fun q13 => ?_) (fun q13 => ?_)
      · refine oz_iload_n X dX1_turns_58 rfl 0 rfl ?_
        refine oz_aload_n X dX1_turns_59 rfl 1 rfl ?_
        refine oz_getS X hin (j := 16) rfl lk159 dX1_turns_60 ?_
        refine oz_icmp_ge X (tgt := 70) dX1_turns_63 (by decide) (fun q14 => ?_) (fun q14 => ?_)
        · refine oz_iconst X (v := 0) dX1_turns_70 (by decide) ?_
          exact oz_sub X [1, 0] (L2 := [(0, .ref (ad 0)), (1, .int r12)]) rfl (hc71 _ (by omega) r12 0 (s12 0 16) s12)
        · refine oz_iconst X (v := (-1)) dX1_turns_66 (by decide) ?_
          refine oz_goto X (tgt := 71) dX1_turns_67 (by decide) ?_
          exact oz_sub X [1, 0] (L2 := [(0, .ref (ad 0)), (1, .int r12)]) rfl (hc71 _ (by omega) r12 (-1) (s12 0 16) s12)
      · refine oz_iconst X (v := 1) dX1_turns_54 (by decide) ?_
        refine oz_goto X (tgt := 71) dX1_turns_55 (by decide) ?_
        exact oz_sub X [1, 0] (L2 := [(0, .ref (ad 0)), (1, .int r12)]) rfl (hc71 _ (by omega) r12 1 (s12 0 16) s12)
    · exact oz_vret X rfl hr (by omega) dX1_turns_31
  show G 0 0 [(0, .ref (ad 0))] [] st (FX1_turns st)
  unfold FX1_turns
  refine oz_aload_n X dX1_turns_0 rfl 0 rfl ?_
  refine oz_aload_n X dX1_turns_1 rfl 0 rfl ?_
  refine oz_getS X hin (j := 17) rfl lk54 dX1_turns_2 ?_
  refine oz_iconst X (v := (-1)) dX1_turns_5 (by decide) ?_
  refine oz_icmp_ne X (tgt := 16) dX1_turns_6 (by decide) (fun q15 => ?_) (fun q15 => ?_)
  · refine oz_aload_n X dX1_turns_16 rfl 0 rfl ?_
    refine oz_getS X hin (j := 17) rfl lk54 dX1_turns_17 ?_
    exact oz_sub X [0] (L2 := [(0, .ref (ad 0))]) rfl (hc20 _ (by omega) (st 0 17) st)
  · refine oz_aload_n X dX1_turns_9 rfl 0 rfl ?_
    refine oz_callV X rfl (As := []) (S := [.ref (ad 0)]) (mX1_nearest l hst D cI cZ ad) gX1_turns_X1_nearest rfl rfl rfl hX1_nearest ⟨by decide, by decide⟩ rfl rfl (Nat.le_of_ble_eq_true rfl) dX1_turns_10 (by omega) (by decide) (by decide) (fun r16 s16 => ?_)
    refine oz_goto X (tgt := 20) dX1_turns_13 (by decide) ?_
    exact oz_sub X [0] (L2 := [(0, .ref (ad 0))]) rfl (hc20 _ (by omega) r16 s16)

/-! AlmsKernelModel.advance -/
def FX1_advance_j81 (k42 : Int32 → Int32 → ST → Option Res) (k49 : Int32 → Int32 → Int32 → ST → Option Res) (x1 x2 x3 y0 y1 y2 : Int32) (st : ST) : Option Res := gd (oz_in y2 5) (stp (oz_se st 9 y2.toNatClampNeg (y1 + y0)) (fun s2 => (k49 x1 x2 (x3 + 1) s2)))
def FX1_advance_w49 (k42 : Int32 → Int32 → ST → Option Res) : Nat → Int32 → Int32 → Int32 → ST → Option Res
  | 0, _, _, _, _ => none
  | n + 1, x1, x2, x3, st => (if 5 ≤ x3 then bnd (FX1_pays st) (fun _ s5 => bnd (FX1_gives s5) (fun _ s6 => bnd (FX1_turns s6) (fun _ s7 => stp (oz_se s7 0 0 ((s7 0 0) + 1)) (fun s8 => (k42 x1 (x2 + 1) s8))))) else gd (oz_in x3 5) (gd (oz_in x3 5) ((if st 10 x3.toNatClampNeg = 2 then (FX1_advance_j81 k42 (FX1_advance_w49 k42 n) x1 x2 x3 0 (st 9 x3.toNatClampNeg) x3 st) else gd (oz_in x3 5) ((FX1_advance_j81 k42 (FX1_advance_w49 k42 n) x1 x2 x3 (st 8 x3.toNatClampNeg) (st 9 x3.toNatClampNeg) x3 st))))))
def FX1_advance_w42 : Nat → Int32 → Int32 → ST → Option Res
  | 0, _, _, _ => none
  | n + 1, x1, x2, st => (if x1 ≤ x2 then some (0, st 0 0, st) else (FX1_advance_w49 (FX1_advance_w42 n) 300 x1 x2 0 st))
def FX1_advance_j32 (x1 y0 : Int32) (st : ST) : Option Res := bnd (FX1_goes y0 st) (fun r16 s16 => (if r16 = 0 then some (0, 0, s16) else (FX1_advance_w42 300 x1 0 s16)))
def FX1_advance (a1 : Int32) (st : ST) : Option Res := bnd (FX1_isIn a1 1 200 st) (fun r18 s18 => (if r18 = 0 then (FX1_advance_j32 a1 1 s18) else (if (s18 0 0) + a1 ≤ 50000 then (FX1_advance_j32 a1 0 s18) else (FX1_advance_j32 a1 2 s18))))
def rmX1_advance : Room := { frames := 5, cells := 0, slots := 0, locals := 110 }
theorem hX1_advance : yX1_advance.cls = RX1 ∧ yX1_advance.cls ≠ "java/lang/invoke/MethodHandle" ∧ yX1_advance.cls ≠ "java/lang/invoke/VarHandle" ∧ (parseMethodDescriptor yX1_advance.desc).map (fun d => d.parameters.length) = some 1 := by decide +kernel
theorem lkX1_advance_30 : Cond.fieldLink RX1 30 RX1 (TX1 7).2.1 (TX1 7).2.2.1 ∈ wsX1_advance := by decide +kernel
theorem lkX1_advance_33 : Cond.fieldLink RX1 33 RX1 (TX1 8).2.1 (TX1 8).2.2.1 ∈ wsX1_advance := by decide +kernel
theorem lkX1_advance_36 : Cond.fieldLink RX1 36 RX1 (TX1 9).2.1 (TX1 9).2.2.1 ∈ wsX1_advance := by decide +kernel
theorem lkX1_advance_71 : Cond.fieldLink RX1 71 RX1 (TX1 0).2.1 (TX1 0).2.2.1 ∈ wsX1_advance := by decide +kernel
set_option maxHeartbeats 4000000 in
set_option maxRecDepth 100000 in
theorem mX1_advance (l : Launch) (hst : l.stackTraces = false) (D : va_G) (cI cZ : ClassId) (ad : Nat → Nat) (a1 : Int32) : oz_MI l yX1_advance wsX1_advance rmX1_advance D cI cZ RX1 1 oz_KSX1 ad oz_lyX1 0 [.ref (ad 0), .int a1] (FX1_advance a1) := by
  refine oz_ofI (bytes := cX1_advance) (maxL := 4) (ret := (some .int)) (T := TX1) (N := 19) (by decide) rfl rfl oz_CX1 hst (Nat.le_of_ble_eq_true rfl) ?_
  intro p e s m below meth c st A res G hr X
  have hin : ∀ w ∈ u_ws RX1 TX1 19, w ∈ wsX1_advance := fun w h => List.mem_cons_of_mem _ (List.mem_append_right _ h)
  have lk30 := lkX1_advance_30
  have lk33 := lkX1_advance_33
  have lk36 := lkX1_advance_36
  have lk71 := lkX1_advance_71
  have hc81 : ∀ (k42 : Int32 → Int32 → ST → Option Res) (hk42 : ∀ (k : Nat), k ≤ 0 → ∀ (x1 x2 : Int32) (st : ST), G k 42 [(0, .ref (ad 0)), (1, .int x1), (2, .int x2)] [] st (k42 x1 x2 st)) (k49 : Int32 → Int32 → Int32 → ST → Option Res) (hk49 : ∀ (k : Nat), k ≤ 0 → ∀ (x1 x2 x3 : Int32) (st : ST), G k 49 [(0, .ref (ad 0)), (1, .int x1), (2, .int x2), (3, .int x3)] [] st (k49 x1 x2 x3 st)) (k : Nat), k ≤ 0 → ∀ (x1 x2 x3 y0 y1 y2 : Int32) (st : ST), G k 81 [(0, .ref (ad 0)), (1, .int x1), (2, .int x2), (3, .int x3)] [.int y0, .int y1, .int y2, .ref (ad 9)] st (FX1_advance_j81 k42 k49 x1 x2 x3 y0 y1 y2 st) := by
    intro k42 hk42 k49 hk49 k hk x1 x2 x3 y0 y1 y2 st
    unfold FX1_advance_j81
    refine oz_iadd X dX1_advance_81 ?_
    refine oz_iast X (j := 8) rfl (by decide) dX1_advance_82 (fun s2 e2 g2 => ?_)
    refine oz_iinc X (q := 3) (v := x3 + 1) (L2 := [(3, .int (x3 + 1)), (0, .ref (ad 0)), (1, .int x1), (2, .int x2)]) dX1_advance_83 rfl rfl (by decide) rfl ?_
    refine oz_goto X (tgt := 49) dX1_advance_86 (by decide) ?_
    exact oz_sub X [1, 2, 3, 0] (L2 := [(0, .ref (ad 0)), (1, .int x1), (2, .int x2), (3, .int (x3 + 1))]) rfl (hk49 _ (by omega) x1 x2 (x3 + 1) s2)
  have hc49 : ∀ (k42 : Int32 → Int32 → ST → Option Res) (hk42 : ∀ (k : Nat), k ≤ 0 → ∀ (x1 x2 : Int32) (st : ST), G k 42 [(0, .ref (ad 0)), (1, .int x1), (2, .int x2)] [] st (k42 x1 x2 st)) (n k : Nat), k ≤ 0 → ∀ (x1 x2 x3 : Int32) (st : ST), G k 49 [(0, .ref (ad 0)), (1, .int x1), (2, .int x2), (3, .int x3)] [] st (FX1_advance_w49 k42 n x1 x2 x3 st) := by
    intro k42 hk42 n
    induction n with
    | zero => intros; exact oz_none X
    | succ n ih =>
      intro k hk x1 x2 x3 st
      rw [FX1_advance_w49]
      refine oz_iload_n X dX1_advance_49 rfl 3 rfl ?_
      refine oz_iconst X (v := 5) dX1_advance_50 (by decide) ?_
      refine oz_icmp_ge X (tgt := 89) dX1_advance_51 (by decide) (fun q4 => ?_) (fun q4 => ?_)
      · refine oz_aload_n X dX1_advance_89 rfl 0 rfl ?_
        refine oz_callVv X rfl (As := []) (S := []) (mX1_pays l hst D cI cZ ad) gX1_advance_X1_pays rfl rfl rfl hX1_pays ⟨by decide, by decide⟩ rfl rfl (Nat.le_of_ble_eq_true rfl) dX1_advance_90 (by omega) (by decide) (by decide) (fun s5 => ?_)
        refine oz_aload_n X dX1_advance_93 rfl 0 rfl ?_
        refine oz_callVv X rfl (As := []) (S := []) (mX1_gives l hst D cI cZ ad) gX1_advance_X1_gives rfl rfl rfl hX1_gives ⟨by decide, by decide⟩ rfl rfl (Nat.le_of_ble_eq_true rfl) dX1_advance_94 (by omega) (by decide) (by decide) (fun s6 => ?_)
        refine oz_aload_n X dX1_advance_97 rfl 0 rfl ?_
        refine oz_callVv X rfl (As := []) (S := []) (mX1_turns l hst D cI cZ ad) gX1_advance_X1_turns rfl rfl rfl hX1_turns ⟨by decide, by decide⟩ rfl rfl (Nat.le_of_ble_eq_true rfl) dX1_advance_98 (by omega) (by decide) (by decide) (fun s7 => ?_)
        refine oz_aload_n X dX1_advance_101 rfl 0 rfl ?_
        refine oz_dup X dX1_advance_102 rfl ?_
        refine oz_getS X hin (j := 0) rfl lk71 dX1_advance_103 ?_
        refine oz_iconst X (v := 1) dX1_advance_106 (by decide) ?_
        refine oz_iadd X dX1_advance_107 ?_
        refine oz_putS X hin (j := 0) rfl lk71 dX1_advance_108 (fun s8 e8 => ?_)
        refine oz_iinc X (q := 2) (v := x2 + 1) (L2 := [(2, .int (x2 + 1)), (0, .ref (ad 0)), (1, .int x1), (3, .int x3)]) dX1_advance_111 rfl rfl (by decide) rfl ?_
        refine oz_goto X (tgt := 42) dX1_advance_114 (by decide) ?_
        exact oz_sub X [1, 2, 0] (L2 := [(0, .ref (ad 0)), (1, .int x1), (2, .int (x2 + 1))]) rfl (hk42 _ (by omega) x1 (x2 + 1) s8)
      · refine oz_aload_n X dX1_advance_54 rfl 0 rfl ?_
        refine oz_getA X hin (j := 8) rfl lk33 dX1_advance_55 ?_
        refine oz_iload_n X dX1_advance_58 rfl 3 rfl ?_
        refine oz_dup2 X dX1_advance_59 rfl rfl ?_
        refine oz_iald X (j := 8) rfl (by decide) dX1_advance_60 (fun g9 => ?_)
        refine oz_aload_n X dX1_advance_61 rfl 0 rfl ?_
        refine oz_getA X hin (j := 9) rfl lk36 dX1_advance_62 ?_
        refine oz_iload_n X dX1_advance_65 rfl 3 rfl ?_
        refine oz_iald X (j := 9) rfl (by decide) dX1_advance_66 (fun g10 => ?_)
        refine oz_iconst X (v := 2) dX1_advance_67 (by decide) ?_
        refine oz_icmp_ne X (tgt := 75) dX1_advance_68 (by decide) (fun q11 => ?_) (fun q11 => ?_)
        · refine oz_aload_n X dX1_advance_75 rfl 0 rfl ?_
          refine oz_getA X hin (j := 7) rfl lk30 dX1_advance_76 ?_
          refine oz_iload_n X dX1_advance_79 rfl 3 rfl ?_
          refine oz_iald X (j := 7) rfl (by decide) dX1_advance_80 (fun g12 => ?_)
          exact oz_sub X [0, 1, 2, 3] (L2 := [(0, .ref (ad 0)), (1, .int x1), (2, .int x2), (3, .int x3)]) rfl (hc81 k42 hk42 (FX1_advance_w49 k42 n) ih _ (by omega) x1 x2 x3 (st 8 x3.toNatClampNeg) (st 9 x3.toNatClampNeg) x3 st)
        · refine oz_iconst X (v := 0) dX1_advance_71 (by decide) ?_
          refine oz_goto X (tgt := 81) dX1_advance_72 (by decide) ?_
          exact oz_sub X [0, 1, 2, 3] (L2 := [(0, .ref (ad 0)), (1, .int x1), (2, .int x2), (3, .int x3)]) rfl (hc81 k42 hk42 (FX1_advance_w49 k42 n) ih _ (by omega) x1 x2 x3 0 (st 9 x3.toNatClampNeg) x3 st)
  have hc42 : ∀ (n k : Nat), k ≤ 0 → ∀ (x1 x2 : Int32) (st : ST), G k 42 [(0, .ref (ad 0)), (1, .int x1), (2, .int x2)] [] st (FX1_advance_w42 n x1 x2 st) := by
    intro n
    induction n with
    | zero => intros; exact oz_none X
    | succ n ih =>
      intro k hk x1 x2 st
      rw [FX1_advance_w42]
      refine oz_iload_n X dX1_advance_42 rfl 2 rfl ?_
      refine oz_iload_n X dX1_advance_43 rfl 1 rfl ?_
      refine oz_icmp_ge X (tgt := 117) dX1_advance_44 (by decide) (fun q14 => ?_) (fun q14 => ?_)
      · refine oz_aload_n X dX1_advance_117 rfl 0 rfl ?_
        refine oz_getS X hin (j := 0) rfl lk71 dX1_advance_118 ?_
        exact oz_iret X rfl hr (by omega) dX1_advance_121
      · refine oz_iconst X (v := 0) dX1_advance_47 (by decide) ?_
        refine oz_istore_n X (L2 := [(3, .int 0), (0, .ref (ad 0)), (1, .int x1), (2, .int x2)]) dX1_advance_48 rfl (by decide) rfl ?_
        exact oz_sub X [1, 2, 3, 0] (L2 := [(0, .ref (ad 0)), (1, .int x1), (2, .int x2), (3, .int 0)]) rfl (hc49 (FX1_advance_w42 n) ih 300 _ (by omega) x1 x2 0 st)
  have hc32 : ∀ (k : Nat), k ≤ 0 → ∀ (x1 y0 : Int32) (st : ST), G k 32 [(0, .ref (ad 0)), (1, .int x1)] [.int y0, .ref (ad 0)] st (FX1_advance_j32 x1 y0 st) := by
    intro k hk x1 y0 st
    unfold FX1_advance_j32
    refine oz_callV X rfl (As := [.int y0]) (S := []) (mX1_goes l hst D cI cZ ad y0) gX1_advance_X1_goes rfl rfl rfl hX1_goes ⟨by decide, by decide⟩ rfl rfl (Nat.le_of_ble_eq_true rfl) dX1_advance_32 (by omega) (by decide) (by decide) (fun r16 s16 => ?_)
    refine oz_if_ne X (tgt := 40) dX1_advance_35 (by decide) (fun q17 => ?_) (fun q17 => ?_)
    · refine oz_iconst X (v := 0) dX1_advance_40 (by decide) ?_
      refine oz_istore_n X (L2 := [(2, .int 0), (0, .ref (ad 0)), (1, .int x1)]) dX1_advance_41 rfl (by decide) rfl ?_
      exact oz_sub X [1, 2, 0] (L2 := [(0, .ref (ad 0)), (1, .int x1), (2, .int 0)]) rfl (hc42 300 _ (by omega) x1 0 s16)
    · refine oz_iconst X (v := 0) dX1_advance_38 (by decide) ?_
      exact oz_iret X rfl hr (by omega) dX1_advance_39
  show G 0 0 [(0, .ref (ad 0)), (1, .int a1)] [] st (FX1_advance a1 st)
  unfold FX1_advance
  refine oz_aload_n X dX1_advance_0 rfl 0 rfl ?_
  refine oz_iload_n X dX1_advance_1 rfl 1 rfl ?_
  refine oz_iconst X (v := 1) dX1_advance_2 (by decide) ?_
  refine oz_sipush X (v := 200) dX1_advance_3 (by decide) ?_
  refine oz_callS X rfl (As := [.int a1, .int 1, .int 200]) (S := [.ref (ad 0)]) (mX1_isIn l hst D cI cZ ad a1 1 200) gX1_advance_X1_isIn rfl rfl rfl hX1_isIn ⟨by decide, by decide⟩ rfl rfl (Nat.le_of_ble_eq_true rfl) dX1_advance_6 (by omega) (by decide) (by decide) (fun r18 s18 => ?_)
  refine oz_if_ne X (tgt := 16) dX1_advance_9 (by decide) (fun q19 => ?_) (fun q19 => ?_)
  · refine oz_aload_n X dX1_advance_16 rfl 0 rfl ?_
    refine oz_getS X hin (j := 0) rfl lk71 dX1_advance_17 ?_
    refine oz_iload_n X dX1_advance_20 rfl 1 rfl ?_
    refine oz_iadd X dX1_advance_21 ?_
    refine oz_ldc X (v := 50000) (by decide +kernel) dX1_advance_22 ?_
    refine oz_icmp_le X (tgt := 31) dX1_advance_24 (by decide) (fun q20 => ?_) (fun q20 => ?_)
    · refine oz_iconst X (v := 0) dX1_advance_31 (by decide) ?_
      exact oz_sub X [0, 1] (L2 := [(0, .ref (ad 0)), (1, .int a1)]) rfl (hc32 _ (by omega) a1 0 s18)
    · refine oz_iconst X (v := 2) dX1_advance_27 (by decide) ?_
      refine oz_goto X (tgt := 32) dX1_advance_28 (by decide) ?_
      exact oz_sub X [0, 1] (L2 := [(0, .ref (ad 0)), (1, .int a1)]) rfl (hc32 _ (by omega) a1 2 s18)
  · refine oz_iconst X (v := 1) dX1_advance_12 (by decide) ?_
    refine oz_goto X (tgt := 32) dX1_advance_13 (by decide) ?_
    exact oz_sub X [0, 1] (L2 := [(0, .ref (ad 0)), (1, .int a1)]) rfl (hc32 _ (by omega) a1 1 s18)

/-! AlmsKernelModel.tick -/
def FX1_tick (st : ST) : Option Res := stp (oz_se st 0 18 0) (fun s1 => some (0, s1 0 0, s1))
def rmX1_tick : Room := { frames := 0, cells := 0, slots := 0, locals := 0 }
theorem hX1_tick : yX1_tick.cls = RX1 ∧ yX1_tick.cls ≠ "java/lang/invoke/MethodHandle" ∧ yX1_tick.cls ≠ "java/lang/invoke/VarHandle" ∧ (parseMethodDescriptor yX1_tick.desc).map (fun d => d.parameters.length) = some 0 := by decide +kernel
theorem lkX1_tick_57 : Cond.fieldLink RX1 57 RX1 (TX1 18).2.1 (TX1 18).2.2.1 ∈ wsX1_tick := by decide +kernel
theorem lkX1_tick_71 : Cond.fieldLink RX1 71 RX1 (TX1 0).2.1 (TX1 0).2.2.1 ∈ wsX1_tick := by decide +kernel
set_option maxHeartbeats 4000000 in
set_option maxRecDepth 100000 in
theorem mX1_tick (l : Launch) (hst : l.stackTraces = false) (D : va_G) (cI cZ : ClassId) (ad : Nat → Nat) : oz_MI l yX1_tick wsX1_tick rmX1_tick D cI cZ RX1 1 oz_KSX1 ad oz_lyX1 0 [.ref (ad 0)] (FX1_tick) := by
  refine oz_ofI (bytes := cX1_tick) (maxL := 1) (ret := (some .int)) (T := TX1) (N := 19) (by decide) rfl rfl oz_CX1 hst (Nat.le_of_ble_eq_true rfl) ?_
  intro p e s m below meth c st A res G hr X
  have hin : ∀ w ∈ u_ws RX1 TX1 19, w ∈ wsX1_tick := fun w h => List.mem_cons_of_mem _ (List.mem_append_right _ h)
  have lk57 := lkX1_tick_57
  have lk71 := lkX1_tick_71
  show G 0 0 [(0, .ref (ad 0))] [] st (FX1_tick st)
  unfold FX1_tick
  refine oz_aload_n X dX1_tick_0 rfl 0 rfl ?_
  refine oz_iconst X (v := 0) dX1_tick_1 (by decide) ?_
  refine oz_putS X hin (j := 18) rfl lk57 dX1_tick_2 (fun s1 e1 => ?_)
  refine oz_aload_n X dX1_tick_5 rfl 0 rfl ?_
  refine oz_getS X hin (j := 0) rfl lk71 dX1_tick_6 ?_
  exact oz_iret X rfl hr (by omega) dX1_tick_9

/-! AlmsKernelModel.owner -/
def FX1_owner_j13 (x1 y0 : Int32) (st : ST) : Option Res := bnd (FX1_goes y0 st) (fun r2 s2 => (if r2 = 0 then some (0, 0, s2) else gd (oz_in x1 12) (some (0, s2 3 x1.toNatClampNeg, s2))))
def FX1_owner (a1 : Int32) (st : ST) : Option Res := bnd (FX1_isFrame a1 st) (fun r5 s5 => (if r5 = 0 then (FX1_owner_j13 a1 1 s5) else (FX1_owner_j13 a1 0 s5)))
def rmX1_owner : Room := { frames := 2, cells := 0, slots := 0, locals := 42 }
theorem hX1_owner : yX1_owner.cls = RX1 ∧ yX1_owner.cls ≠ "java/lang/invoke/MethodHandle" ∧ yX1_owner.cls ≠ "java/lang/invoke/VarHandle" ∧ (parseMethodDescriptor yX1_owner.desc).map (fun d => d.parameters.length) = some 1 := by decide +kernel
theorem lkX1_owner_13 : Cond.fieldLink RX1 13 RX1 (TX1 2).2.1 (TX1 2).2.2.1 ∈ wsX1_owner := by decide +kernel
set_option maxHeartbeats 4000000 in
set_option maxRecDepth 100000 in
theorem mX1_owner (l : Launch) (hst : l.stackTraces = false) (D : va_G) (cI cZ : ClassId) (ad : Nat → Nat) (a1 : Int32) : oz_MI l yX1_owner wsX1_owner rmX1_owner D cI cZ RX1 1 oz_KSX1 ad oz_lyX1 0 [.ref (ad 0), .int a1] (FX1_owner a1) := by
  refine oz_ofI (bytes := cX1_owner) (maxL := 2) (ret := (some .int)) (T := TX1) (N := 19) (by decide) rfl rfl oz_CX1 hst (Nat.le_of_ble_eq_true rfl) ?_
  intro p e s m below meth c st A res G hr X
  have hin : ∀ w ∈ u_ws RX1 TX1 19, w ∈ wsX1_owner := fun w h => List.mem_cons_of_mem _ (List.mem_append_right _ h)
  have lk13 := lkX1_owner_13
  have hc13 : ∀ (k : Nat), k ≤ 0 → ∀ (x1 y0 : Int32) (st : ST), G k 13 [(0, .ref (ad 0)), (1, .int x1)] [.int y0, .ref (ad 0)] st (FX1_owner_j13 x1 y0 st) := by
    intro k hk x1 y0 st
    unfold FX1_owner_j13
    refine oz_callV X rfl (As := [.int y0]) (S := []) (mX1_goes l hst D cI cZ ad y0) gX1_owner_X1_goes rfl rfl rfl hX1_goes ⟨by decide, by decide⟩ rfl rfl (Nat.le_of_ble_eq_true rfl) dX1_owner_13 (by omega) (by decide) (by decide) (fun r2 s2 => ?_)
    refine oz_if_eq X (tgt := 28) dX1_owner_16 (by decide) (fun q3 => ?_) (fun q3 => ?_)
    · refine oz_iconst X (v := 0) dX1_owner_28 (by decide) ?_
      exact oz_iret X rfl hr (by omega) dX1_owner_29
    · refine oz_aload_n X dX1_owner_19 rfl 0 rfl ?_
      refine oz_getA X hin (j := 2) rfl lk13 dX1_owner_20 ?_
      refine oz_iload_n X dX1_owner_23 rfl 1 rfl ?_
      refine oz_iald X (j := 2) rfl (by decide) dX1_owner_24 (fun g4 => ?_)
      refine oz_goto X (tgt := 29) dX1_owner_25 (by decide) ?_
      exact oz_iret X rfl hr (by omega) dX1_owner_29
  show G 0 0 [(0, .ref (ad 0)), (1, .int a1)] [] st (FX1_owner a1 st)
  unfold FX1_owner
  refine oz_aload_n X dX1_owner_0 rfl 0 rfl ?_
  refine oz_iload_n X dX1_owner_1 rfl 1 rfl ?_
  refine oz_callS X rfl (As := [.int a1]) (S := [.ref (ad 0)]) (mX1_isFrame l hst D cI cZ ad a1) gX1_owner_X1_isFrame rfl rfl rfl hX1_isFrame ⟨by decide, by decide⟩ rfl rfl (Nat.le_of_ble_eq_true rfl) dX1_owner_2 (by omega) (by decide) (by decide) (fun r5 s5 => ?_)
  refine oz_if_eq X (tgt := 12) dX1_owner_5 (by decide) (fun q6 => ?_) (fun q6 => ?_)
  · refine oz_iconst X (v := 1) dX1_owner_12 (by decide) ?_
    exact oz_sub X [0, 1] (L2 := [(0, .ref (ad 0)), (1, .int a1)]) rfl (hc13 _ (by omega) a1 1 s5)
  · refine oz_iconst X (v := 0) dX1_owner_8 (by decide) ?_
    refine oz_goto X (tgt := 13) dX1_owner_9 (by decide) ?_
    exact oz_sub X [0, 1] (L2 := [(0, .ref (ad 0)), (1, .int a1)]) rfl (hc13 _ (by omega) a1 0 s5)

/-! AlmsKernelModel.holder -/
def FX1_holder_j13 (x1 y0 : Int32) (st : ST) : Option Res := bnd (FX1_goes y0 st) (fun r2 s2 => (if r2 = 0 then some (0, 0, s2) else bnd (FX1_holderOf x1 s2) (fun r4 s4 => some (0, r4, s4))))
def FX1_holder (a1 : Int32) (st : ST) : Option Res := bnd (FX1_isFrame a1 st) (fun r5 s5 => (if r5 = 0 then (FX1_holder_j13 a1 1 s5) else (FX1_holder_j13 a1 0 s5)))
def rmX1_holder : Room := { frames := 2, cells := 0, slots := 0, locals := 42 }
theorem hX1_holder : yX1_holder.cls = RX1 ∧ yX1_holder.cls ≠ "java/lang/invoke/MethodHandle" ∧ yX1_holder.cls ≠ "java/lang/invoke/VarHandle" ∧ (parseMethodDescriptor yX1_holder.desc).map (fun d => d.parameters.length) = some 1 := by decide +kernel
set_option maxHeartbeats 4000000 in
set_option maxRecDepth 100000 in
theorem mX1_holder (l : Launch) (hst : l.stackTraces = false) (D : va_G) (cI cZ : ClassId) (ad : Nat → Nat) (a1 : Int32) : oz_MI l yX1_holder wsX1_holder rmX1_holder D cI cZ RX1 1 oz_KSX1 ad oz_lyX1 0 [.ref (ad 0), .int a1] (FX1_holder a1) := by
  refine oz_ofI (bytes := cX1_holder) (maxL := 2) (ret := (some .int)) (T := TX1) (N := 19) (by decide) rfl rfl oz_CX1 hst (Nat.le_of_ble_eq_true rfl) ?_
  intro p e s m below meth c st A res G hr X
  have hc13 : ∀ (k : Nat), k ≤ 0 → ∀ (x1 y0 : Int32) (st : ST), G k 13 [(0, .ref (ad 0)), (1, .int x1)] [.int y0, .ref (ad 0)] st (FX1_holder_j13 x1 y0 st) := by
    intro k hk x1 y0 st
    unfold FX1_holder_j13
    refine oz_callV X rfl (As := [.int y0]) (S := []) (mX1_goes l hst D cI cZ ad y0) gX1_holder_X1_goes rfl rfl rfl hX1_goes ⟨by decide, by decide⟩ rfl rfl (Nat.le_of_ble_eq_true rfl) dX1_holder_13 (by omega) (by decide) (by decide) (fun r2 s2 => ?_)
    refine oz_if_eq X (tgt := 27) dX1_holder_16 (by decide) (fun q3 => ?_) (fun q3 => ?_)
    · refine oz_iconst X (v := 0) dX1_holder_27 (by decide) ?_
      exact oz_iret X rfl hr (by omega) dX1_holder_28
    · refine oz_aload_n X dX1_holder_19 rfl 0 rfl ?_
      refine oz_iload_n X dX1_holder_20 rfl 1 rfl ?_
      refine oz_callV X rfl (As := [.int x1]) (S := []) (mX1_holderOf l hst D cI cZ ad x1) gX1_holder_X1_holderOf rfl rfl rfl hX1_holderOf ⟨by decide, by decide⟩ rfl rfl (Nat.le_of_ble_eq_true rfl) dX1_holder_21 (by omega) (by decide) (by decide) (fun r4 s4 => ?_)
      refine oz_goto X (tgt := 28) dX1_holder_24 (by decide) ?_
      exact oz_iret X rfl hr (by omega) dX1_holder_28
  show G 0 0 [(0, .ref (ad 0)), (1, .int a1)] [] st (FX1_holder a1 st)
  unfold FX1_holder
  refine oz_aload_n X dX1_holder_0 rfl 0 rfl ?_
  refine oz_iload_n X dX1_holder_1 rfl 1 rfl ?_
  refine oz_callS X rfl (As := [.int a1]) (S := [.ref (ad 0)]) (mX1_isFrame l hst D cI cZ ad a1) gX1_holder_X1_isFrame rfl rfl rfl hX1_isFrame ⟨by decide, by decide⟩ rfl rfl (Nat.le_of_ble_eq_true rfl) dX1_holder_2 (by omega) (by decide) (by decide) (fun r5 s5 => ?_)
  refine oz_if_eq X (tgt := 12) dX1_holder_5 (by decide) (fun q6 => ?_) (fun q6 => ?_)
  · refine oz_iconst X (v := 1) dX1_holder_12 (by decide) ?_
    exact oz_sub X [0, 1] (L2 := [(0, .ref (ad 0)), (1, .int a1)]) rfl (hc13 _ (by omega) a1 1 s5)
  · refine oz_iconst X (v := 0) dX1_holder_8 (by decide) ?_
    refine oz_goto X (tgt := 13) dX1_holder_9 (by decide) ?_
    exact oz_sub X [0, 1] (L2 := [(0, .ref (ad 0)), (1, .int a1)]) rfl (hc13 _ (by omega) a1 0 s5)

/-! AlmsKernelModel.holderByLog -/
def FX1_holderByLog_j13 (x1 y0 : Int32) (st : ST) : Option Res := bnd (FX1_goes y0 st) (fun r2 s2 => (if r2 = 0 then some (0, 0, s2) else bnd (FX1_holderOf x1 s2) (fun r4 s4 => some (0, r4, s4))))
def FX1_holderByLog (a1 : Int32) (st : ST) : Option Res := bnd (FX1_isFrame a1 st) (fun r5 s5 => (if r5 = 0 then (FX1_holderByLog_j13 a1 1 s5) else (FX1_holderByLog_j13 a1 0 s5)))
def rmX1_holderByLog : Room := { frames := 2, cells := 0, slots := 0, locals := 42 }
theorem hX1_holderByLog : yX1_holderByLog.cls = RX1 ∧ yX1_holderByLog.cls ≠ "java/lang/invoke/MethodHandle" ∧ yX1_holderByLog.cls ≠ "java/lang/invoke/VarHandle" ∧ (parseMethodDescriptor yX1_holderByLog.desc).map (fun d => d.parameters.length) = some 1 := by decide +kernel
set_option maxHeartbeats 4000000 in
set_option maxRecDepth 100000 in
theorem mX1_holderByLog (l : Launch) (hst : l.stackTraces = false) (D : va_G) (cI cZ : ClassId) (ad : Nat → Nat) (a1 : Int32) : oz_MI l yX1_holderByLog wsX1_holderByLog rmX1_holderByLog D cI cZ RX1 1 oz_KSX1 ad oz_lyX1 0 [.ref (ad 0), .int a1] (FX1_holderByLog a1) := by
  refine oz_ofI (bytes := cX1_holderByLog) (maxL := 2) (ret := (some .int)) (T := TX1) (N := 19) (by decide) rfl rfl oz_CX1 hst (Nat.le_of_ble_eq_true rfl) ?_
  intro p e s m below meth c st A res G hr X
  have hc13 : ∀ (k : Nat), k ≤ 0 → ∀ (x1 y0 : Int32) (st : ST), G k 13 [(0, .ref (ad 0)), (1, .int x1)] [.int y0, .ref (ad 0)] st (FX1_holderByLog_j13 x1 y0 st) := by
    intro k hk x1 y0 st
    unfold FX1_holderByLog_j13
    refine oz_callV X rfl (As := [.int y0]) (S := []) (mX1_goes l hst D cI cZ ad y0) gX1_holderByLog_X1_goes rfl rfl rfl hX1_goes ⟨by decide, by decide⟩ rfl rfl (Nat.le_of_ble_eq_true rfl) dX1_holderByLog_13 (by omega) (by decide) (by decide) (fun r2 s2 => ?_)
    refine oz_if_eq X (tgt := 27) dX1_holderByLog_16 (by decide) (fun q3 => ?_) (fun q3 => ?_)
    · refine oz_iconst X (v := 0) dX1_holderByLog_27 (by decide) ?_
      exact oz_iret X rfl hr (by omega) dX1_holderByLog_28
    · refine oz_aload_n X dX1_holderByLog_19 rfl 0 rfl ?_
      refine oz_iload_n X dX1_holderByLog_20 rfl 1 rfl ?_
      refine oz_callV X rfl (As := [.int x1]) (S := []) (mX1_holderOf l hst D cI cZ ad x1) gX1_holderByLog_X1_holderOf rfl rfl rfl hX1_holderOf ⟨by decide, by decide⟩ rfl rfl (Nat.le_of_ble_eq_true rfl) dX1_holderByLog_21 (by omega) (by decide) (by decide) (fun r4 s4 => ?_)
      refine oz_goto X (tgt := 28) dX1_holderByLog_24 (by decide) ?_
      exact oz_iret X rfl hr (by omega) dX1_holderByLog_28
  show G 0 0 [(0, .ref (ad 0)), (1, .int a1)] [] st (FX1_holderByLog a1 st)
  unfold FX1_holderByLog
  refine oz_aload_n X dX1_holderByLog_0 rfl 0 rfl ?_
  refine oz_iload_n X dX1_holderByLog_1 rfl 1 rfl ?_
  refine oz_callS X rfl (As := [.int a1]) (S := [.ref (ad 0)]) (mX1_isFrame l hst D cI cZ ad a1) gX1_holderByLog_X1_isFrame rfl rfl rfl hX1_isFrame ⟨by decide, by decide⟩ rfl rfl (Nat.le_of_ble_eq_true rfl) dX1_holderByLog_2 (by omega) (by decide) (by decide) (fun r5 s5 => ?_)
  refine oz_if_eq X (tgt := 12) dX1_holderByLog_5 (by decide) (fun q6 => ?_) (fun q6 => ?_)
  · refine oz_iconst X (v := 1) dX1_holderByLog_12 (by decide) ?_
    exact oz_sub X [0, 1] (L2 := [(0, .ref (ad 0)), (1, .int a1)]) rfl (hc13 _ (by omega) a1 1 s5)
  · refine oz_iconst X (v := 0) dX1_holderByLog_8 (by decide) ?_
    refine oz_goto X (tgt := 13) dX1_holderByLog_9 (by decide) ?_
    exact oz_sub X [0, 1] (L2 := [(0, .ref (ad 0)), (1, .int a1)]) rfl (hc13 _ (by omega) a1 0 s5)

/-! AlmsKernelModel.pageIn -/
def FX1_pageIn_j13 (x1 y0 : Int32) (st : ST) : Option Res := bnd (FX1_goes y0 st) (fun r2 s2 => (if r2 = 0 then some (0, 0, s2) else gd (oz_in x1 12) (some (0, s2 4 x1.toNatClampNeg, s2))))
def FX1_pageIn (a1 : Int32) (st : ST) : Option Res := bnd (FX1_isFrame a1 st) (fun r5 s5 => (if r5 = 0 then (FX1_pageIn_j13 a1 1 s5) else (FX1_pageIn_j13 a1 0 s5)))
def rmX1_pageIn : Room := { frames := 2, cells := 0, slots := 0, locals := 42 }
theorem hX1_pageIn : yX1_pageIn.cls = RX1 ∧ yX1_pageIn.cls ≠ "java/lang/invoke/MethodHandle" ∧ yX1_pageIn.cls ≠ "java/lang/invoke/VarHandle" ∧ (parseMethodDescriptor yX1_pageIn.desc).map (fun d => d.parameters.length) = some 1 := by decide +kernel
theorem lkX1_pageIn_17 : Cond.fieldLink RX1 17 RX1 (TX1 3).2.1 (TX1 3).2.2.1 ∈ wsX1_pageIn := by decide +kernel
set_option maxHeartbeats 4000000 in
set_option maxRecDepth 100000 in
theorem mX1_pageIn (l : Launch) (hst : l.stackTraces = false) (D : va_G) (cI cZ : ClassId) (ad : Nat → Nat) (a1 : Int32) : oz_MI l yX1_pageIn wsX1_pageIn rmX1_pageIn D cI cZ RX1 1 oz_KSX1 ad oz_lyX1 0 [.ref (ad 0), .int a1] (FX1_pageIn a1) := by
  refine oz_ofI (bytes := cX1_pageIn) (maxL := 2) (ret := (some .int)) (T := TX1) (N := 19) (by decide) rfl rfl oz_CX1 hst (Nat.le_of_ble_eq_true rfl) ?_
  intro p e s m below meth c st A res G hr X
  have hin : ∀ w ∈ u_ws RX1 TX1 19, w ∈ wsX1_pageIn := fun w h => List.mem_cons_of_mem _ (List.mem_append_right _ h)
  have lk17 := lkX1_pageIn_17
  have hc13 : ∀ (k : Nat), k ≤ 0 → ∀ (x1 y0 : Int32) (st : ST), G k 13 [(0, .ref (ad 0)), (1, .int x1)] [.int y0, .ref (ad 0)] st (FX1_pageIn_j13 x1 y0 st) := by
    intro k hk x1 y0 st
    unfold FX1_pageIn_j13
    refine oz_callV X rfl (As := [.int y0]) (S := []) (mX1_goes l hst D cI cZ ad y0) gX1_pageIn_X1_goes rfl rfl rfl hX1_goes ⟨by decide, by decide⟩ rfl rfl (Nat.le_of_ble_eq_true rfl) dX1_pageIn_13 (by omega) (by decide) (by decide) (fun r2 s2 => ?_)
    refine oz_if_eq X (tgt := 28) dX1_pageIn_16 (by decide) (fun q3 => ?_) (fun q3 => ?_)
    · refine oz_iconst X (v := 0) dX1_pageIn_28 (by decide) ?_
      exact oz_iret X rfl hr (by omega) dX1_pageIn_29
    · refine oz_aload_n X dX1_pageIn_19 rfl 0 rfl ?_
      refine oz_getA X hin (j := 3) rfl lk17 dX1_pageIn_20 ?_
      refine oz_iload_n X dX1_pageIn_23 rfl 1 rfl ?_
      refine oz_iald X (j := 3) rfl (by decide) dX1_pageIn_24 (fun g4 => ?_)
      refine oz_goto X (tgt := 29) dX1_pageIn_25 (by decide) ?_
      exact oz_iret X rfl hr (by omega) dX1_pageIn_29
  show G 0 0 [(0, .ref (ad 0)), (1, .int a1)] [] st (FX1_pageIn a1 st)
  unfold FX1_pageIn
  refine oz_aload_n X dX1_pageIn_0 rfl 0 rfl ?_
  refine oz_iload_n X dX1_pageIn_1 rfl 1 rfl ?_
  refine oz_callS X rfl (As := [.int a1]) (S := [.ref (ad 0)]) (mX1_isFrame l hst D cI cZ ad a1) gX1_pageIn_X1_isFrame rfl rfl rfl hX1_isFrame ⟨by decide, by decide⟩ rfl rfl (Nat.le_of_ble_eq_true rfl) dX1_pageIn_2 (by omega) (by decide) (by decide) (fun r5 s5 => ?_)
  refine oz_if_eq X (tgt := 12) dX1_pageIn_5 (by decide) (fun q6 => ?_) (fun q6 => ?_)
  · refine oz_iconst X (v := 1) dX1_pageIn_12 (by decide) ?_
    exact oz_sub X [0, 1] (L2 := [(0, .ref (ad 0)), (1, .int a1)]) rfl (hc13 _ (by omega) a1 1 s5)
  · refine oz_iconst X (v := 0) dX1_pageIn_8 (by decide) ?_
    refine oz_goto X (tgt := 13) dX1_pageIn_9 (by decide) ?_
    exact oz_sub X [0, 1] (L2 := [(0, .ref (ad 0)), (1, .int a1)]) rfl (hc13 _ (by omega) a1 0 s5)

/-! AlmsKernelModel.age -/
def FX1_age_j13 (x1 y0 : Int32) (st : ST) : Option Res := bnd (FX1_goes y0 st) (fun r2 s2 => (if r2 = 0 then some (0, 0, s2) else bnd (FX1_ageOf x1 s2) (fun r4 s4 => some (0, r4, s4))))
def FX1_age (a1 : Int32) (st : ST) : Option Res := bnd (FX1_isFrame a1 st) (fun r5 s5 => (if r5 = 0 then (FX1_age_j13 a1 1 s5) else (FX1_age_j13 a1 0 s5)))
def rmX1_age : Room := { frames := 2, cells := 0, slots := 0, locals := 42 }
theorem hX1_age : yX1_age.cls = RX1 ∧ yX1_age.cls ≠ "java/lang/invoke/MethodHandle" ∧ yX1_age.cls ≠ "java/lang/invoke/VarHandle" ∧ (parseMethodDescriptor yX1_age.desc).map (fun d => d.parameters.length) = some 1 := by decide +kernel
set_option maxHeartbeats 4000000 in
set_option maxRecDepth 100000 in
theorem mX1_age (l : Launch) (hst : l.stackTraces = false) (D : va_G) (cI cZ : ClassId) (ad : Nat → Nat) (a1 : Int32) : oz_MI l yX1_age wsX1_age rmX1_age D cI cZ RX1 1 oz_KSX1 ad oz_lyX1 0 [.ref (ad 0), .int a1] (FX1_age a1) := by
  refine oz_ofI (bytes := cX1_age) (maxL := 2) (ret := (some .int)) (T := TX1) (N := 19) (by decide) rfl rfl oz_CX1 hst (Nat.le_of_ble_eq_true rfl) ?_
  intro p e s m below meth c st A res G hr X
  have hc13 : ∀ (k : Nat), k ≤ 0 → ∀ (x1 y0 : Int32) (st : ST), G k 13 [(0, .ref (ad 0)), (1, .int x1)] [.int y0, .ref (ad 0)] st (FX1_age_j13 x1 y0 st) := by
    intro k hk x1 y0 st
    unfold FX1_age_j13
    refine oz_callV X rfl (As := [.int y0]) (S := []) (mX1_goes l hst D cI cZ ad y0) gX1_age_X1_goes rfl rfl rfl hX1_goes ⟨by decide, by decide⟩ rfl rfl (Nat.le_of_ble_eq_true rfl) dX1_age_13 (by omega) (by decide) (by decide) (fun r2 s2 => ?_)
    refine oz_if_eq X (tgt := 27) dX1_age_16 (by decide) (fun q3 => ?_) (fun q3 => ?_)
    · refine oz_iconst X (v := 0) dX1_age_27 (by decide) ?_
      exact oz_iret X rfl hr (by omega) dX1_age_28
    · refine oz_aload_n X dX1_age_19 rfl 0 rfl ?_
      refine oz_iload_n X dX1_age_20 rfl 1 rfl ?_
      refine oz_callV X rfl (As := [.int x1]) (S := []) (mX1_ageOf l hst D cI cZ ad x1) gX1_age_X1_ageOf rfl rfl rfl hX1_ageOf ⟨by decide, by decide⟩ rfl rfl (Nat.le_of_ble_eq_true rfl) dX1_age_21 (by omega) (by decide) (by decide) (fun r4 s4 => ?_)
      refine oz_goto X (tgt := 28) dX1_age_24 (by decide) ?_
      exact oz_iret X rfl hr (by omega) dX1_age_28
  show G 0 0 [(0, .ref (ad 0)), (1, .int a1)] [] st (FX1_age a1 st)
  unfold FX1_age
  refine oz_aload_n X dX1_age_0 rfl 0 rfl ?_
  refine oz_iload_n X dX1_age_1 rfl 1 rfl ?_
  refine oz_callS X rfl (As := [.int a1]) (S := [.ref (ad 0)]) (mX1_isFrame l hst D cI cZ ad a1) gX1_age_X1_isFrame rfl rfl rfl hX1_isFrame ⟨by decide, by decide⟩ rfl rfl (Nat.le_of_ble_eq_true rfl) dX1_age_2 (by omega) (by decide) (by decide) (fun r5 s5 => ?_)
  refine oz_if_eq X (tgt := 12) dX1_age_5 (by decide) (fun q6 => ?_) (fun q6 => ?_)
  · refine oz_iconst X (v := 1) dX1_age_12 (by decide) ?_
    exact oz_sub X [0, 1] (L2 := [(0, .ref (ad 0)), (1, .int a1)]) rfl (hc13 _ (by omega) a1 1 s5)
  · refine oz_iconst X (v := 0) dX1_age_8 (by decide) ?_
    refine oz_goto X (tgt := 13) dX1_age_9 (by decide) ?_
    exact oz_sub X [0, 1] (L2 := [(0, .ref (ad 0)), (1, .int a1)]) rfl (hc13 _ (by omega) a1 0 s5)

/-! AlmsKernelModel.free -/
def FX1_free_w9 : Nat → Int32 → Int32 → ST → Option Res
  | 0, _, _, _ => none
  | n + 1, x1, x2, st => (if 12 ≤ x2 then some (0, x1, st) else gd (oz_in x2 12) ((if st 3 x2.toNatClampNeg = (-1) then (FX1_free_w9 n (x1 + 1) (x2 + 1) st) else (FX1_free_w9 n (x1 + 0) (x2 + 1) st))))
def FX1_free (st : ST) : Option Res := stp (oz_se st 0 18 0) (fun s5 => (FX1_free_w9 300 0 0 s5))
def rmX1_free : Room := { frames := 0, cells := 0, slots := 0, locals := 0 }
theorem hX1_free : yX1_free.cls = RX1 ∧ yX1_free.cls ≠ "java/lang/invoke/MethodHandle" ∧ yX1_free.cls ≠ "java/lang/invoke/VarHandle" ∧ (parseMethodDescriptor yX1_free.desc).map (fun d => d.parameters.length) = some 0 := by decide +kernel
theorem lkX1_free_13 : Cond.fieldLink RX1 13 RX1 (TX1 2).2.1 (TX1 2).2.2.1 ∈ wsX1_free := by decide +kernel
theorem lkX1_free_57 : Cond.fieldLink RX1 57 RX1 (TX1 18).2.1 (TX1 18).2.2.1 ∈ wsX1_free := by decide +kernel
set_option maxHeartbeats 4000000 in
set_option maxRecDepth 100000 in
theorem mX1_free (l : Launch) (hst : l.stackTraces = false) (D : va_G) (cI cZ : ClassId) (ad : Nat → Nat) : oz_MI l yX1_free wsX1_free rmX1_free D cI cZ RX1 1 oz_KSX1 ad oz_lyX1 0 [.ref (ad 0)] (FX1_free) := by
  refine oz_ofI (bytes := cX1_free) (maxL := 3) (ret := (some .int)) (T := TX1) (N := 19) (by decide) rfl rfl oz_CX1 hst (Nat.le_of_ble_eq_true rfl) ?_
  intro p e s m below meth c st A res G hr X
  have hin : ∀ w ∈ u_ws RX1 TX1 19, w ∈ wsX1_free := fun w h => List.mem_cons_of_mem _ (List.mem_append_right _ h)
  have lk13 := lkX1_free_13
  have lk57 := lkX1_free_57
  have hc9 : ∀ (n k : Nat), k ≤ 0 → ∀ (x1 x2 : Int32) (st : ST), G k 9 [(0, .ref (ad 0)), (1, .int x1), (2, .int x2)] [] st (FX1_free_w9 n x1 x2 st) := by
    intro n
    induction n with
    | zero => intros; exact oz_none X
    | succ n ih =>
      intro k hk x1 x2 st
      rw [FX1_free_w9]
      refine oz_iload_n X dX1_free_9 rfl 2 rfl ?_
      refine oz_bipush X (v := 12) dX1_free_10 (by decide) ?_
      refine oz_icmp_ge X (tgt := 39) dX1_free_12 (by decide) (fun q2 => ?_) (fun q2 => ?_)
      · refine oz_iload_n X dX1_free_39 rfl 1 rfl ?_
        exact oz_iret X rfl hr (by omega) dX1_free_40
      · refine oz_iload_n X dX1_free_15 rfl 1 rfl ?_
        refine oz_aload_n X dX1_free_16 rfl 0 rfl ?_
        refine oz_getA X hin (j := 2) rfl lk13 dX1_free_17 ?_
        refine oz_iload_n X dX1_free_20 rfl 2 rfl ?_
        refine oz_iald X (j := 2) rfl (by decide) dX1_free_21 (fun g3 => ?_)
        refine oz_iconst X (v := (-1)) dX1_free_22 (by decide) ?_
        refine oz_icmp_ne X (tgt := 30) dX1_free_23 (by decide) (fun q4 => ?_) (fun q4 => ?_)
        · refine oz_iconst X (v := 0) dX1_free_30 (by decide) ?_
          refine oz_iadd X dX1_free_31 ?_
          refine oz_istore_n X (L2 := [(1, .int (x1 + 0)), (0, .ref (ad 0)), (2, .int x2)]) dX1_free_32 rfl (by decide) rfl ?_
          refine oz_iinc X (q := 2) (v := x2 + 1) (L2 := [(2, .int (x2 + 1)), (1, .int (x1 + 0)), (0, .ref (ad 0))]) dX1_free_33 rfl rfl (by decide) rfl ?_
          refine oz_goto X (tgt := 9) dX1_free_36 (by decide) ?_
          exact oz_sub X [2, 1, 0] (L2 := [(0, .ref (ad 0)), (1, .int (x1 + 0)), (2, .int (x2 + 1))]) rfl (ih _ (by omega) (x1 + 0) (x2 + 1) st)
        · refine oz_iconst X (v := 1) dX1_free_26 (by decide) ?_
          refine oz_goto X (tgt := 31) dX1_free_27 (by decide) ?_
          refine oz_iadd X dX1_free_31 ?_
          refine oz_istore_n X (L2 := [(1, .int (x1 + 1)), (0, .ref (ad 0)), (2, .int x2)]) dX1_free_32 rfl (by decide) rfl ?_
          refine oz_iinc X (q := 2) (v := x2 + 1) (L2 := [(2, .int (x2 + 1)), (1, .int (x1 + 1)), (0, .ref (ad 0))]) dX1_free_33 rfl rfl (by decide) rfl ?_
          refine oz_goto X (tgt := 9) dX1_free_36 (by decide) ?_
          exact oz_sub X [2, 1, 0] (L2 := [(0, .ref (ad 0)), (1, .int (x1 + 1)), (2, .int (x2 + 1))]) rfl (ih _ (by omega) (x1 + 1) (x2 + 1) st)
  show G 0 0 [(0, .ref (ad 0))] [] st (FX1_free st)
  unfold FX1_free
  refine oz_aload_n X dX1_free_0 rfl 0 rfl ?_
  refine oz_iconst X (v := 0) dX1_free_1 (by decide) ?_
  refine oz_putS X hin (j := 18) rfl lk57 dX1_free_2 (fun s5 e5 => ?_)
  refine oz_iconst X (v := 0) dX1_free_5 (by decide) ?_
  refine oz_istore_n X (L2 := [(1, .int 0), (0, .ref (ad 0))]) dX1_free_6 rfl (by decide) rfl ?_
  refine oz_iconst X (v := 0) dX1_free_7 (by decide) ?_
  refine oz_istore_n X (L2 := [(2, .int 0), (1, .int 0), (0, .ref (ad 0))]) dX1_free_8 rfl (by decide) rfl ?_
  exact oz_sub X [2, 1, 0] (L2 := [(0, .ref (ad 0)), (1, .int 0), (2, .int 0)]) rfl (hc9 300 _ (by omega) 0 0 s5)

/-! AlmsKernelModel.owns -/
def FX1_owns_w22 : Nat → Int32 → Int32 → Int32 → Int32 → ST → Option Res
  | 0, _, _, _, _, _ => none
  | n + 1, x1, x2, x3, x4, st => (if 12 ≤ x4 then some (0, x2, st) else (if x3 = 0 then some (0, x2, st) else gd (oz_in x4 12) ((if st 3 x4.toNatClampNeg = x1 then (FX1_owns_w22 n x1 (x2 + 1) x3 (x4 + 1) st) else (FX1_owns_w22 n x1 (x2 + 0) x3 (x4 + 1) st)))))
def FX1_owns_j15 (x1 x2 y0 : Int32) (st : ST) : Option Res := bnd (FX1_goes y0 st) (fun r7 s7 => (FX1_owns_w22 300 x1 x2 r7 0 s7))
def FX1_owns (a1 : Int32) (st : ST) : Option Res := bnd (FX1_isProcess a1 st) (fun r8 s8 => (if r8 = 0 then (FX1_owns_j15 a1 0 1 s8) else (FX1_owns_j15 a1 0 0 s8)))
def rmX1_owns : Room := { frames := 2, cells := 0, slots := 0, locals := 42 }
theorem hX1_owns : yX1_owns.cls = RX1 ∧ yX1_owns.cls ≠ "java/lang/invoke/MethodHandle" ∧ yX1_owns.cls ≠ "java/lang/invoke/VarHandle" ∧ (parseMethodDescriptor yX1_owns.desc).map (fun d => d.parameters.length) = some 1 := by decide +kernel
theorem lkX1_owns_13 : Cond.fieldLink RX1 13 RX1 (TX1 2).2.1 (TX1 2).2.2.1 ∈ wsX1_owns := by decide +kernel
set_option maxHeartbeats 4000000 in
set_option maxRecDepth 100000 in
theorem mX1_owns (l : Launch) (hst : l.stackTraces = false) (D : va_G) (cI cZ : ClassId) (ad : Nat → Nat) (a1 : Int32) : oz_MI l yX1_owns wsX1_owns rmX1_owns D cI cZ RX1 1 oz_KSX1 ad oz_lyX1 0 [.ref (ad 0), .int a1] (FX1_owns a1) := by
  refine oz_ofI (bytes := cX1_owns) (maxL := 5) (ret := (some .int)) (T := TX1) (N := 19) (by decide) rfl rfl oz_CX1 hst (Nat.le_of_ble_eq_true rfl) ?_
  intro p e s m below meth c st A res G hr X
  have hin : ∀ w ∈ u_ws RX1 TX1 19, w ∈ wsX1_owns := fun w h => List.mem_cons_of_mem _ (List.mem_append_right _ h)
  have lk13 := lkX1_owns_13
  have hc22 : ∀ (n k : Nat), k ≤ 0 → ∀ (x1 x2 x3 x4 : Int32) (st : ST), G k 22 [(0, .ref (ad 0)), (1, .int x1), (2, .int x2), (3, .int x3), (4, .int x4)] [] st (FX1_owns_w22 n x1 x2 x3 x4 st) := by
    intro n
    induction n with
    | zero => intros; exact oz_none X
    | succ n ih =>
      intro k hk x1 x2 x3 x4 st
      rw [FX1_owns_w22]
      refine oz_iload X dX1_owns_22 4 rfl ?_
      refine oz_bipush X (v := 12) dX1_owns_24 (by decide) ?_
      refine oz_icmp_ge X (tgt := 58) dX1_owns_26 (by decide) (fun q2 => ?_) (fun q2 => ?_)
      · refine oz_iload_n X dX1_owns_58 rfl 2 rfl ?_
        exact oz_iret X rfl hr (by omega) dX1_owns_59
      · refine oz_iload_n X dX1_owns_29 rfl 3 rfl ?_
        refine oz_if_eq X (tgt := 58) dX1_owns_30 (by decide) (fun q3 => ?_) (fun q3 => ?_)
        · refine oz_iload_n X dX1_owns_58 rfl 2 rfl ?_
          exact oz_iret X rfl hr (by omega) dX1_owns_59
        · refine oz_iload_n X dX1_owns_33 rfl 2 rfl ?_
          refine oz_aload_n X dX1_owns_34 rfl 0 rfl ?_
          refine oz_getA X hin (j := 2) rfl lk13 dX1_owns_35 ?_
          refine oz_iload X dX1_owns_38 4 rfl ?_
          refine oz_iald X (j := 2) rfl (by decide) dX1_owns_40 (fun g4 => ?_)
          refine oz_iload_n X dX1_owns_41 rfl 1 rfl ?_
          refine oz_icmp_ne X (tgt := 49) dX1_owns_42 (by decide) (fun q5 => ?_) (fun q5 => ?_)
          · refine oz_iconst X (v := 0) dX1_owns_49 (by decide) ?_
            refine oz_iadd X dX1_owns_50 ?_
            refine oz_istore_n X (L2 := [(2, .int (x2 + 0)), (0, .ref (ad 0)), (1, .int x1), (3, .int x3), (4, .int x4)]) dX1_owns_51 rfl (by decide) rfl ?_
            refine oz_iinc X (q := 4) (v := x4 + 1) (L2 := [(4, .int (x4 + 1)), (2, .int (x2 + 0)), (0, .ref (ad 0)), (1, .int x1), (3, .int x3)]) dX1_owns_52 rfl rfl (by decide) rfl ?_
            refine oz_goto X (tgt := 22) dX1_owns_55 (by decide) ?_
            exact oz_sub X [2, 3, 1, 4, 0] (L2 := [(0, .ref (ad 0)), (1, .int x1), (2, .int (x2 + 0)), (3, .int x3), (4, .int (x4 + 1))]) rfl (ih _ (by omega) x1 (x2 + 0) x3 (x4 + 1) st)
          · refine oz_iconst X (v := 1) dX1_owns_45 (by decide) ?_
            refine oz_goto X (tgt := 50) dX1_owns_46 (by decide) ?_
            refine oz_iadd X dX1_owns_50 ?_
            refine oz_istore_n X (L2 := [(2, .int (x2 + 1)), (0, .ref (ad 0)), (1, .int x1), (3, .int x3), (4, .int x4)]) dX1_owns_51 rfl (by decide) rfl ?_
            refine oz_iinc X (q := 4) (v := x4 + 1) (L2 := [(4, .int (x4 + 1)), (2, .int (x2 + 1)), (0, .ref (ad 0)), (1, .int x1), (3, .int x3)]) dX1_owns_52 rfl rfl (by decide) rfl ?_
            refine oz_goto X (tgt := 22) dX1_owns_55 (by decide) ?_
            exact oz_sub X [2, 3, 1, 4, 0] (L2 := [(0, .ref (ad 0)), (1, .int x1), (2, .int (x2 + 1)), (3, .int x3), (4, .int (x4 + 1))]) rfl (ih _ (by omega) x1 (x2 + 1) x3 (x4 + 1) st)
  have hc15 : ∀ (k : Nat), k ≤ 0 → ∀ (x1 x2 y0 : Int32) (st : ST), G k 15 [(0, .ref (ad 0)), (1, .int x1), (2, .int x2)] [.int y0, .ref (ad 0)] st (FX1_owns_j15 x1 x2 y0 st) := by
    intro k hk x1 x2 y0 st
    unfold FX1_owns_j15
    refine oz_callV X rfl (As := [.int y0]) (S := []) (mX1_goes l hst D cI cZ ad y0) gX1_owns_X1_goes rfl rfl rfl hX1_goes ⟨by decide, by decide⟩ rfl rfl (Nat.le_of_ble_eq_true rfl) dX1_owns_15 (by omega) (by decide) (by decide) (fun r7 s7 => ?_)
    refine oz_istore_n X (L2 := [(3, .int r7), (0, .ref (ad 0)), (1, .int x1), (2, .int x2)]) dX1_owns_18 rfl (by decide) rfl ?_
    refine oz_iconst X (v := 0) dX1_owns_19 (by decide) ?_
    refine oz_istore X (L2 := [(4, .int 0), (3, .int r7), (0, .ref (ad 0)), (1, .int x1), (2, .int x2)]) dX1_owns_20 (by decide) rfl ?_
    exact oz_sub X [2, 3, 4, 1, 0] (L2 := [(0, .ref (ad 0)), (1, .int x1), (2, .int x2), (3, .int r7), (4, .int 0)]) rfl (hc22 300 _ (by omega) x1 x2 r7 0 s7)
  show G 0 0 [(0, .ref (ad 0)), (1, .int a1)] [] st (FX1_owns a1 st)
  unfold FX1_owns
  refine oz_iconst X (v := 0) dX1_owns_0 (by decide) ?_
  refine oz_istore_n X (L2 := [(2, .int 0), (0, .ref (ad 0)), (1, .int a1)]) dX1_owns_1 rfl (by decide) rfl ?_
  refine oz_aload_n X dX1_owns_2 rfl 1 rfl ?_
  refine oz_iload_n X dX1_owns_3 rfl 2 rfl ?_
  refine oz_callS X rfl (As := [.int a1]) (S := [.ref (ad 0)]) (mX1_isProcess l hst D cI cZ ad a1) gX1_owns_X1_isProcess rfl rfl rfl hX1_isProcess ⟨by decide, by decide⟩ rfl rfl (Nat.le_of_ble_eq_true rfl) dX1_owns_4 (by omega) (by decide) (by decide) (fun r8 s8 => ?_)
  refine oz_if_eq X (tgt := 14) dX1_owns_7 (by decide) (fun q9 => ?_) (fun q9 => ?_)
  · refine oz_iconst X (v := 1) dX1_owns_14 (by decide) ?_
    exact oz_sub X [1, 2, 0] (L2 := [(0, .ref (ad 0)), (1, .int a1), (2, .int 0)]) rfl (hc15 _ (by omega) a1 0 1 s8)
  · refine oz_iconst X (v := 0) dX1_owns_10 (by decide) ?_
    refine oz_goto X (tgt := 15) dX1_owns_11 (by decide) ?_
    exact oz_sub X [1, 2, 0] (L2 := [(0, .ref (ad 0)), (1, .int a1), (2, .int 0)]) rfl (hc15 _ (by omega) a1 0 0 s8)

/-! AlmsKernelModel.borrowed -/
def FX1_borrowed_j13 (x1 y0 : Int32) (st : ST) : Option Res := bnd (FX1_goes y0 st) (fun r2 s2 => (if r2 = 0 then some (0, 0, s2) else bnd (FX1_borrowedBy x1 s2) (fun r4 s4 => some (0, r4, s4))))
def FX1_borrowed (a1 : Int32) (st : ST) : Option Res := bnd (FX1_isProcess a1 st) (fun r5 s5 => (if r5 = 0 then (FX1_borrowed_j13 a1 1 s5) else (FX1_borrowed_j13 a1 0 s5)))
def rmX1_borrowed : Room := { frames := 2, cells := 0, slots := 0, locals := 42 }
theorem hX1_borrowed : yX1_borrowed.cls = RX1 ∧ yX1_borrowed.cls ≠ "java/lang/invoke/MethodHandle" ∧ yX1_borrowed.cls ≠ "java/lang/invoke/VarHandle" ∧ (parseMethodDescriptor yX1_borrowed.desc).map (fun d => d.parameters.length) = some 1 := by decide +kernel
set_option maxHeartbeats 4000000 in
set_option maxRecDepth 100000 in
theorem mX1_borrowed (l : Launch) (hst : l.stackTraces = false) (D : va_G) (cI cZ : ClassId) (ad : Nat → Nat) (a1 : Int32) : oz_MI l yX1_borrowed wsX1_borrowed rmX1_borrowed D cI cZ RX1 1 oz_KSX1 ad oz_lyX1 0 [.ref (ad 0), .int a1] (FX1_borrowed a1) := by
  refine oz_ofI (bytes := cX1_borrowed) (maxL := 2) (ret := (some .int)) (T := TX1) (N := 19) (by decide) rfl rfl oz_CX1 hst (Nat.le_of_ble_eq_true rfl) ?_
  intro p e s m below meth c st A res G hr X
  have hc13 : ∀ (k : Nat), k ≤ 0 → ∀ (x1 y0 : Int32) (st : ST), G k 13 [(0, .ref (ad 0)), (1, .int x1)] [.int y0, .ref (ad 0)] st (FX1_borrowed_j13 x1 y0 st) := by
    intro k hk x1 y0 st
    unfold FX1_borrowed_j13
    refine oz_callV X rfl (As := [.int y0]) (S := []) (mX1_goes l hst D cI cZ ad y0) gX1_borrowed_X1_goes rfl rfl rfl hX1_goes ⟨by decide, by decide⟩ rfl rfl (Nat.le_of_ble_eq_true rfl) dX1_borrowed_13 (by omega) (by decide) (by decide) (fun r2 s2 => ?_)
    refine oz_if_eq X (tgt := 27) dX1_borrowed_16 (by decide) (fun q3 => ?_) (fun q3 => ?_)
    · refine oz_iconst X (v := 0) dX1_borrowed_27 (by decide) ?_
      exact oz_iret X rfl hr (by omega) dX1_borrowed_28
    · refine oz_aload_n X dX1_borrowed_19 rfl 0 rfl ?_
      refine oz_iload_n X dX1_borrowed_20 rfl 1 rfl ?_
      refine oz_callV X rfl (As := [.int x1]) (S := []) (mX1_borrowedBy l hst D cI cZ ad x1) gX1_borrowed_X1_borrowedBy rfl rfl rfl hX1_borrowedBy ⟨by decide, by decide⟩ rfl rfl (Nat.le_of_ble_eq_true rfl) dX1_borrowed_21 (by omega) (by decide) (by decide) (fun r4 s4 => ?_)
      refine oz_goto X (tgt := 28) dX1_borrowed_24 (by decide) ?_
      exact oz_iret X rfl hr (by omega) dX1_borrowed_28
  show G 0 0 [(0, .ref (ad 0)), (1, .int a1)] [] st (FX1_borrowed a1 st)
  unfold FX1_borrowed
  refine oz_aload_n X dX1_borrowed_0 rfl 0 rfl ?_
  refine oz_iload_n X dX1_borrowed_1 rfl 1 rfl ?_
  refine oz_callS X rfl (As := [.int a1]) (S := [.ref (ad 0)]) (mX1_isProcess l hst D cI cZ ad a1) gX1_borrowed_X1_isProcess rfl rfl rfl hX1_isProcess ⟨by decide, by decide⟩ rfl rfl (Nat.le_of_ble_eq_true rfl) dX1_borrowed_2 (by omega) (by decide) (by decide) (fun r5 s5 => ?_)
  refine oz_if_eq X (tgt := 12) dX1_borrowed_5 (by decide) (fun q6 => ?_) (fun q6 => ?_)
  · refine oz_iconst X (v := 1) dX1_borrowed_12 (by decide) ?_
    exact oz_sub X [0, 1] (L2 := [(0, .ref (ad 0)), (1, .int a1)]) rfl (hc13 _ (by omega) a1 1 s5)
  · refine oz_iconst X (v := 0) dX1_borrowed_8 (by decide) ?_
    refine oz_goto X (tgt := 13) dX1_borrowed_9 (by decide) ?_
    exact oz_sub X [0, 1] (L2 := [(0, .ref (ad 0)), (1, .int a1)]) rfl (hc13 _ (by omega) a1 0 s5)

/-! AlmsKernelModel.lent -/
def FX1_lent_w22 : Nat → Int32 → Int32 → Int32 → Int32 → ST → Option Res
  | 0, _, _, _, _, _ => none
  | n + 1, x1, x2, x3, x4, st => (if 12 ≤ x4 then some (0, x2, st) else (if x3 = 0 then some (0, x2, st) else gd (oz_in x4 12) ((if st 3 x4.toNatClampNeg = x1 then gd (oz_in x4 12) ((if st 7 x4.toNatClampNeg = (-1) then (FX1_lent_w22 n x1 (x2 + 0) x3 (x4 + 1) st) else (FX1_lent_w22 n x1 (x2 + 1) x3 (x4 + 1) st))) else (FX1_lent_w22 n x1 (x2 + 0) x3 (x4 + 1) st)))))
def FX1_lent_j15 (x1 x2 y0 : Int32) (st : ST) : Option Res := bnd (FX1_goes y0 st) (fun r9 s9 => (FX1_lent_w22 300 x1 x2 r9 0 s9))
def FX1_lent (a1 : Int32) (st : ST) : Option Res := bnd (FX1_isProcess a1 st) (fun r10 s10 => (if r10 = 0 then (FX1_lent_j15 a1 0 1 s10) else (FX1_lent_j15 a1 0 0 s10)))
def rmX1_lent : Room := { frames := 2, cells := 0, slots := 0, locals := 42 }
theorem hX1_lent : yX1_lent.cls = RX1 ∧ yX1_lent.cls ≠ "java/lang/invoke/MethodHandle" ∧ yX1_lent.cls ≠ "java/lang/invoke/VarHandle" ∧ (parseMethodDescriptor yX1_lent.desc).map (fun d => d.parameters.length) = some 1 := by decide +kernel
theorem lkX1_lent_13 : Cond.fieldLink RX1 13 RX1 (TX1 2).2.1 (TX1 2).2.2.1 ∈ wsX1_lent := by decide +kernel
theorem lkX1_lent_27 : Cond.fieldLink RX1 27 RX1 (TX1 6).2.1 (TX1 6).2.2.1 ∈ wsX1_lent := by decide +kernel
set_option maxHeartbeats 4000000 in
set_option maxRecDepth 100000 in
theorem mX1_lent (l : Launch) (hst : l.stackTraces = false) (D : va_G) (cI cZ : ClassId) (ad : Nat → Nat) (a1 : Int32) : oz_MI l yX1_lent wsX1_lent rmX1_lent D cI cZ RX1 1 oz_KSX1 ad oz_lyX1 0 [.ref (ad 0), .int a1] (FX1_lent a1) := by
  refine oz_ofI (bytes := cX1_lent) (maxL := 5) (ret := (some .int)) (T := TX1) (N := 19) (by decide) rfl rfl oz_CX1 hst (Nat.le_of_ble_eq_true rfl) ?_
  intro p e s m below meth c st A res G hr X
  have hin : ∀ w ∈ u_ws RX1 TX1 19, w ∈ wsX1_lent := fun w h => List.mem_cons_of_mem _ (List.mem_append_right _ h)
  have lk13 := lkX1_lent_13
  have lk27 := lkX1_lent_27
  have hc22 : ∀ (n k : Nat), k ≤ 0 → ∀ (x1 x2 x3 x4 : Int32) (st : ST), G k 22 [(0, .ref (ad 0)), (1, .int x1), (2, .int x2), (3, .int x3), (4, .int x4)] [] st (FX1_lent_w22 n x1 x2 x3 x4 st) := by
    intro n
    induction n with
    | zero => intros; exact oz_none X
    | succ n ih =>
      intro k hk x1 x2 x3 x4 st
      rw [FX1_lent_w22]
      refine oz_iload X dX1_lent_22 4 rfl ?_
      refine oz_bipush X (v := 12) dX1_lent_24 (by decide) ?_
      refine oz_icmp_ge X (tgt := 69) dX1_lent_26 (by decide) (fun q2 => ?_) (fun q2 => ?_)
      · refine oz_iload_n X dX1_lent_69 rfl 2 rfl ?_
        exact oz_iret X rfl hr (by omega) dX1_lent_70
      · refine oz_iload_n X dX1_lent_29 rfl 3 rfl ?_
        refine oz_if_eq X (tgt := 69) dX1_lent_30 (by decide) (fun q3 => ?_) (fun q3 => ?_)
        · refine oz_iload_n X dX1_lent_69 rfl 2 rfl ?_
          exact oz_iret X rfl hr (by omega) dX1_lent_70
        · refine oz_iload_n X dX1_lent_33 rfl 2 rfl ?_
          refine oz_aload_n X dX1_lent_34 rfl 0 rfl ?_
          refine oz_getA X hin (j := 2) rfl lk13 dX1_lent_35 ?_
          refine oz_iload X dX1_lent_38 4 rfl ?_
          refine oz_iald X (j := 2) rfl (by decide) dX1_lent_40 (fun g4 => ?_)
          refine oz_iload_n X dX1_lent_41 rfl 1 rfl ?_
          refine oz_icmp_ne X (tgt := 60) dX1_lent_42 (by decide) (fun q5 => ?_) (fun q5 => ?_)
          · refine oz_iconst X (v := 0) dX1_lent_60 (by decide) ?_
            refine oz_iadd X dX1_lent_61 ?_
            refine oz_istore_n X (L2 := [(2, .int (x2 + 0)), (0, .ref (ad 0)), (1, .int x1), (3, .int x3), (4, .int x4)]) dX1_lent_62 rfl (by decide) rfl ?_
            refine oz_iinc X (q := 4) (v := x4 + 1) (L2 := [(4, .int (x4 + 1)), (2, .int (x2 + 0)), (0, .ref (ad 0)), (1, .int x1), (3, .int x3)]) dX1_lent_63 rfl rfl (by decide) rfl ?_
            refine oz_goto X (tgt := 22) dX1_lent_66 (by decide) ?_
            exact oz_sub X [2, 3, 1, 4, 0] (L2 := [(0, .ref (ad 0)), (1, .int x1), (2, .int (x2 + 0)), (3, .int x3), (4, .int (x4 + 1))]) rfl (ih _ (by omega) x1 (x2 + 0) x3 (x4 + 1) st)
          · refine oz_aload_n X dX1_lent_45 rfl 0 rfl ?_
            refine oz_getA X hin (j := 6) rfl lk27 dX1_lent_46 ?_
            refine oz_iload X dX1_lent_49 4 rfl ?_
            refine oz_iald X (j := 6) rfl (by decide) dX1_lent_51 (fun g6 => ?_)
            refine oz_iconst X (v := (-1)) dX1_lent_52 (by decide) ?_
            refine oz_icmp_eq X (tgt := 60) dX1_lent_53 (by decide) (fun q7 => ?_) (fun q7 => ?_)
            · refine oz_iconst X (v := 0) dX1_lent_60 (by decide) ?_
              refine oz_iadd X dX1_lent_61 ?_
              refine oz_istore_n X (L2 := [(2, .int (x2 + 0)), (0, .ref (ad 0)), (1, .int x1), (3, .int x3), (4, .int x4)]) dX1_lent_62 rfl (by decide) rfl ?_
              refine oz_iinc X (q := 4) (v := x4 + 1) (L2 := [(4, .int (x4 + 1)), (2, .int (x2 + 0)), (0, .ref (ad 0)), (1, .int x1), (3, .int x3)]) dX1_lent_63 rfl rfl (by decide) rfl ?_
              refine oz_goto X (tgt := 22) dX1_lent_66 (by decide) ?_
              exact oz_sub X [2, 3, 1, 4, 0] (L2 := [(0, .ref (ad 0)), (1, .int x1), (2, .int (x2 + 0)), (3, .int x3), (4, .int (x4 + 1))]) rfl (ih _ (by omega) x1 (x2 + 0) x3 (x4 + 1) st)
            · refine oz_iconst X (v := 1) dX1_lent_56 (by decide) ?_
              refine oz_goto X (tgt := 61) dX1_lent_57 (by decide) ?_
              refine oz_iadd X dX1_lent_61 ?_
              refine oz_istore_n X (L2 := [(2, .int (x2 + 1)), (0, .ref (ad 0)), (1, .int x1), (3, .int x3), (4, .int x4)]) dX1_lent_62 rfl (by decide) rfl ?_
              refine oz_iinc X (q := 4) (v := x4 + 1) (L2 := [(4, .int (x4 + 1)), (2, .int (x2 + 1)), (0, .ref (ad 0)), (1, .int x1), (3, .int x3)]) dX1_lent_63 rfl rfl (by decide) rfl ?_
              refine oz_goto X (tgt := 22) dX1_lent_66 (by decide) ?_
              exact oz_sub X [2, 3, 1, 4, 0] (L2 := [(0, .ref (ad 0)), (1, .int x1), (2, .int (x2 + 1)), (3, .int x3), (4, .int (x4 + 1))]) rfl (ih _ (by omega) x1 (x2 + 1) x3 (x4 + 1) st)
  have hc15 : ∀ (k : Nat), k ≤ 0 → ∀ (x1 x2 y0 : Int32) (st : ST), G k 15 [(0, .ref (ad 0)), (1, .int x1), (2, .int x2)] [.int y0, .ref (ad 0)] st (FX1_lent_j15 x1 x2 y0 st) := by
    intro k hk x1 x2 y0 st
    unfold FX1_lent_j15
    refine oz_callV X rfl (As := [.int y0]) (S := []) (mX1_goes l hst D cI cZ ad y0) gX1_lent_X1_goes rfl rfl rfl hX1_goes ⟨by decide, by decide⟩ rfl rfl (Nat.le_of_ble_eq_true rfl) dX1_lent_15 (by omega) (by decide) (by decide) (fun r9 s9 => ?_)
    refine oz_istore_n X (L2 := [(3, .int r9), (0, .ref (ad 0)), (1, .int x1), (2, .int x2)]) dX1_lent_18 rfl (by decide) rfl ?_
    refine oz_iconst X (v := 0) dX1_lent_19 (by decide) ?_
    refine oz_istore X (L2 := [(4, .int 0), (3, .int r9), (0, .ref (ad 0)), (1, .int x1), (2, .int x2)]) dX1_lent_20 (by decide) rfl ?_
    exact oz_sub X [2, 3, 4, 1, 0] (L2 := [(0, .ref (ad 0)), (1, .int x1), (2, .int x2), (3, .int r9), (4, .int 0)]) rfl (hc22 300 _ (by omega) x1 x2 r9 0 s9)
  show G 0 0 [(0, .ref (ad 0)), (1, .int a1)] [] st (FX1_lent a1 st)
  unfold FX1_lent
  refine oz_iconst X (v := 0) dX1_lent_0 (by decide) ?_
  refine oz_istore_n X (L2 := [(2, .int 0), (0, .ref (ad 0)), (1, .int a1)]) dX1_lent_1 rfl (by decide) rfl ?_
  refine oz_aload_n X dX1_lent_2 rfl 1 rfl ?_
  refine oz_iload_n X dX1_lent_3 rfl 2 rfl ?_
  refine oz_callS X rfl (As := [.int a1]) (S := [.ref (ad 0)]) (mX1_isProcess l hst D cI cZ ad a1) gX1_lent_X1_isProcess rfl rfl rfl hX1_isProcess ⟨by decide, by decide⟩ rfl rfl (Nat.le_of_ble_eq_true rfl) dX1_lent_4 (by omega) (by decide) (by decide) (fun r10 s10 => ?_)
  refine oz_if_eq X (tgt := 14) dX1_lent_7 (by decide) (fun q11 => ?_) (fun q11 => ?_)
  · refine oz_iconst X (v := 1) dX1_lent_14 (by decide) ?_
    exact oz_sub X [1, 2, 0] (L2 := [(0, .ref (ad 0)), (1, .int a1), (2, .int 0)]) rfl (hc15 _ (by omega) a1 0 1 s10)
  · refine oz_iconst X (v := 0) dX1_lent_10 (by decide) ?_
    refine oz_goto X (tgt := 15) dX1_lent_11 (by decide) ?_
    exact oz_sub X [1, 2, 0] (L2 := [(0, .ref (ad 0)), (1, .int a1), (2, .int 0)]) rfl (hc15 _ (by omega) a1 0 0 s10)

/-! AlmsKernelModel.stateOf -/
def FX1_stateOf_j13 (x1 y0 : Int32) (st : ST) : Option Res := bnd (FX1_goes y0 st) (fun r2 s2 => (if r2 = 0 then some (0, 0, s2) else gd (oz_in x1 5) (some (0, s2 10 x1.toNatClampNeg, s2))))
def FX1_stateOf (a1 : Int32) (st : ST) : Option Res := bnd (FX1_isProcess a1 st) (fun r5 s5 => (if r5 = 0 then (FX1_stateOf_j13 a1 1 s5) else (FX1_stateOf_j13 a1 0 s5)))
def rmX1_stateOf : Room := { frames := 2, cells := 0, slots := 0, locals := 42 }
theorem hX1_stateOf : yX1_stateOf.cls = RX1 ∧ yX1_stateOf.cls ≠ "java/lang/invoke/MethodHandle" ∧ yX1_stateOf.cls ≠ "java/lang/invoke/VarHandle" ∧ (parseMethodDescriptor yX1_stateOf.desc).map (fun d => d.parameters.length) = some 1 := by decide +kernel
theorem lkX1_stateOf_36 : Cond.fieldLink RX1 36 RX1 (TX1 9).2.1 (TX1 9).2.2.1 ∈ wsX1_stateOf := by decide +kernel
set_option maxHeartbeats 4000000 in
set_option maxRecDepth 100000 in
theorem mX1_stateOf (l : Launch) (hst : l.stackTraces = false) (D : va_G) (cI cZ : ClassId) (ad : Nat → Nat) (a1 : Int32) : oz_MI l yX1_stateOf wsX1_stateOf rmX1_stateOf D cI cZ RX1 1 oz_KSX1 ad oz_lyX1 0 [.ref (ad 0), .int a1] (FX1_stateOf a1) := by
  refine oz_ofI (bytes := cX1_stateOf) (maxL := 2) (ret := (some .int)) (T := TX1) (N := 19) (by decide) rfl rfl oz_CX1 hst (Nat.le_of_ble_eq_true rfl) ?_
  intro p e s m below meth c st A res G hr X
  have hin : ∀ w ∈ u_ws RX1 TX1 19, w ∈ wsX1_stateOf := fun w h => List.mem_cons_of_mem _ (List.mem_append_right _ h)
  have lk36 := lkX1_stateOf_36
  have hc13 : ∀ (k : Nat), k ≤ 0 → ∀ (x1 y0 : Int32) (st : ST), G k 13 [(0, .ref (ad 0)), (1, .int x1)] [.int y0, .ref (ad 0)] st (FX1_stateOf_j13 x1 y0 st) := by
    intro k hk x1 y0 st
    unfold FX1_stateOf_j13
    refine oz_callV X rfl (As := [.int y0]) (S := []) (mX1_goes l hst D cI cZ ad y0) gX1_stateOf_X1_goes rfl rfl rfl hX1_goes ⟨by decide, by decide⟩ rfl rfl (Nat.le_of_ble_eq_true rfl) dX1_stateOf_13 (by omega) (by decide) (by decide) (fun r2 s2 => ?_)
    refine oz_if_eq X (tgt := 28) dX1_stateOf_16 (by decide) (fun q3 => ?_) (fun q3 => ?_)
    · refine oz_iconst X (v := 0) dX1_stateOf_28 (by decide) ?_
      exact oz_iret X rfl hr (by omega) dX1_stateOf_29
    · refine oz_aload_n X dX1_stateOf_19 rfl 0 rfl ?_
      refine oz_getA X hin (j := 9) rfl lk36 dX1_stateOf_20 ?_
      refine oz_iload_n X dX1_stateOf_23 rfl 1 rfl ?_
      refine oz_iald X (j := 9) rfl (by decide) dX1_stateOf_24 (fun g4 => ?_)
      refine oz_goto X (tgt := 29) dX1_stateOf_25 (by decide) ?_
      exact oz_iret X rfl hr (by omega) dX1_stateOf_29
  show G 0 0 [(0, .ref (ad 0)), (1, .int a1)] [] st (FX1_stateOf a1 st)
  unfold FX1_stateOf
  refine oz_aload_n X dX1_stateOf_0 rfl 0 rfl ?_
  refine oz_iload_n X dX1_stateOf_1 rfl 1 rfl ?_
  refine oz_callS X rfl (As := [.int a1]) (S := [.ref (ad 0)]) (mX1_isProcess l hst D cI cZ ad a1) gX1_stateOf_X1_isProcess rfl rfl rfl hX1_isProcess ⟨by decide, by decide⟩ rfl rfl (Nat.le_of_ble_eq_true rfl) dX1_stateOf_2 (by omega) (by decide) (by decide) (fun r5 s5 => ?_)
  refine oz_if_eq X (tgt := 12) dX1_stateOf_5 (by decide) (fun q6 => ?_) (fun q6 => ?_)
  · refine oz_iconst X (v := 1) dX1_stateOf_12 (by decide) ?_
    exact oz_sub X [0, 1] (L2 := [(0, .ref (ad 0)), (1, .int a1)]) rfl (hc13 _ (by omega) a1 1 s5)
  · refine oz_iconst X (v := 0) dX1_stateOf_8 (by decide) ?_
    refine oz_goto X (tgt := 13) dX1_stateOf_9 (by decide) ?_
    exact oz_sub X [0, 1] (L2 := [(0, .ref (ad 0)), (1, .int a1)]) rfl (hc13 _ (by omega) a1 0 s5)

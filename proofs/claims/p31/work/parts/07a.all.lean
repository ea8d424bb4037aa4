/-! AlmsKernelLaw.all -/
def FL_all_w98 : Nat → Int64 → Int32 → Int32 → Option RC
  | 0, _, _, _ => none
  | n + 1, x1, x3, st => (if 5 ≤ x3 then some (lgc x1, 0, st) else bnd (FX0_purseN x3 st) (fun r3 s3 => bnd (FX0_stateOfN x3 s3) (fun r4 s4 => bnd (FX0_faultsN x3 s4) (fun r5 s5 => (FL_all_w98 n ((((1000003 * x1) + r3.toInt64) + (31 * r4.toInt64)) + (961 * r5.toInt64)) (x3 + 1) s5)))))
def FL_all_w38 : Nat → Int64 → Int32 → Int32 → Option RC
  | 0, _, _, _ => none
  | n + 1, x1, x3, st => (if 12 ≤ x3 then (FL_all_w98 62 x1 0 st) else bnd (FX0_ownerN x3 st) (fun r8 s8 => bnd (FX0_holderN x3 s8) (fun r9 s9 => bnd (FX0_pageInN x3 s9) (fun r10 s10 => bnd (FX0_ageN x3 s10) (fun r11 s11 => (FL_all_w38 n (((((1000003 * x1) + r8.toInt64) + (31 * r9.toInt64)) + (961 * r10.toInt64)) + (29791 * r11.toInt64)) (x3 + 1) s11))))))
def FL_all (st : Int32) : Option RC := bnd (FX0_tickN st) (fun r12 s12 => bnd (FX0_headN s12) (fun r13 s13 => bnd (FX0_requestsN s13) (fun r14 s14 => bnd (FX0_loansN s14) (fun r15 s15 => (FL_all_w38 62 (((r12.toInt64 + (31 * r13.toInt64)) + (1009 * r14.toInt64)) + (65537 * r15.toInt64)) 0 s15)))))
def rmL_all : Room := { frames := 3, cells := 0, slots := 0, locals := 63 }
theorem hL_all : yL_all.cls ≠ "java/lang/invoke/MethodHandle" ∧ yL_all.cls ≠ "java/lang/invoke/VarHandle" ∧ (parseMethodDescriptor yL_all.desc).map (fun d => d.parameters.length) = some 1 := by decide +kernel
set_option maxHeartbeats 4000000 in
set_option maxRecDepth 100000 in
theorem mL_all (l : Launch) (hst : l.stackTraces = false) (D : va_G) (cI cZ : ClassId) (ad : Nat → Nat) : oz_ML l yL_all wsL_all rmL_all D cI cZ RX0 0 oz_KSX0 ad oz_lyX0 0 [.ref (ad 0)] (FL_all) := by
  refine oz_ofL (wn := RL) (bytes := cL_all) (maxL := 4) (ret := (some .long)) (T := TX0) (N := 19) (by decide) rfl rfl oz_CX0 hst (Nat.le_of_ble_eq_true rfl) ?_
  intro p e s m below meth c st A res G hr X
  have hc98 : ∀ (n k : Nat), k ≤ 0 → ∀ (x1 : Int64) (x3 : Int32) (st : Int32), G k 98 [(0, .ref (ad 0)), (1, .long x1), (3, .int x3)] [] st (FL_all_w98 n x1 x3 st) := by
    intro n
    induction n with
    | zero => intros; exact oz_none X
    | succ n ih =>
      intro k hk x1 x3 st
      rw [FL_all_w98]
      refine oz_iload_n X dL_all_98 rfl 2 rfl ?_
      refine oz_iconst X (v := 5) dL_all_99 (by decide) ?_
      refine oz_icmp_ge X (tgt := 144) dL_all_100 (by decide) (fun q2 => ?_) (fun q2 => ?_)
      · refine oz_lload_n X dL_all_144 rfl 1 rfl ?_
        exact oz_lret X rfl hr (by omega) dL_all_145
      · refine oz_ldc2 X (v := 1000003) (by decide +kernel) dL_all_103 ?_
        refine oz_lload_n X dL_all_106 rfl 1 rfl ?_
        refine oz_lmul X dL_all_107 ?_
        refine oz_aload_n X dL_all_108 rfl 0 rfl ?_
        refine oz_iload_n X dL_all_109 rfl 2 rfl ?_
        refine oz_callV X rfl (As := [.int x3]) (S := [.long (1000003 * x1)]) (mX0_purseN l hst D cI cZ ad x3) gL_all_X0_purse rfl rfl rfl hX0_purseN ⟨by decide, by decide⟩ rfl rfl (Nat.le_of_ble_eq_true rfl) dL_all_110 (by omega) (by decide) (by decide) (fun r3 s3 => ?_)
        refine oz_i2l X dL_all_113 ?_
        refine oz_ladd X dL_all_114 ?_
        refine oz_ldc2 X (v := 31) (by decide +kernel) dL_all_115 ?_
        refine oz_aload_n X dL_all_118 rfl 0 rfl ?_
        refine oz_iload_n X dL_all_119 rfl 2 rfl ?_
        refine oz_callV X rfl (As := [.int x3]) (S := [.long 31, .long ((1000003 * x1) + r3.toInt64)]) (mX0_stateOfN l hst D cI cZ ad x3) gL_all_X0_stateOf rfl rfl rfl hX0_stateOfN ⟨by decide, by decide⟩ rfl rfl (Nat.le_of_ble_eq_true rfl) dL_all_120 (by omega) (by decide) (by decide) (fun r4 s4 => ?_)
        refine oz_i2l X dL_all_123 ?_
        refine oz_lmul X dL_all_124 ?_
        refine oz_ladd X dL_all_125 ?_
        refine oz_ldc2 X (v := 961) (by decide +kernel) dL_all_126 ?_
        refine oz_aload_n X dL_all_129 rfl 0 rfl ?_
        refine oz_iload_n X dL_all_130 rfl 2 rfl ?_
        refine oz_callV X rfl (As := [.int x3]) (S := [.long 961, .long (((1000003 * x1) + r3.toInt64) + (31 * r4.toInt64))]) (mX0_faultsN l hst D cI cZ ad x3) gL_all_X0_faults rfl rfl rfl hX0_faultsN ⟨by decide, by decide⟩ rfl rfl (Nat.le_of_ble_eq_true rfl) dL_all_131 (by omega) (by decide) (by decide) (fun r5 s5 => ?_)
        refine oz_i2l X dL_all_134 ?_
        refine oz_lmul X dL_all_135 ?_
        refine oz_ladd X dL_all_136 ?_
        refine oz_lstore_n X (L2 := [(1, .long ((((1000003 * x1) + r3.toInt64) + (31 * r4.toInt64)) + (961 * r5.toInt64))), (0, .ref (ad 0)), (3, .int x3)]) dL_all_137 rfl (by decide) rfl ?_
        refine oz_iinc X (q := 2) (v := x3 + 1) (L2 := [(3, .int (x3 + 1)), (1, .long ((((1000003 * x1) + r3.toInt64) + (31 * r4.toInt64)) + (961 * r5.toInt64))), (0, .ref (ad 0))]) dL_all_138 rfl rfl (by decide) rfl ?_
        refine oz_goto X (tgt := 98) dL_all_141 (by decide) ?_
        exact oz_sub X [2, 1, 0] (L2 := [(0, .ref (ad 0)), (1, .long ((((1000003 * x1) + r3.toInt64) + (31 * r4.toInt64)) + (961 * r5.toInt64))), (3, .int (x3 + 1))]) rfl (ih _ (by omega) ((((1000003 * x1) + r3.toInt64) + (31 * r4.toInt64)) + (961 * r5.toInt64)) (x3 + 1) s5)
  have hc38 : ∀ (n k : Nat), k ≤ 0 → ∀ (x1 : Int64) (x3 : Int32) (st : Int32), G k 38 [(0, .ref (ad 0)), (1, .long x1), (3, .int x3)] [] st (FL_all_w38 n x1 x3 st) := by
    intro n
    induction n with
    | zero => intros; exact oz_none X
    | succ n ih =>
      intro k hk x1 x3 st
      rw [FL_all_w38]
      refine oz_iload_n X dL_all_38 rfl 2 rfl ?_
      refine oz_bipush X (v := 12) dL_all_39 (by decide) ?_
      refine oz_icmp_ge X (tgt := 96) dL_all_41 (by decide) (fun q7 => ?_) (fun q7 => ?_)
      · refine oz_iconst X (v := 0) dL_all_96 (by decide) ?_
        refine oz_istore_n X (L2 := [(3, .int 0), (0, .ref (ad 0)), (1, .long x1)]) dL_all_97 rfl (by decide) rfl ?_
        exact oz_sub X [1, 2, 0] (L2 := [(0, .ref (ad 0)), (1, .long x1), (3, .int 0)]) rfl (hc98 62 _ (by omega) x1 0 st)
      · refine oz_ldc2 X (v := 1000003) (by decide +kernel) dL_all_44 ?_
        refine oz_lload_n X dL_all_47 rfl 1 rfl ?_
        refine oz_lmul X dL_all_48 ?_
        refine oz_aload_n X dL_all_49 rfl 0 rfl ?_
        refine oz_iload_n X dL_all_50 rfl 2 rfl ?_
        refine oz_callV X rfl (As := [.int x3]) (S := [.long (1000003 * x1)]) (mX0_ownerN l hst D cI cZ ad x3) gL_all_X0_owner rfl rfl rfl hX0_ownerN ⟨by decide, by decide⟩ rfl rfl (Nat.le_of_ble_eq_true rfl) dL_all_51 (by omega) (by decide) (by decide) (fun r8 s8 => ?_)
        refine oz_i2l X dL_all_54 ?_
        refine oz_ladd X dL_all_55 ?_
        refine oz_ldc2 X (v := 31) (by decide +kernel) dL_all_56 ?_
        refine oz_aload_n X dL_all_59 rfl 0 rfl ?_
        refine oz_iload_n X dL_all_60 rfl 2 rfl ?_
        refine oz_callV X rfl (As := [.int x3]) (S := [.long 31, .long ((1000003 * x1) + r8.toInt64)]) (mX0_holderN l hst D cI cZ ad x3) gL_all_X0_holder rfl rfl rfl hX0_holderN ⟨by decide, by decide⟩ rfl rfl (Nat.le_of_ble_eq_true rfl) dL_all_61 (by omega) (by decide) (by decide) (fun r9 s9 => ?_)
        refine oz_i2l X dL_all_64 ?_
        refine oz_lmul X dL_all_65 ?_
        refine oz_ladd X dL_all_66 ?_
        refine oz_ldc2 X (v := 961) (by decide +kernel) dL_all_67 ?_
        refine oz_aload_n X dL_all_70 rfl 0 rfl ?_
        refine oz_iload_n X dL_all_71 rfl 2 rfl ?_
        refine oz_callV X rfl (As := [.int x3]) (S := [.long 961, .long (((1000003 * x1) + r8.toInt64) + (31 * r9.toInt64))]) (mX0_pageInN l hst D cI cZ ad x3) gL_all_X0_pageIn rfl rfl rfl hX0_pageInN ⟨by decide, by decide⟩ rfl rfl (Nat.le_of_ble_eq_true rfl) dL_all_72 (by omega) (by decide) (by decide) (fun r10 s10 => ?_)
        refine oz_i2l X dL_all_75 ?_
        refine oz_lmul X dL_all_76 ?_
        refine oz_ladd X dL_all_77 ?_
        refine oz_ldc2 X (v := 29791) (by decide +kernel) dL_all_78 ?_
        refine oz_aload_n X dL_all_81 rfl 0 rfl ?_
        refine oz_iload_n X dL_all_82 rfl 2 rfl ?_
        refine oz_callV X rfl (As := [.int x3]) (S := [.long 29791, .long ((((1000003 * x1) + r8.toInt64) + (31 * r9.toInt64)) + (961 * r10.toInt64))]) (mX0_ageN l hst D cI cZ ad x3) gL_all_X0_age rfl rfl rfl hX0_ageN ⟨by decide, by decide⟩ rfl rfl (Nat.le_of_ble_eq_true rfl) dL_all_83 (by omega) (by decide) (by decide) (fun r11 s11 => ?_)
        refine oz_i2l X dL_all_86 ?_
        refine oz_lmul X dL_all_87 ?_
        refine oz_ladd X dL_all_88 ?_
        refine oz_lstore_n X (L2 := [(1, .long (((((1000003 * x1) + r8.toInt64) + (31 * r9.toInt64)) + (961 * r10.toInt64)) + (29791 * r11.toInt64))), (0, .ref (ad 0)), (3, .int x3)]) dL_all_89 rfl (by decide) rfl ?_
        refine oz_iinc X (q := 2) (v := x3 + 1) (L2 := [(3, .int (x3 + 1)), (1, .long (((((1000003 * x1) + r8.toInt64) + (31 * r9.toInt64)) + (961 * r10.toInt64)) + (29791 * r11.toInt64))), (0, .ref (ad 0))]) dL_all_90 rfl rfl (by decide) rfl ?_
        refine oz_goto X (tgt := 38) dL_all_93 (by decide) ?_
        exact oz_sub X [2, 1, 0] (L2 := [(0, .ref (ad 0)), (1, .long (((((1000003 * x1) + r8.toInt64) + (31 * r9.toInt64)) + (961 * r10.toInt64)) + (29791 * r11.toInt64))), (3, .int (x3 + 1))]) rfl (ih _ (by omega) (((((1000003 * x1) + r8.toInt64) + (31 * r9.toInt64)) + (961 * r10.toInt64)) + (29791 * r11.toInt64)) (x3 + 1) s11)
  show G 0 0 [(0, .ref (ad 0))] [] st (FL_all st)
  unfold FL_all
  refine oz_aload_n X dL_all_0 rfl 0 rfl ?_
  refine oz_callV X rfl (As := []) (S := []) (mX0_tickN l hst D cI cZ ad) gL_all_X0_tick rfl rfl rfl hX0_tickN ⟨by decide, by decide⟩ rfl rfl (Nat.le_of_ble_eq_true rfl) dL_all_1 (by omega) (by decide) (by decide) (fun r12 s12 => ?_)
  refine oz_i2l X dL_all_4 ?_
  refine oz_ldc2 X (v := 31) (by decide +kernel) dL_all_5 ?_
  refine oz_aload_n X dL_all_8 rfl 0 rfl ?_
  refine oz_callV X rfl (As := []) (S := [.long 31, .long r12.toInt64]) (mX0_headN l hst D cI cZ ad) gL_all_X0_head rfl rfl rfl hX0_headN ⟨by decide, by decide⟩ rfl rfl (Nat.le_of_ble_eq_true rfl) dL_all_9 (by omega) (by decide) (by decide) (fun r13 s13 => ?_)
  refine oz_i2l X dL_all_12 ?_
  refine oz_lmul X dL_all_13 ?_
  refine oz_ladd X dL_all_14 ?_
  refine oz_ldc2 X (v := 1009) (by decide +kernel) dL_all_15 ?_
  refine oz_aload_n X dL_all_18 rfl 0 rfl ?_
  refine oz_callV X rfl (As := []) (S := [.long 1009, .long (r12.toInt64 + (31 * r13.toInt64))]) (mX0_requestsN l hst D cI cZ ad) gL_all_X0_requests rfl rfl rfl hX0_requestsN ⟨by decide, by decide⟩ rfl rfl (Nat.le_of_ble_eq_true rfl) dL_all_19 (by omega) (by decide) (by decide) (fun r14 s14 => ?_)
  refine oz_i2l X dL_all_22 ?_
  refine oz_lmul X dL_all_23 ?_
  refine oz_ladd X dL_all_24 ?_
  refine oz_ldc2 X (v := 65537) (by decide +kernel) dL_all_25 ?_
  refine oz_aload_n X dL_all_28 rfl 0 rfl ?_
  refine oz_callV X rfl (As := []) (S := [.long 65537, .long ((r12.toInt64 + (31 * r13.toInt64)) + (1009 * r14.toInt64))]) (mX0_loansN l hst D cI cZ ad) gL_all_X0_loans rfl rfl rfl hX0_loansN ⟨by decide, by decide⟩ rfl rfl (Nat.le_of_ble_eq_true rfl) dL_all_29 (by omega) (by decide) (by decide) (fun r15 s15 => ?_)
  refine oz_i2l X dL_all_32 ?_
  refine oz_lmul X dL_all_33 ?_
  refine oz_ladd X dL_all_34 ?_
  refine oz_lstore_n X (L2 := [(1, .long (((r12.toInt64 + (31 * r13.toInt64)) + (1009 * r14.toInt64)) + (65537 * r15.toInt64))), (0, .ref (ad 0))]) dL_all_35 rfl (by decide) rfl ?_
  refine oz_iconst X (v := 0) dL_all_36 (by decide) ?_
  refine oz_istore_n X (L2 := [(3, .int 0), (1, .long (((r12.toInt64 + (31 * r13.toInt64)) + (1009 * r14.toInt64)) + (65537 * r15.toInt64))), (0, .ref (ad 0))]) dL_all_37 rfl (by decide) rfl ?_
  exact oz_sub X [2, 1, 0] (L2 := [(0, .ref (ad 0)), (1, .long (((r12.toInt64 + (31 * r13.toInt64)) + (1009 * r14.toInt64)) + (65537 * r15.toInt64))), (3, .int 0)]) rfl (hc38 62 _ (by omega) (((r12.toInt64 + (31 * r13.toInt64)) + (1009 * r14.toInt64)) + (65537 * r15.toInt64)) 0 s15)

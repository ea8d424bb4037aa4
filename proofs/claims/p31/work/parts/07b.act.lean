/-! AlmsKernelLaw.act -/
def FL_act (a1 a2 a3 : Int32) (st : Int32) : Option RC := (if a1 = 0 then actc (FX0_setWage a2 a3 st) else (if a1 = 1 then actc (FX0_setRate a2 st) else (if a1 = 2 then actc (FX0_buy a2 st) else (if a1 = 3 then actc (FX0_sell a2 st) else (if a1 = 4 then actc (FX0_drop a2 st) else (if a1 = 5 then actc (FX0_touch a2 a3 st) else (if a1 = 6 then actc (FX0_payBack a2 st) else actc (FX0_advance a2 st))))))))
def rmL_act : Room := { frames := 7, cells := 1, slots := 6, locals := 110 }
theorem hL_act : yL_act.cls ≠ "java/lang/invoke/MethodHandle" ∧ yL_act.cls ≠ "java/lang/invoke/VarHandle" ∧ (parseMethodDescriptor yL_act.desc).map (fun d => d.parameters.length) = some 4 := by decide +kernel
set_option maxHeartbeats 4000000 in
set_option maxRecDepth 100000 in
theorem mL_act (l : Launch) (hst : l.stackTraces = false) (D : va_G) (cI cZ : ClassId) (ad : Nat → Nat) (a1 a2 a3 : Int32) : oz_MI l yL_act wsL_act rmL_act D cI cZ RX0 0 oz_KSX0 ad oz_lyX0 1 [.ref (ad 0), .int a1, .int a2, .int a3] (FL_act a1 a2 a3) := by
  refine oz_ofIX (wn := RL) (bytes := cL_act) (maxL := 5) (ret := (some .int)) (hh := [(0, 98, 99, 37), (0, 98, 105, 39), (0, 98, 111, 41)]) (T := TX0) (N := 19) (by decide) rfl rfl oz_CX0 hst (Nat.le_of_ble_eq_true rfl) ?_
  intro p e s m below meth c st A res G hr X
  have tl1 : Cond.classLink RL 37 (oz_exn 1) ∈ wsL_act := by decide +kernel
  have tl3 : Cond.classLink RL 39 (oz_exn 3) ∈ wsL_act := by decide +kernel
  have tl2 : Cond.classLink RL 41 (oz_exn 2) ∈ wsL_act := by decide +kernel
  show G 0 0 [(0, .ref (ad 0)), (1, .int a1), (2, .int a2), (3, .int a3)] [] st (FL_act a1 a2 a3 st)
  unfold FL_act
  refine oz_iload_n X dL_act_0 rfl 1 rfl ?_
  refine oz_if_ne X (tgt := 13) dL_act_1 (by decide) (fun q1 => ?_) (fun q1 => ?_)
  · refine oz_iload_n X dL_act_13 rfl 1 rfl ?_
    refine oz_iconst X (v := 1) dL_act_14 (by decide) ?_
    refine oz_icmp_ne X (tgt := 26) dL_act_15 (by decide) (fun q2 => ?_) (fun q2 => ?_)
    · refine oz_iload_n X dL_act_26 rfl 1 rfl ?_
      refine oz_iconst X (v := 2) dL_act_27 (by decide) ?_
      refine oz_icmp_ne X (tgt := 39) dL_act_28 (by decide) (fun q3 => ?_) (fun q3 => ?_)
      · refine oz_iload_n X dL_act_39 rfl 1 rfl ?_
        refine oz_iconst X (v := 3) dL_act_40 (by decide) ?_
        refine oz_icmp_ne X (tgt := 52) dL_act_41 (by decide) (fun q4 => ?_) (fun q4 => ?_)
        · refine oz_iload_n X dL_act_52 rfl 1 rfl ?_
          refine oz_iconst X (v := 4) dL_act_53 (by decide) ?_
          refine oz_icmp_ne X (tgt := 65) dL_act_54 (by decide) (fun q5 => ?_) (fun q5 => ?_)
          · refine oz_iload_n X dL_act_65 rfl 1 rfl ?_
            refine oz_iconst X (v := 5) dL_act_66 (by decide) ?_
            refine oz_icmp_ne X (tgt := 79) dL_act_67 (by decide) (fun q6 => ?_) (fun q6 => ?_)
            · refine oz_iload_n X dL_act_79 rfl 1 rfl ?_
              refine oz_bipush X (v := 6) dL_act_80 (by decide) ?_
              refine oz_icmp_ne X (tgt := 93) dL_act_82 (by decide) (fun q7 => ?_) (fun q7 => ?_)
              · refine oz_aload_n X dL_act_93 rfl 0 rfl ?_
                refine oz_iload_n X dL_act_94 rfl 2 rfl ?_
                exact oz_callA X rfl (As := [.int a2]) (mX0_advance l hst D cI cZ ad a2) gL_act_X0_advance rfl rfl rfl hX0_advance ⟨by decide, by decide⟩ hr rfl rfl dL_act_95 (by omega) (by decide) (by decide) (by decide) (by decide) tl1 tl3 tl2 dL_act_99 dL_act_101 dL_act_104 dL_act_105 dL_act_107 dL_act_110 dL_act_111 dL_act_113 dL_act_116
              · refine oz_aload_n X dL_act_85 rfl 0 rfl ?_
                refine oz_iload_n X dL_act_86 rfl 2 rfl ?_
                exact oz_callA X rfl (As := [.int a2]) (mX0_payBack l hst D cI cZ ad a2) gL_act_X0_payBack rfl rfl rfl hX0_payBack ⟨by decide, by decide⟩ hr rfl rfl dL_act_87 (by omega) (by decide) (by decide) (by decide) (by decide) tl1 tl3 tl2 dL_act_99 dL_act_101 dL_act_104 dL_act_105 dL_act_107 dL_act_110 dL_act_111 dL_act_113 dL_act_116
            · refine oz_aload_n X dL_act_70 rfl 0 rfl ?_
              refine oz_iload_n X dL_act_71 rfl 2 rfl ?_
              refine oz_iload_n X dL_act_72 rfl 3 rfl ?_
              exact oz_callA X rfl (As := [.int a2, .int a3]) (mX0_touch l hst D cI cZ ad a2 a3) gL_act_X0_touch rfl rfl rfl hX0_touch ⟨by decide, by decide⟩ hr rfl rfl dL_act_73 (by omega) (by decide) (by decide) (by decide) (by decide) tl1 tl3 tl2 dL_act_99 dL_act_101 dL_act_104 dL_act_105 dL_act_107 dL_act_110 dL_act_111 dL_act_113 dL_act_116
          · refine oz_aload_n X dL_act_57 rfl 0 rfl ?_
            refine oz_iload_n X dL_act_58 rfl 2 rfl ?_
            exact oz_callA X rfl (As := [.int a2]) (mX0_drop l hst D cI cZ ad a2) gL_act_X0_drop rfl rfl rfl hX0_drop ⟨by decide, by decide⟩ hr rfl rfl dL_act_59 (by omega) (by decide) (by decide) (by decide) (by decide) tl1 tl3 tl2 dL_act_99 dL_act_101 dL_act_104 dL_act_105 dL_act_107 dL_act_110 dL_act_111 dL_act_113 dL_act_116
        · refine oz_aload_n X dL_act_44 rfl 0 rfl ?_
          refine oz_iload_n X dL_act_45 rfl 2 rfl ?_
          exact oz_callA X rfl (As := [.int a2]) (mX0_sell l hst D cI cZ ad a2) gL_act_X0_sell rfl rfl rfl hX0_sell ⟨by decide, by decide⟩ hr rfl rfl dL_act_46 (by omega) (by decide) (by decide) (by decide) (by decide) tl1 tl3 tl2 dL_act_99 dL_act_101 dL_act_104 dL_act_105 dL_act_107 dL_act_110 dL_act_111 dL_act_113 dL_act_116
      · refine oz_aload_n X dL_act_31 rfl 0 rfl ?_
        refine oz_iload_n X dL_act_32 rfl 2 rfl ?_
        exact oz_callA X rfl (As := [.int a2]) (mX0_buy l hst D cI cZ ad a2) gL_act_X0_buy rfl rfl rfl hX0_buy ⟨by decide, by decide⟩ hr rfl rfl dL_act_33 (by omega) (by decide) (by decide) (by decide) (by decide) tl1 tl3 tl2 dL_act_99 dL_act_101 dL_act_104 dL_act_105 dL_act_107 dL_act_110 dL_act_111 dL_act_113 dL_act_116
    · refine oz_aload_n X dL_act_18 rfl 0 rfl ?_
      refine oz_iload_n X dL_act_19 rfl 2 rfl ?_
      exact oz_callA X rfl (As := [.int a2]) (mX0_setRate l hst D cI cZ ad a2) gL_act_X0_setRate rfl rfl rfl hX0_setRate ⟨by decide, by decide⟩ hr rfl rfl dL_act_20 (by omega) (by decide) (by decide) (by decide) (by decide) tl1 tl3 tl2 dL_act_99 dL_act_101 dL_act_104 dL_act_105 dL_act_107 dL_act_110 dL_act_111 dL_act_113 dL_act_116
  · refine oz_aload_n X dL_act_4 rfl 0 rfl ?_
    refine oz_iload_n X dL_act_5 rfl 2 rfl ?_
    refine oz_iload_n X dL_act_6 rfl 3 rfl ?_
    exact oz_callA X rfl (As := [.int a2, .int a3]) (mX0_setWage l hst D cI cZ ad a2 a3) gL_act_X0_setWage rfl rfl rfl hX0_setWage ⟨by decide, by decide⟩ hr rfl rfl dL_act_7 (by omega) (by decide) (by decide) (by decide) (by decide) tl1 tl3 tl2 dL_act_99 dL_act_101 dL_act_104 dL_act_105 dL_act_107 dL_act_110 dL_act_111 dL_act_113 dL_act_116

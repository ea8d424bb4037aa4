/-! AlmsKernelLaw.of -/
def FL_of (a1 a2 : Int32) (st : Int32) : Option RC := (if a1 = 0 then ofc (FX0_owner a2 st) else (if a1 = 1 then ofc (FX0_holder a2 st) else (if a1 = 2 then ofc (FX0_holderByLog a2 st) else (if a1 = 3 then ofc (FX0_pageIn a2 st) else (if a1 = 4 then ofc (FX0_age a2 st) else (if a1 = 5 then ofc (FX0_owns a2 st) else (if a1 = 6 then ofc (FX0_borrowed a2 st) else (if a1 = 7 then ofc (FX0_lent a2 st) else (if a1 = 8 then ofc (FX0_stateOf a2 st) else (if a1 = 9 then ofc (FX0_purse a2 st) else (if a1 = 10 then ofc (FX0_faults a2 st) else (if a1 = 11 then ofc (FX0_lasts a2 st) else (if a1 = 12 then ofc (FX0_partiesOf a2 st) else (if a1 = 13 then ofc (FX0_interest a2 st) else ofc (FX0_requestAt a2 st)))))))))))))))
def rmL_of : Room := { frames := 7, cells := 1, slots := 6, locals := 109 }
theorem hL_of : yL_of.cls ≠ "java/lang/invoke/MethodHandle" ∧ yL_of.cls ≠ "java/lang/invoke/VarHandle" ∧ (parseMethodDescriptor yL_of.desc).map (fun d => d.parameters.length) = some 3 := by decide +kernel
set_option maxHeartbeats 4000000 in
set_option maxRecDepth 100000 in
theorem mL_of (l : Launch) (hst : l.stackTraces = false) (D : va_G) (cI cZ : ClassId) (ad : Nat → Nat) (a1 a2 : Int32) : oz_MI l yL_of wsL_of rmL_of D cI cZ RX0 0 oz_KSX0 ad oz_lyX0 1 [.ref (ad 0), .int a1, .int a2] (FL_of a1 a2) := by
  refine oz_ofIX (wn := RL) (bytes := cL_of) (maxL := 4) (ret := (some .int)) (hh := [(0, 202, 203, 37)]) (T := TX0) (N := 19) (by decide) rfl rfl oz_CX0 hst (Nat.le_of_ble_eq_true rfl) ?_
  intro p e s m below meth c st A res G hr X
  have tl1 : Cond.classLink RL 37 (oz_exn 1) ∈ wsL_of := by decide +kernel
  show G 0 0 [(0, .ref (ad 0)), (1, .int a1), (2, .int a2)] [] st (FL_of a1 a2 st)
  unfold FL_of
  refine oz_iload_n X dL_of_0 rfl 1 rfl ?_
  refine oz_if_ne X (tgt := 12) dL_of_1 (by decide) (fun q1 => ?_) (fun q1 => ?_)
  · refine oz_iload_n X dL_of_12 rfl 1 rfl ?_
    refine oz_iconst X (v := 1) dL_of_13 (by decide) ?_
    refine oz_icmp_ne X (tgt := 25) dL_of_14 (by decide) (fun q2 => ?_) (fun q2 => ?_)
    · refine oz_iload_n X dL_of_25 rfl 1 rfl ?_
      refine oz_iconst X (v := 2) dL_of_26 (by decide) ?_
      refine oz_icmp_ne X (tgt := 38) dL_of_27 (by decide) (fun q3 => ?_) (fun q3 => ?_)
      · refine oz_iload_n X dL_of_38 rfl 1 rfl ?_
        refine oz_iconst X (v := 3) dL_of_39 (by decide) ?_
        refine oz_icmp_ne X (tgt := 51) dL_of_40 (by decide) (fun q4 => ?_) (fun q4 => ?_)
        · refine oz_iload_n X dL_of_51 rfl 1 rfl ?_
          refine oz_iconst X (v := 4) dL_of_52 (by decide) ?_
          refine oz_icmp_ne X (tgt := 64) dL_of_53 (by decide) (fun q5 => ?_) (fun q5 => ?_)
          · refine oz_iload_n X dL_of_64 rfl 1 rfl ?_
            refine oz_iconst X (v := 5) dL_of_65 (by decide) ?_
            refine oz_icmp_ne X (tgt := 77) dL_of_66 (by decide) (fun q6 => ?_) (fun q6 => ?_)
            · refine oz_iload_n X dL_of_77 rfl 1 rfl ?_
              refine oz_bipush X (v := 6) dL_of_78 (by decide) ?_
              refine oz_icmp_ne X (tgt := 91) dL_of_80 (by decide) (fun q7 => ?_) (fun q7 => ?_)
              · refine oz_iload_n X dL_of_91 rfl 1 rfl ?_
                refine oz_bipush X (v := 7) dL_of_92 (by decide) ?_
                refine oz_icmp_ne X (tgt := 105) dL_of_94 (by decide) (fun q8 => ?_) (fun q8 => ?_)
                · refine oz_iload_n X dL_of_105 rfl 1 rfl ?_
                  refine oz_bipush X (v := 8) dL_of_106 (by decide) ?_
                  refine oz_icmp_ne X (tgt := 119) dL_of_108 (by decide) (fun q9 => ?_) (fun q9 => ?_)
                  · refine oz_iload_n X dL_of_119 rfl 1 rfl ?_
                    refine oz_bipush X (v := 9) dL_of_120 (by decide) ?_
                    refine oz_icmp_ne X (tgt := 133) dL_of_122 (by decide) (fun q10 => ?_) (fun q10 => ?_)
                    · refine oz_iload_n X dL_of_133 rfl 1 rfl ?_
                      refine oz_bipush X (v := 10) dL_of_134 (by decide) ?_
                      refine oz_icmp_ne X (tgt := 147) dL_of_136 (by decide) (fun q11 => ?_) (fun q11 => ?_)
                      · refine oz_iload_n X dL_of_147 rfl 1 rfl ?_
                        refine oz_bipush X (v := 11) dL_of_148 (by decide) ?_
                        refine oz_icmp_ne X (tgt := 169) dL_of_150 (by decide) (fun q12 => ?_) (fun q12 => ?_)
                        · refine oz_iload_n X dL_of_169 rfl 1 rfl ?_
                          refine oz_bipush X (v := 12) dL_of_170 (by decide) ?_
                          refine oz_icmp_ne X (tgt := 183) dL_of_172 (by decide) (fun q13 => ?_) (fun q13 => ?_)
                          · refine oz_iload_n X dL_of_183 rfl 1 rfl ?_
                            refine oz_bipush X (v := 13) dL_of_184 (by decide) ?_
                            refine oz_icmp_ne X (tgt := 197) dL_of_186 (by decide) (fun q14 => ?_) (fun q14 => ?_)
                            · refine oz_aload_n X dL_of_197 rfl 0 rfl ?_
                              refine oz_iload_n X dL_of_198 rfl 2 rfl ?_
                              exact oz_callO X rfl (As := [.int a2]) (mX0_requestAt l hst D cI cZ ad a2) gL_of_X0_requestAt rfl rfl rfl hX0_requestAt ⟨by decide, by decide⟩ hr rfl rfl dL_of_199 (by omega) (by decide) (by decide) (by decide) (by decide) tl1 dL_of_203 dL_of_204 dL_of_207
                            · refine oz_aload_n X dL_of_189 rfl 0 rfl ?_
                              refine oz_iload_n X dL_of_190 rfl 2 rfl ?_
                              exact oz_callO X rfl (As := [.int a2]) (mX0_interest l hst D cI cZ ad a2) gL_of_X0_interest rfl rfl rfl hX0_interest ⟨by decide, by decide⟩ hr rfl rfl dL_of_191 (by omega) (by decide) (by decide) (by decide) (by decide) tl1 dL_of_203 dL_of_204 dL_of_207
                          · refine oz_aload_n X dL_of_175 rfl 0 rfl ?_
                            refine oz_iload_n X dL_of_176 rfl 2 rfl ?_
                            exact oz_callO X rfl (As := [.int a2]) (mX0_partiesOf l hst D cI cZ ad a2) gL_of_X0_partiesOf rfl rfl rfl hX0_partiesOf ⟨by decide, by decide⟩ hr rfl rfl dL_of_177 (by omega) (by decide) (by decide) (by decide) (by decide) tl1 dL_of_203 dL_of_204 dL_of_207
                        · refine oz_aload_n X dL_of_153 rfl 0 rfl ?_
                          refine oz_iload_n X dL_of_154 rfl 2 rfl ?_
                          exact oz_callO X rfl (As := [.int a2]) (mX0_lasts l hst D cI cZ ad a2) gL_of_X0_lasts rfl rfl rfl hX0_lasts ⟨by decide, by decide⟩ hr rfl rfl dL_of_155 (by omega) (by decide) (by decide) (by decide) (by decide) tl1 dL_of_203 dL_of_204 dL_of_207
                      · refine oz_aload_n X dL_of_139 rfl 0 rfl ?_
                        refine oz_iload_n X dL_of_140 rfl 2 rfl ?_
                        exact oz_callO X rfl (As := [.int a2]) (mX0_faults l hst D cI cZ ad a2) gL_of_X0_faults rfl rfl rfl hX0_faults ⟨by decide, by decide⟩ hr rfl rfl dL_of_141 (by omega) (by decide) (by decide) (by decide) (by decide) tl1 dL_of_203 dL_of_204 dL_of_207
                    · refine oz_aload_n X dL_of_125 rfl 0 rfl ?_
                      refine oz_iload_n X dL_of_126 rfl 2 rfl ?_
                      exact oz_callO X rfl (As := [.int a2]) (mX0_purse l hst D cI cZ ad a2) gL_of_X0_purse rfl rfl rfl hX0_purse ⟨by decide, by decide⟩ hr rfl rfl dL_of_127 (by omega) (by decide) (by decide) (by decide) (by decide) tl1 dL_of_203 dL_of_204 dL_of_207
                  · refine oz_aload_n X dL_of_111 rfl 0 rfl ?_
                    refine oz_iload_n X dL_of_112 rfl 2 rfl ?_
                    exact oz_callO X rfl (As := [.int a2]) (mX0_stateOf l hst D cI cZ ad a2) gL_of_X0_stateOf rfl rfl rfl hX0_stateOf ⟨by decide, by decide⟩ hr rfl rfl dL_of_113 (by omega) (by decide) (by decide) (by decide) (by decide) tl1 dL_of_203 dL_of_204 dL_of_207
                · refine oz_aload_n X dL_of_97 rfl 0 rfl ?_
                  refine oz_iload_n X dL_of_98 rfl 2 rfl ?_
                  exact oz_callO X rfl (As := [.int a2]) (mX0_lent l hst D cI cZ ad a2) gL_of_X0_lent rfl rfl rfl hX0_lent ⟨by decide, by decide⟩ hr rfl rfl dL_of_99 (by omega) (by decide) (by decide) (by decide) (by decide) tl1 dL_of_203 dL_of_204 dL_of_207
              · refine oz_aload_n X dL_of_83 rfl 0 rfl ?_
                refine oz_iload_n X dL_of_84 rfl 2 rfl ?_
                exact oz_callO X rfl (As := [.int a2]) (mX0_borrowed l hst D cI cZ ad a2) gL_of_X0_borrowed rfl rfl rfl hX0_borrowed ⟨by decide, by decide⟩ hr rfl rfl dL_of_85 (by omega) (by decide) (by decide) (by decide) (by decide) tl1 dL_of_203 dL_of_204 dL_of_207
            · refine oz_aload_n X dL_of_69 rfl 0 rfl ?_
              refine oz_iload_n X dL_of_70 rfl 2 rfl ?_
              exact oz_callO X rfl (As := [.int a2]) (mX0_owns l hst D cI cZ ad a2) gL_of_X0_owns rfl rfl rfl hX0_owns ⟨by decide, by decide⟩ hr rfl rfl dL_of_71 (by omega) (by decide) (by decide) (by decide) (by decide) tl1 dL_of_203 dL_of_204 dL_of_207
          · refine oz_aload_n X dL_of_56 rfl 0 rfl ?_
            refine oz_iload_n X dL_of_57 rfl 2 rfl ?_
            exact oz_callO X rfl (As := [.int a2]) (mX0_age l hst D cI cZ ad a2) gL_of_X0_age rfl rfl rfl hX0_age ⟨by decide, by decide⟩ hr rfl rfl dL_of_58 (by omega) (by decide) (by decide) (by decide) (by decide) tl1 dL_of_203 dL_of_204 dL_of_207
        · refine oz_aload_n X dL_of_43 rfl 0 rfl ?_
          refine oz_iload_n X dL_of_44 rfl 2 rfl ?_
          exact oz_callO X rfl (As := [.int a2]) (mX0_pageIn l hst D cI cZ ad a2) gL_of_X0_pageIn rfl rfl rfl hX0_pageIn ⟨by decide, by decide⟩ hr rfl rfl dL_of_45 (by omega) (by decide) (by decide) (by decide) (by decide) tl1 dL_of_203 dL_of_204 dL_of_207
      · refine oz_aload_n X dL_of_30 rfl 0 rfl ?_
        refine oz_iload_n X dL_of_31 rfl 2 rfl ?_
        exact oz_callO X rfl (As := [.int a2]) (mX0_holderByLog l hst D cI cZ ad a2) gL_of_X0_holderByLog rfl rfl rfl hX0_holderByLog ⟨by decide, by decide⟩ hr rfl rfl dL_of_32 (by omega) (by decide) (by decide) (by decide) (by decide) tl1 dL_of_203 dL_of_204 dL_of_207
    · refine oz_aload_n X dL_of_17 rfl 0 rfl ?_
      refine oz_iload_n X dL_of_18 rfl 2 rfl ?_
      exact oz_callO X rfl (As := [.int a2]) (mX0_holder l hst D cI cZ ad a2) gL_of_X0_holder rfl rfl rfl hX0_holder ⟨by decide, by decide⟩ hr rfl rfl dL_of_19 (by omega) (by decide) (by decide) (by decide) (by decide) tl1 dL_of_203 dL_of_204 dL_of_207
  · refine oz_aload_n X dL_of_4 rfl 0 rfl ?_
    refine oz_iload_n X dL_of_5 rfl 2 rfl ?_
    exact oz_callO X rfl (As := [.int a2]) (mX0_owner l hst D cI cZ ad a2) gL_of_X0_owner rfl rfl rfl hX0_owner ⟨by decide, by decide⟩ hr rfl rfl dL_of_6 (by omega) (by decide) (by decide) (by decide) (by decide) tl1 dL_of_203 dL_of_204 dL_of_207

def rmL_setWage : Room := { frames := 7, cells := 1, slots := 6, locals := 105 }
theorem hL_setWage : yL_setWage.cls ≠ "java/lang/invoke/MethodHandle" ∧ yL_setWage.cls ≠ "java/lang/invoke/VarHandle" ∧ (parseMethodDescriptor yL_setWage.desc).map (fun d => d.parameters.length) = some 4 := by decide +kernel
theorem lkL_setWage_13 : Cond.classLink RL 13 "java/lang/IndexOutOfBoundsException" ∈ wsL_setWage := by decide +kernel
theorem lkL_setWage_15 : Cond.classLink RL 15 "java/lang/IllegalArgumentException" ∈ wsL_setWage := by decide +kernel
set_option maxHeartbeats 4000000 in
set_option maxRecDepth 100000 in
theorem mL_setWage (l : Launch) (hst : l.stackTraces = false) (D : va_G) (cI cZ cJ : ClassId) (ad : Nat → Nat) (ao : Nat) (a1 a2 : Int32) : ow_MW l yL_setWage wsL_setWage rmL_setWage D cI cZ cJ ad ao 1 [.ref (ad 0), .int a1, .int a2, .ref ao] Int32.toInt64 [(1, 1), (3, 2)] (FX0_setWage a1 a2) := by
  refine ow_of (bytes := cL_setWage) (maxL := 5) (hh := [(0, 10, 13, 13), (0, 10, 17, 15)]) (by decide) rfl rfl (Nat.le_of_ble_eq_true rfl) ?_
  intro p e s m below meth c st f A r0 x ls X hfo hr0 hP hPo hl hS
  have X' := X
  obtain ⟨⟨hx, hb, hml, hown, hts⟩, hK, hD, hA, hKS, hBX, hNC, hU, hN, hr, hlk, htab⟩ := X
  obtain ⟨en, v, st2⟩ := r0
  have hl : lv_has ls 5 [(0, .ref (ad 0)), (1, .int a1), (2, .int a2), (3, .ref ao)] := hl
  refine lv_aload_n hx hb dL_setWage_0 rfl (lv_at hl 3 rfl) ?_
  refine lv_iconst (v := 0) hx hb dL_setWage_1 (by decide) ?_
  refine lv_aload_n hx hb dL_setWage_2 rfl (lv_at hl 0 rfl) ?_
  refine lv_iload_n hx hb dL_setWage_3 rfl (lv_at hl 1 rfl) ?_
  refine lv_iload_n hx hb dL_setWage_4 rfl (lv_at hl 2 rfl) ?_
  refine ow_call (As := [.int a1, .int a2]) (rest := [.int 0, .ref ao]) (wr := ow_out cJ ao f) hx hb hml hown hts (hK.sub [0, 1] rfl) oz_CX0 (hD st f) hA hKS hBX hU hN hP hPo hS hl.1 (mX0_setWage l hst D cI cZ ad a1 a2) gL_setWage_X0_setWage rfl rfl rfl hX0_setWage ⟨by decide, by decide⟩ rfl rfl (Nat.le_of_ble_eq_true rfl) dL_setWage_5 ⟨by decide, by decide⟩ hfo (fun hen ce q H1 locs1 hP1 hPo1 hS1 h1 h2 h3 => ?_) (fun hen H1 locs1 hP1 hPo1 hS1 => ?_)
  · obtain ⟨cv, hc, rfl⟩ := ow_r_thrown hen hr0
    rcases oz_code2 hc with ⟨rfl, rfl⟩ | ⟨rfl, rfl⟩
    · refine vx_catch (name := "java/lang/IndexOutOfBoundsException") hown [] ⟨0, 10, 13, 13⟩ [⟨0, 10, 17, 15⟩] htab (fun z hz => nomatch hz) (by decide) (by decide) (hts _ lkL_setWage_13) (va_Nw.use rfl (hBX _ (List.mem_of_getElem? (i := 3) rfl))) h1 h2 h3 ?_
      refine lv_astore (lv' := [(4, .ref q), (0, .ref (ad 0)), (1, .int a1), (2, .int a2), (3, .ref ao)]) hx hb dL_setWage_13 hl (by decide) rfl (fun ls hl => ?_)
      refine lv_iconst (v := 1) hx hb dL_setWage_15 (by decide) ?_
      exact ow_ret X' rfl hP1 hPo1 hS1 (by decide) (by decide) dL_setWage_16
    · refine vx_catch (name := "java/lang/IllegalArgumentException") hown [⟨0, 10, 13, 13⟩] ⟨0, 10, 17, 15⟩ [] htab (fun z hz => by rw [List.mem_singleton.mp hz]; exact Or.inr ⟨by decide, "java/lang/IndexOutOfBoundsException", hts _ lkL_setWage_13, hNC.2.1⟩) (by decide) (by decide) (hts _ lkL_setWage_15) (va_Nw.use rfl (hBX _ (List.mem_of_getElem? (i := 5) rfl))) h1 h2 h3 ?_
      refine lv_astore (lv' := [(4, .ref q), (0, .ref (ad 0)), (1, .int a1), (2, .int a2), (3, .ref ao)]) hx hb dL_setWage_17 hl (by decide) rfl (fun ls hl => ?_)
      refine lv_iconst (v := 2) hx hb dL_setWage_19 (by decide) ?_
      exact ow_ret X' rfl hP1 hPo1 hS1 (by decide) (by decide) dL_setWage_20
  · subst hen
    have hr0 := ow_r_back hr0
    refine lv_i2l hx hb dL_setWage_8 rfl ?_
    refine va_last (n := 1) hx hb hK (va_P.app hP1 hPo1) (hD st2 f) hS1 15 2 rfl rfl ow_in0 dL_setWage_9 (fun H2 locs2 hP2 _ hS2 => ?_)
    have hP2 : va_P D vwCl (ow_ww cI cZ cJ ad ao st2 (vp_updL f 0 v.toInt64)) H2 := hP2
    refine lv_goto (tgt := 21) hx hb dL_setWage_10 (by decide) ?_
    refine lv_iconst (v := 0) hx hb dL_setWage_21 (by decide) ?_
    exact ow_ret X' hr0 (ow_P_l hP2) (ow_P_r hP2) hS2 (by decide) (by decide) dL_setWage_22
def rmL_setRate : Room := { frames := 7, cells := 1, slots := 6, locals := 104 }
theorem hL_setRate : yL_setRate.cls ≠ "java/lang/invoke/MethodHandle" ∧ yL_setRate.cls ≠ "java/lang/invoke/VarHandle" ∧ (parseMethodDescriptor yL_setRate.desc).map (fun d => d.parameters.length) = some 3 := by decide +kernel
theorem lkL_setRate_15 : Cond.classLink RL 15 "java/lang/IllegalArgumentException" ∈ wsL_setRate := by decide +kernel
set_option maxHeartbeats 4000000 in
set_option maxRecDepth 100000 in
theorem mL_setRate (l : Launch) (hst : l.stackTraces = false) (D : va_G) (cI cZ cJ : ClassId) (ad : Nat → Nat) (ao : Nat) (a1 : Int32) : ow_MW l yL_setRate wsL_setRate rmL_setRate D cI cZ cJ ad ao 1 [.ref (ad 0), .int a1, .ref ao] Int32.toInt64 [(3, 1)] (FX0_setRate a1) := by
  refine ow_of (bytes := cL_setRate) (maxL := 4) (hh := [(0, 9, 12, 15)]) (by decide) rfl rfl (Nat.le_of_ble_eq_true rfl) ?_
  intro p e s m below meth c st f A r0 x ls X hfo hr0 hP hPo hl hS
  have X' := X
  obtain ⟨⟨hx, hb, hml, hown, hts⟩, hK, hD, hA, hKS, hBX, hNC, hU, hN, hr, hlk, htab⟩ := X
  obtain ⟨en, v, st2⟩ := r0
  have hl : lv_has ls 4 [(0, .ref (ad 0)), (1, .int a1), (2, .ref ao)] := hl
  refine lv_aload_n hx hb dL_setRate_0 rfl (lv_at hl 2 rfl) ?_
  refine lv_iconst (v := 0) hx hb dL_setRate_1 (by decide) ?_
  refine lv_aload_n hx hb dL_setRate_2 rfl (lv_at hl 0 rfl) ?_
  refine lv_iload_n hx hb dL_setRate_3 rfl (lv_at hl 1 rfl) ?_
  refine ow_call (As := [.int a1]) (rest := [.int 0, .ref ao]) (wr := ow_out cJ ao f) hx hb hml hown hts (hK.sub [0, 1] rfl) oz_CX0 (hD st f) hA hKS hBX hU hN hP hPo hS hl.1 (mX0_setRate l hst D cI cZ ad a1) gL_setRate_X0_setRate rfl rfl rfl hX0_setRate ⟨by decide, by decide⟩ rfl rfl (Nat.le_of_ble_eq_true rfl) dL_setRate_4 ⟨by decide, by decide⟩ hfo (fun hen ce q H1 locs1 hP1 hPo1 hS1 h1 h2 h3 => ?_) (fun hen H1 locs1 hP1 hPo1 hS1 => ?_)
  · obtain ⟨cv, hc, rfl⟩ := ow_r_thrown hen hr0
    obtain ⟨rfl, rfl⟩ := oz_code1 hc
    refine vx_catch (name := "java/lang/IllegalArgumentException") hown [] ⟨0, 9, 12, 15⟩ [] htab (fun z hz => nomatch hz) (by decide) (by decide) (hts _ lkL_setRate_15) (va_Nw.use rfl (hBX _ (List.mem_of_getElem? (i := 5) rfl))) h1 h2 h3 ?_
    refine lv_astore_n (lv' := [(3, .ref q), (0, .ref (ad 0)), (1, .int a1), (2, .ref ao)]) hx hb dL_setRate_12 rfl hl (by decide) rfl (fun ls hl => ?_)
    refine lv_iconst (v := 1) hx hb dL_setRate_13 (by decide) ?_
    exact ow_ret X' rfl hP1 hPo1 hS1 (by decide) (by decide) dL_setRate_14
  · subst hen
    have hr0 := ow_r_back hr0
    refine lv_i2l hx hb dL_setRate_7 rfl ?_
    refine va_last (n := 1) hx hb hK (va_P.app hP1 hPo1) (hD st2 f) hS1 15 2 rfl rfl ow_in0 dL_setRate_8 (fun H2 locs2 hP2 _ hS2 => ?_)
    have hP2 : va_P D vwCl (ow_ww cI cZ cJ ad ao st2 (vp_updL f 0 v.toInt64)) H2 := hP2
    refine lv_goto (tgt := 15) hx hb dL_setRate_9 (by decide) ?_
    refine lv_iconst (v := 0) hx hb dL_setRate_15 (by decide) ?_
    exact ow_ret X' hr0 (ow_P_l hP2) (ow_P_r hP2) hS2 (by decide) (by decide) dL_setRate_16
def rmL_buy : Room := { frames := 7, cells := 1, slots := 6, locals := 104 }
theorem hL_buy : yL_buy.cls ≠ "java/lang/invoke/MethodHandle" ∧ yL_buy.cls ≠ "java/lang/invoke/VarHandle" ∧ (parseMethodDescriptor yL_buy.desc).map (fun d => d.parameters.length) = some 3 := by decide +kernel
theorem lkL_buy_13 : Cond.classLink RL 13 "java/lang/IndexOutOfBoundsException" ∈ wsL_buy := by decide +kernel
theorem lkL_buy_24 : Cond.classLink RL 24 "java/lang/IllegalStateException" ∈ wsL_buy := by decide +kernel
set_option maxHeartbeats 4000000 in
set_option maxRecDepth 100000 in
theorem mL_buy (l : Launch) (hst : l.stackTraces = false) (D : va_G) (cI cZ cJ : ClassId) (ad : Nat → Nat) (ao : Nat) (a1 : Int32) : ow_MW l yL_buy wsL_buy rmL_buy D cI cZ cJ ad ao 1 [.ref (ad 0), .int a1, .ref ao] Int32.toInt64 [(1, 1), (2, 2)] (FX0_buy a1) := by
  refine ow_of (bytes := cL_buy) (maxL := 4) (hh := [(0, 9, 12, 13), (0, 9, 15, 24)]) (by decide) rfl rfl (Nat.le_of_ble_eq_true rfl) ?_
  intro p e s m below meth c st f A r0 x ls X hfo hr0 hP hPo hl hS
  have X' := X
  obtain ⟨⟨hx, hb, hml, hown, hts⟩, hK, hD, hA, hKS, hBX, hNC, hU, hN, hr, hlk, htab⟩ := X
  obtain ⟨en, v, st2⟩ := r0
  have hl : lv_has ls 4 [(0, .ref (ad 0)), (1, .int a1), (2, .ref ao)] := hl
  refine lv_aload_n hx hb dL_buy_0 rfl (lv_at hl 2 rfl) ?_
  refine lv_iconst (v := 0) hx hb dL_buy_1 (by decide) ?_
  refine lv_aload_n hx hb dL_buy_2 rfl (lv_at hl 0 rfl) ?_
  refine lv_iload_n hx hb dL_buy_3 rfl (lv_at hl 1 rfl) ?_
  refine ow_call (As := [.int a1]) (rest := [.int 0, .ref ao]) (wr := ow_out cJ ao f) hx hb hml hown hts (hK.sub [0, 1] rfl) oz_CX0 (hD st f) hA hKS hBX hU hN hP hPo hS hl.1 (mX0_buy l hst D cI cZ ad a1) gL_buy_X0_buy rfl rfl rfl hX0_buy ⟨by decide, by decide⟩ rfl rfl (Nat.le_of_ble_eq_true rfl) dL_buy_4 ⟨by decide, by decide⟩ hfo (fun hen ce q H1 locs1 hP1 hPo1 hS1 h1 h2 h3 => ?_) (fun hen H1 locs1 hP1 hPo1 hS1 => ?_)
  · obtain ⟨cv, hc, rfl⟩ := ow_r_thrown hen hr0
    rcases oz_code2 hc with ⟨rfl, rfl⟩ | ⟨rfl, rfl⟩
    · refine vx_catch (name := "java/lang/IndexOutOfBoundsException") hown [] ⟨0, 9, 12, 13⟩ [⟨0, 9, 15, 24⟩] htab (fun z hz => nomatch hz) (by decide) (by decide) (hts _ lkL_buy_13) (va_Nw.use rfl (hBX _ (List.mem_of_getElem? (i := 3) rfl))) h1 h2 h3 ?_
      refine lv_astore_n (lv' := [(3, .ref q), (0, .ref (ad 0)), (1, .int a1), (2, .ref ao)]) hx hb dL_buy_12 rfl hl (by decide) rfl (fun ls hl => ?_)
      refine lv_iconst (v := 1) hx hb dL_buy_13 (by decide) ?_
      exact ow_ret X' rfl hP1 hPo1 hS1 (by decide) (by decide) dL_buy_14
    · refine vx_catch (name := "java/lang/IllegalStateException") hown [⟨0, 9, 12, 13⟩] ⟨0, 9, 15, 24⟩ [] htab (fun z hz => by rw [List.mem_singleton.mp hz]; exact Or.inr ⟨by decide, "java/lang/IndexOutOfBoundsException", hts _ lkL_buy_13, hNC.1⟩) (by decide) (by decide) (hts _ lkL_buy_24) (va_Nw.use rfl (hBX _ (List.mem_of_getElem? (i := 4) rfl))) h1 h2 h3 ?_
      refine lv_astore_n (lv' := [(3, .ref q), (0, .ref (ad 0)), (1, .int a1), (2, .ref ao)]) hx hb dL_buy_15 rfl hl (by decide) rfl (fun ls hl => ?_)
      refine lv_iconst (v := 2) hx hb dL_buy_16 (by decide) ?_
      exact ow_ret X' rfl hP1 hPo1 hS1 (by decide) (by decide) dL_buy_17
  · subst hen
    have hr0 := ow_r_back hr0
    refine lv_i2l hx hb dL_buy_7 rfl ?_
    refine va_last (n := 1) hx hb hK (va_P.app hP1 hPo1) (hD st2 f) hS1 15 2 rfl rfl ow_in0 dL_buy_8 (fun H2 locs2 hP2 _ hS2 => ?_)
    have hP2 : va_P D vwCl (ow_ww cI cZ cJ ad ao st2 (vp_updL f 0 v.toInt64)) H2 := hP2
    refine lv_goto (tgt := 18) hx hb dL_buy_9 (by decide) ?_
    refine lv_iconst (v := 0) hx hb dL_buy_18 (by decide) ?_
    exact ow_ret X' hr0 (ow_P_l hP2) (ow_P_r hP2) hS2 (by decide) (by decide) dL_buy_19
def rmL_sell : Room := { frames := 7, cells := 1, slots := 6, locals := 104 }
theorem hL_sell : yL_sell.cls ≠ "java/lang/invoke/MethodHandle" ∧ yL_sell.cls ≠ "java/lang/invoke/VarHandle" ∧ (parseMethodDescriptor yL_sell.desc).map (fun d => d.parameters.length) = some 3 := by decide +kernel
theorem lkL_sell_13 : Cond.classLink RL 13 "java/lang/IndexOutOfBoundsException" ∈ wsL_sell := by decide +kernel
theorem lkL_sell_24 : Cond.classLink RL 24 "java/lang/IllegalStateException" ∈ wsL_sell := by decide +kernel
set_option maxHeartbeats 4000000 in
set_option maxRecDepth 100000 in
theorem mL_sell (l : Launch) (hst : l.stackTraces = false) (D : va_G) (cI cZ cJ : ClassId) (ad : Nat → Nat) (ao : Nat) (a1 : Int32) : ow_MW l yL_sell wsL_sell rmL_sell D cI cZ cJ ad ao 1 [.ref (ad 0), .int a1, .ref ao] Int32.toInt64 [(1, 1), (2, 2)] (FX0_sell a1) := by
  refine ow_of (bytes := cL_sell) (maxL := 4) (hh := [(0, 9, 12, 13), (0, 9, 15, 24)]) (by decide) rfl rfl (Nat.le_of_ble_eq_true rfl) ?_
  intro p e s m below meth c st f A r0 x ls X hfo hr0 hP hPo hl hS
  have X' := X
  obtain ⟨⟨hx, hb, hml, hown, hts⟩, hK, hD, hA, hKS, hBX, hNC, hU, hN, hr, hlk, htab⟩ := X
  obtain ⟨en, v, st2⟩ := r0
  have hl : lv_has ls 4 [(0, .ref (ad 0)), (1, .int a1), (2, .ref ao)] := hl
  refine lv_aload_n hx hb dL_sell_0 rfl (lv_at hl 2 rfl) ?_
  refine lv_iconst (v := 0) hx hb dL_sell_1 (by decide) ?_
  refine lv_aload_n hx hb dL_sell_2 rfl (lv_at hl 0 rfl) ?_
  refine lv_iload_n hx hb dL_sell_3 rfl (lv_at hl 1 rfl) ?_
  refine ow_call (As := [.int a1]) (rest := [.int 0, .ref ao]) (wr := ow_out cJ ao f) hx hb hml hown hts (hK.sub [0, 1] rfl) oz_CX0 (hD st f) hA hKS hBX hU hN hP hPo hS hl.1 (mX0_sell l hst D cI cZ ad a1) gL_sell_X0_sell rfl rfl rfl hX0_sell ⟨by decide, by decide⟩ rfl rfl (Nat.le_of_ble_eq_true rfl) dL_sell_4 ⟨by decide, by decide⟩ hfo (fun hen ce q H1 locs1 hP1 hPo1 hS1 h1 h2 h3 => ?_) (fun hen H1 locs1 hP1 hPo1 hS1 => ?_)
  · obtain ⟨cv, hc, rfl⟩ := ow_r_thrown hen hr0
    rcases oz_code2 hc with ⟨rfl, rfl⟩ | ⟨rfl, rfl⟩
    · refine vx_catch (name := "java/lang/IndexOutOfBoundsException") hown [] ⟨0, 9, 12, 13⟩ [⟨0, 9, 15, 24⟩] htab (fun z hz => nomatch hz) (by decide) (by decide) (hts _ lkL_sell_13) (va_Nw.use rfl (hBX _ (List.mem_of_getElem? (i := 3) rfl))) h1 h2 h3 ?_
      refine lv_astore_n (lv' := [(3, .ref q), (0, .ref (ad 0)), (1, .int a1), (2, .ref ao)]) hx hb dL_sell_12 rfl hl (by decide) rfl (fun ls hl => ?_)
      refine lv_iconst (v := 1) hx hb dL_sell_13 (by decide) ?_
      exact ow_ret X' rfl hP1 hPo1 hS1 (by decide) (by decide) dL_sell_14
    · refine vx_catch (name := "java/lang/IllegalStateException") hown [⟨0, 9, 12, 13⟩] ⟨0, 9, 15, 24⟩ [] htab (fun z hz => by rw [List.mem_singleton.mp hz]; exact Or.inr ⟨by decide, "java/lang/IndexOutOfBoundsException", hts _ lkL_sell_13, hNC.1⟩) (by decide) (by decide) (hts _ lkL_sell_24) (va_Nw.use rfl (hBX _ (List.mem_of_getElem? (i := 4) rfl))) h1 h2 h3 ?_
      refine lv_astore_n (lv' := [(3, .ref q), (0, .ref (ad 0)), (1, .int a1), (2, .ref ao)]) hx hb dL_sell_15 rfl hl (by decide) rfl (fun ls hl => ?_)
      refine lv_iconst (v := 2) hx hb dL_sell_16 (by decide) ?_
      exact ow_ret X' rfl hP1 hPo1 hS1 (by decide) (by decide) dL_sell_17
  · subst hen
    have hr0 := ow_r_back hr0
    refine lv_i2l hx hb dL_sell_7 rfl ?_
    refine va_last (n := 1) hx hb hK (va_P.app hP1 hPo1) (hD st2 f) hS1 15 2 rfl rfl ow_in0 dL_sell_8 (fun H2 locs2 hP2 _ hS2 => ?_)
    have hP2 : va_P D vwCl (ow_ww cI cZ cJ ad ao st2 (vp_updL f 0 v.toInt64)) H2 := hP2
    refine lv_goto (tgt := 18) hx hb dL_sell_9 (by decide) ?_
    refine lv_iconst (v := 0) hx hb dL_sell_18 (by decide) ?_
    exact ow_ret X' hr0 (ow_P_l hP2) (ow_P_r hP2) hS2 (by decide) (by decide) dL_sell_19
def rmL_drop : Room := { frames := 7, cells := 1, slots := 6, locals := 104 }
theorem hL_drop : yL_drop.cls ≠ "java/lang/invoke/MethodHandle" ∧ yL_drop.cls ≠ "java/lang/invoke/VarHandle" ∧ (parseMethodDescriptor yL_drop.desc).map (fun d => d.parameters.length) = some 3 := by decide +kernel
theorem lkL_drop_13 : Cond.classLink RL 13 "java/lang/IndexOutOfBoundsException" ∈ wsL_drop := by decide +kernel
theorem lkL_drop_24 : Cond.classLink RL 24 "java/lang/IllegalStateException" ∈ wsL_drop := by decide +kernel
set_option maxHeartbeats 4000000 in
set_option maxRecDepth 100000 in
theorem mL_drop (l : Launch) (hst : l.stackTraces = false) (D : va_G) (cI cZ cJ : ClassId) (ad : Nat → Nat) (ao : Nat) (a1 : Int32) : ow_MW l yL_drop wsL_drop rmL_drop D cI cZ cJ ad ao 1 [.ref (ad 0), .int a1, .ref ao] Int32.toInt64 [(1, 1), (2, 2)] (FX0_drop a1) := by
  refine ow_of (bytes := cL_drop) (maxL := 4) (hh := [(0, 9, 12, 13), (0, 9, 15, 24)]) (by decide) rfl rfl (Nat.le_of_ble_eq_true rfl) ?_
  intro p e s m below meth c st f A r0 x ls X hfo hr0 hP hPo hl hS
  have X' := X
  obtain ⟨⟨hx, hb, hml, hown, hts⟩, hK, hD, hA, hKS, hBX, hNC, hU, hN, hr, hlk, htab⟩ := X
  obtain ⟨en, v, st2⟩ := r0
  have hl : lv_has ls 4 [(0, .ref (ad 0)), (1, .int a1), (2, .ref ao)] := hl
  refine lv_aload_n hx hb dL_drop_0 rfl (lv_at hl 2 rfl) ?_
  refine lv_iconst (v := 0) hx hb dL_drop_1 (by decide) ?_
  refine lv_aload_n hx hb dL_drop_2 rfl (lv_at hl 0 rfl) ?_
  refine lv_iload_n hx hb dL_drop_3 rfl (lv_at hl 1 rfl) ?_
  refine ow_call (As := [.int a1]) (rest := [.int 0, .ref ao]) (wr := ow_out cJ ao f) hx hb hml hown hts (hK.sub [0, 1] rfl) oz_CX0 (hD st f) hA hKS hBX hU hN hP hPo hS hl.1 (mX0_drop l hst D cI cZ ad a1) gL_drop_X0_drop rfl rfl rfl hX0_drop ⟨by decide, by decide⟩ rfl rfl (Nat.le_of_ble_eq_true rfl) dL_drop_4 ⟨by decide, by decide⟩ hfo (fun hen ce q H1 locs1 hP1 hPo1 hS1 h1 h2 h3 => ?_) (fun hen H1 locs1 hP1 hPo1 hS1 => ?_)
  · obtain ⟨cv, hc, rfl⟩ := ow_r_thrown hen hr0
    rcases oz_code2 hc with ⟨rfl, rfl⟩ | ⟨rfl, rfl⟩
    · refine vx_catch (name := "java/lang/IndexOutOfBoundsException") hown [] ⟨0, 9, 12, 13⟩ [⟨0, 9, 15, 24⟩] htab (fun z hz => nomatch hz) (by decide) (by decide) (hts _ lkL_drop_13) (va_Nw.use rfl (hBX _ (List.mem_of_getElem? (i := 3) rfl))) h1 h2 h3 ?_
      refine lv_astore_n (lv' := [(3, .ref q), (0, .ref (ad 0)), (1, .int a1), (2, .ref ao)]) hx hb dL_drop_12 rfl hl (by decide) rfl (fun ls hl => ?_)
      refine lv_iconst (v := 1) hx hb dL_drop_13 (by decide) ?_
      exact ow_ret X' rfl hP1 hPo1 hS1 (by decide) (by decide) dL_drop_14
    · refine vx_catch (name := "java/lang/IllegalStateException") hown [⟨0, 9, 12, 13⟩] ⟨0, 9, 15, 24⟩ [] htab (fun z hz => by rw [List.mem_singleton.mp hz]; exact Or.inr ⟨by decide, "java/lang/IndexOutOfBoundsException", hts _ lkL_drop_13, hNC.1⟩) (by decide) (by decide) (hts _ lkL_drop_24) (va_Nw.use rfl (hBX _ (List.mem_of_getElem? (i := 4) rfl))) h1 h2 h3 ?_
      refine lv_astore_n (lv' := [(3, .ref q), (0, .ref (ad 0)), (1, .int a1), (2, .ref ao)]) hx hb dL_drop_15 rfl hl (by decide) rfl (fun ls hl => ?_)
      refine lv_iconst (v := 2) hx hb dL_drop_16 (by decide) ?_
      exact ow_ret X' rfl hP1 hPo1 hS1 (by decide) (by decide) dL_drop_17
  · subst hen
    have hr0 := ow_r_back hr0
    refine lv_i2l hx hb dL_drop_7 rfl ?_
    refine va_last (n := 1) hx hb hK (va_P.app hP1 hPo1) (hD st2 f) hS1 15 2 rfl rfl ow_in0 dL_drop_8 (fun H2 locs2 hP2 _ hS2 => ?_)
    have hP2 : va_P D vwCl (ow_ww cI cZ cJ ad ao st2 (vp_updL f 0 v.toInt64)) H2 := hP2
    refine lv_goto (tgt := 18) hx hb dL_drop_9 (by decide) ?_
    refine lv_iconst (v := 0) hx hb dL_drop_18 (by decide) ?_
    exact ow_ret X' hr0 (ow_P_l hP2) (ow_P_r hP2) hS2 (by decide) (by decide) dL_drop_19
def rmL_touch : Room := { frames := 9, cells := 2, slots := 12, locals := 151 }
theorem hL_touch : yL_touch.cls ≠ "java/lang/invoke/MethodHandle" ∧ yL_touch.cls ≠ "java/lang/invoke/VarHandle" ∧ (parseMethodDescriptor yL_touch.desc).map (fun d => d.parameters.length) = some 4 := by decide +kernel
theorem lkL_touch_13 : Cond.classLink RL 13 "java/lang/IndexOutOfBoundsException" ∈ wsL_touch := by decide +kernel
theorem lkL_touch_24 : Cond.classLink RL 24 "java/lang/IllegalStateException" ∈ wsL_touch := by decide +kernel
set_option maxHeartbeats 4000000 in
set_option maxRecDepth 100000 in
theorem mL_touch (l : Launch) (hst : l.stackTraces = false) (D : va_G) (cI cZ cJ : ClassId) (ad : Nat → Nat) (ao : Nat) (a1 a2 : Int32) : ow_MW l yL_touch wsL_touch rmL_touch D cI cZ cJ ad ao 2 [.ref (ad 0), .int a1, .int a2, .ref ao] Int32.toInt64 [(1, 1), (2, 2)] (FX0_touch a1 a2) := by
  refine ow_of (bytes := cL_touch) (maxL := 5) (hh := [(0, 10, 13, 13), (0, 10, 17, 24)]) (by decide) rfl rfl (Nat.le_of_ble_eq_true rfl) ?_
  intro p e s m below meth c st f A r0 x ls X hfo hr0 hP hPo hl hS
  have X' := X
  obtain ⟨⟨hx, hb, hml, hown, hts⟩, hK, hD, hA, hKS, hBX, hNC, hU, hN, hr, hlk, htab⟩ := X
  obtain ⟨en, v, st2⟩ := r0
  have hl : lv_has ls 5 [(0, .ref (ad 0)), (1, .int a1), (2, .int a2), (3, .ref ao)] := hl
  refine lv_aload_n hx hb dL_touch_0 rfl (lv_at hl 3 rfl) ?_
  refine lv_iconst (v := 0) hx hb dL_touch_1 (by decide) ?_
  refine lv_aload_n hx hb dL_touch_2 rfl (lv_at hl 0 rfl) ?_
  refine lv_iload_n hx hb dL_touch_3 rfl (lv_at hl 1 rfl) ?_
  refine lv_iload_n hx hb dL_touch_4 rfl (lv_at hl 2 rfl) ?_
  refine ow_call (As := [.int a1, .int a2]) (rest := [.int 0, .ref ao]) (wr := ow_out cJ ao f) hx hb hml hown hts (hK.sub [0, 1] rfl) oz_CX0 (hD st f) hA hKS hBX hU hN hP hPo hS hl.1 (mX0_touch l hst D cI cZ ad a1 a2) gL_touch_X0_touch rfl rfl rfl hX0_touch ⟨by decide, by decide⟩ rfl rfl (Nat.le_of_ble_eq_true rfl) dL_touch_5 ⟨by decide, by decide⟩ hfo (fun hen ce q H1 locs1 hP1 hPo1 hS1 h1 h2 h3 => ?_) (fun hen H1 locs1 hP1 hPo1 hS1 => ?_)
  · obtain ⟨cv, hc, rfl⟩ := ow_r_thrown hen hr0
    rcases oz_code2 hc with ⟨rfl, rfl⟩ | ⟨rfl, rfl⟩
    · refine vx_catch (name := "java/lang/IndexOutOfBoundsException") hown [] ⟨0, 10, 13, 13⟩ [⟨0, 10, 17, 24⟩] htab (fun z hz => nomatch hz) (by decide) (by decide) (hts _ lkL_touch_13) (va_Nw.use rfl (hBX _ (List.mem_of_getElem? (i := 3) rfl))) h1 h2 h3 ?_
      refine lv_astore (lv' := [(4, .ref q), (0, .ref (ad 0)), (1, .int a1), (2, .int a2), (3, .ref ao)]) hx hb dL_touch_13 hl (by decide) rfl (fun ls hl => ?_)
      refine lv_iconst (v := 1) hx hb dL_touch_15 (by decide) ?_
      exact ow_ret X' rfl hP1 hPo1 hS1 (by decide) (by decide) dL_touch_16
    · refine vx_catch (name := "java/lang/IllegalStateException") hown [⟨0, 10, 13, 13⟩] ⟨0, 10, 17, 24⟩ [] htab (fun z hz => by rw [List.mem_singleton.mp hz]; exact Or.inr ⟨by decide, "java/lang/IndexOutOfBoundsException", hts _ lkL_touch_13, hNC.1⟩) (by decide) (by decide) (hts _ lkL_touch_24) (va_Nw.use rfl (hBX _ (List.mem_of_getElem? (i := 4) rfl))) h1 h2 h3 ?_
      refine lv_astore (lv' := [(4, .ref q), (0, .ref (ad 0)), (1, .int a1), (2, .int a2), (3, .ref ao)]) hx hb dL_touch_17 hl (by decide) rfl (fun ls hl => ?_)
      refine lv_iconst (v := 2) hx hb dL_touch_19 (by decide) ?_
      exact ow_ret X' rfl hP1 hPo1 hS1 (by decide) (by decide) dL_touch_20
  · subst hen
    have hr0 := ow_r_back hr0
    refine lv_i2l hx hb dL_touch_8 rfl ?_
    refine va_last (n := 1) hx hb hK (va_P.app hP1 hPo1) (hD st2 f) hS1 15 2 rfl rfl ow_in0 dL_touch_9 (fun H2 locs2 hP2 _ hS2 => ?_)
    have hP2 : va_P D vwCl (ow_ww cI cZ cJ ad ao st2 (vp_updL f 0 v.toInt64)) H2 := hP2
    refine lv_goto (tgt := 21) hx hb dL_touch_10 (by decide) ?_
    refine lv_iconst (v := 0) hx hb dL_touch_21 (by decide) ?_
    exact ow_ret X' hr0 (ow_P_l hP2) (ow_P_r hP2) hS2 (by decide) (by decide) dL_touch_22
def rmL_payBack : Room := { frames := 7, cells := 1, slots := 6, locals := 103 }
theorem hL_payBack : yL_payBack.cls ≠ "java/lang/invoke/MethodHandle" ∧ yL_payBack.cls ≠ "java/lang/invoke/VarHandle" ∧ (parseMethodDescriptor yL_payBack.desc).map (fun d => d.parameters.length) = some 3 := by decide +kernel
theorem lkL_payBack_13 : Cond.classLink RL 13 "java/lang/IndexOutOfBoundsException" ∈ wsL_payBack := by decide +kernel
theorem lkL_payBack_24 : Cond.classLink RL 24 "java/lang/IllegalStateException" ∈ wsL_payBack := by decide +kernel
set_option maxHeartbeats 4000000 in
set_option maxRecDepth 100000 in
theorem mL_payBack (l : Launch) (hst : l.stackTraces = false) (D : va_G) (cI cZ cJ : ClassId) (ad : Nat → Nat) (ao : Nat) (a1 : Int32) : ow_MW l yL_payBack wsL_payBack rmL_payBack D cI cZ cJ ad ao 1 [.ref (ad 0), .int a1, .ref ao] Int32.toInt64 [(1, 1), (2, 2)] (FX0_payBack a1) := by
  refine ow_of (bytes := cL_payBack) (maxL := 4) (hh := [(0, 9, 12, 13), (0, 9, 15, 24)]) (by decide) rfl rfl (Nat.le_of_ble_eq_true rfl) ?_
  intro p e s m below meth c st f A r0 x ls X hfo hr0 hP hPo hl hS
  have X' := X
  obtain ⟨⟨hx, hb, hml, hown, hts⟩, hK, hD, hA, hKS, hBX, hNC, hU, hN, hr, hlk, htab⟩ := X
  obtain ⟨en, v, st2⟩ := r0
  have hl : lv_has ls 4 [(0, .ref (ad 0)), (1, .int a1), (2, .ref ao)] := hl
  refine lv_aload_n hx hb dL_payBack_0 rfl (lv_at hl 2 rfl) ?_
  refine lv_iconst (v := 0) hx hb dL_payBack_1 (by decide) ?_
  refine lv_aload_n hx hb dL_payBack_2 rfl (lv_at hl 0 rfl) ?_
  refine lv_iload_n hx hb dL_payBack_3 rfl (lv_at hl 1 rfl) ?_
  refine ow_call (As := [.int a1]) (rest := [.int 0, .ref ao]) (wr := ow_out cJ ao f) hx hb hml hown hts (hK.sub [0, 1] rfl) oz_CX0 (hD st f) hA hKS hBX hU hN hP hPo hS hl.1 (mX0_payBack l hst D cI cZ ad a1) gL_payBack_X0_payBack rfl rfl rfl hX0_payBack ⟨by decide, by decide⟩ rfl rfl (Nat.le_of_ble_eq_true rfl) dL_payBack_4 ⟨by decide, by decide⟩ hfo (fun hen ce q H1 locs1 hP1 hPo1 hS1 h1 h2 h3 => ?_) (fun hen H1 locs1 hP1 hPo1 hS1 => ?_)
  · obtain ⟨cv, hc, rfl⟩ := ow_r_thrown hen hr0
    rcases oz_code2 hc with ⟨rfl, rfl⟩ | ⟨rfl, rfl⟩
    · refine vx_catch (name := "java/lang/IndexOutOfBoundsException") hown [] ⟨0, 9, 12, 13⟩ [⟨0, 9, 15, 24⟩] htab (fun z hz => nomatch hz) (by decide) (by decide) (hts _ lkL_payBack_13) (va_Nw.use rfl (hBX _ (List.mem_of_getElem? (i := 3) rfl))) h1 h2 h3 ?_
      refine lv_astore_n (lv' := [(3, .ref q), (0, .ref (ad 0)), (1, .int a1), (2, .ref ao)]) hx hb dL_payBack_12 rfl hl (by decide) rfl (fun ls hl => ?_)
      refine lv_iconst (v := 1) hx hb dL_payBack_13 (by decide) ?_
      exact ow_ret X' rfl hP1 hPo1 hS1 (by decide) (by decide) dL_payBack_14
    · refine vx_catch (name := "java/lang/IllegalStateException") hown [⟨0, 9, 12, 13⟩] ⟨0, 9, 15, 24⟩ [] htab (fun z hz => by rw [List.mem_singleton.mp hz]; exact Or.inr ⟨by decide, "java/lang/IndexOutOfBoundsException", hts _ lkL_payBack_13, hNC.1⟩) (by decide) (by decide) (hts _ lkL_payBack_24) (va_Nw.use rfl (hBX _ (List.mem_of_getElem? (i := 4) rfl))) h1 h2 h3 ?_
      refine lv_astore_n (lv' := [(3, .ref q), (0, .ref (ad 0)), (1, .int a1), (2, .ref ao)]) hx hb dL_payBack_15 rfl hl (by decide) rfl (fun ls hl => ?_)
      refine lv_iconst (v := 2) hx hb dL_payBack_16 (by decide) ?_
      exact ow_ret X' rfl hP1 hPo1 hS1 (by decide) (by decide) dL_payBack_17
  · subst hen
    have hr0 := ow_r_back hr0
    refine lv_i2l hx hb dL_payBack_7 rfl ?_
    refine va_last (n := 1) hx hb hK (va_P.app hP1 hPo1) (hD st2 f) hS1 15 2 rfl rfl ow_in0 dL_payBack_8 (fun H2 locs2 hP2 _ hS2 => ?_)
    have hP2 : va_P D vwCl (ow_ww cI cZ cJ ad ao st2 (vp_updL f 0 v.toInt64)) H2 := hP2
    refine lv_goto (tgt := 18) hx hb dL_payBack_9 (by decide) ?_
    refine lv_iconst (v := 0) hx hb dL_payBack_18 (by decide) ?_
    exact ow_ret X' hr0 (ow_P_l hP2) (ow_P_r hP2) hS2 (by decide) (by decide) dL_payBack_19
def rmL_advance : Room := { frames := 7, cells := 1, slots := 6, locals := 151 }
theorem hL_advance : yL_advance.cls ≠ "java/lang/invoke/MethodHandle" ∧ yL_advance.cls ≠ "java/lang/invoke/VarHandle" ∧ (parseMethodDescriptor yL_advance.desc).map (fun d => d.parameters.length) = some 3 := by decide +kernel
theorem lkL_advance_15 : Cond.classLink RL 15 "java/lang/IllegalArgumentException" ∈ wsL_advance := by decide +kernel
theorem lkL_advance_24 : Cond.classLink RL 24 "java/lang/IllegalStateException" ∈ wsL_advance := by decide +kernel
set_option maxHeartbeats 4000000 in
set_option maxRecDepth 100000 in
theorem mL_advance (l : Launch) (hst : l.stackTraces = false) (D : va_G) (cI cZ cJ : ClassId) (ad : Nat → Nat) (ao : Nat) (a1 : Int32) : ow_MW l yL_advance wsL_advance rmL_advance D cI cZ cJ ad ao 1 [.ref (ad 0), .int a1, .ref ao] Int32.toInt64 [(3, 1), (2, 2)] (FX0_advance a1) := by
  refine ow_of (bytes := cL_advance) (maxL := 4) (hh := [(0, 9, 12, 15), (0, 9, 15, 24)]) (by decide) rfl rfl (Nat.le_of_ble_eq_true rfl) ?_
  intro p e s m below meth c st f A r0 x ls X hfo hr0 hP hPo hl hS
  have X' := X
  obtain ⟨⟨hx, hb, hml, hown, hts⟩, hK, hD, hA, hKS, hBX, hNC, hU, hN, hr, hlk, htab⟩ := X
  obtain ⟨en, v, st2⟩ := r0
  have hl : lv_has ls 4 [(0, .ref (ad 0)), (1, .int a1), (2, .ref ao)] := hl
  refine lv_aload_n hx hb dL_advance_0 rfl (lv_at hl 2 rfl) ?_
  refine lv_iconst (v := 0) hx hb dL_advance_1 (by decide) ?_
  refine lv_aload_n hx hb dL_advance_2 rfl (lv_at hl 0 rfl) ?_
  refine lv_iload_n hx hb dL_advance_3 rfl (lv_at hl 1 rfl) ?_
  refine ow_call (As := [.int a1]) (rest := [.int 0, .ref ao]) (wr := ow_out cJ ao f) hx hb hml hown hts (hK.sub [0, 1] rfl) oz_CX0 (hD st f) hA hKS hBX hU hN hP hPo hS hl.1 (mX0_advance l hst D cI cZ ad a1) gL_advance_X0_advance rfl rfl rfl hX0_advance ⟨by decide, by decide⟩ rfl rfl (Nat.le_of_ble_eq_true rfl) dL_advance_4 ⟨by decide, by decide⟩ hfo (fun hen ce q H1 locs1 hP1 hPo1 hS1 h1 h2 h3 => ?_) (fun hen H1 locs1 hP1 hPo1 hS1 => ?_)
  · obtain ⟨cv, hc, rfl⟩ := ow_r_thrown hen hr0
    rcases oz_code2 hc with ⟨rfl, rfl⟩ | ⟨rfl, rfl⟩
    · refine vx_catch (name := "java/lang/IllegalArgumentException") hown [] ⟨0, 9, 12, 15⟩ [⟨0, 9, 15, 24⟩] htab (fun z hz => nomatch hz) (by decide) (by decide) (hts _ lkL_advance_15) (va_Nw.use rfl (hBX _ (List.mem_of_getElem? (i := 5) rfl))) h1 h2 h3 ?_
      refine lv_astore_n (lv' := [(3, .ref q), (0, .ref (ad 0)), (1, .int a1), (2, .ref ao)]) hx hb dL_advance_12 rfl hl (by decide) rfl (fun ls hl => ?_)
      refine lv_iconst (v := 1) hx hb dL_advance_13 (by decide) ?_
      exact ow_ret X' rfl hP1 hPo1 hS1 (by decide) (by decide) dL_advance_14
    · refine vx_catch (name := "java/lang/IllegalStateException") hown [⟨0, 9, 12, 15⟩] ⟨0, 9, 15, 24⟩ [] htab (fun z hz => by rw [List.mem_singleton.mp hz]; exact Or.inr ⟨by decide, "java/lang/IllegalArgumentException", hts _ lkL_advance_15, hNC.2.2⟩) (by decide) (by decide) (hts _ lkL_advance_24) (va_Nw.use rfl (hBX _ (List.mem_of_getElem? (i := 4) rfl))) h1 h2 h3 ?_
      refine lv_astore_n (lv' := [(3, .ref q), (0, .ref (ad 0)), (1, .int a1), (2, .ref ao)]) hx hb dL_advance_15 rfl hl (by decide) rfl (fun ls hl => ?_)
      refine lv_iconst (v := 2) hx hb dL_advance_16 (by decide) ?_
      exact ow_ret X' rfl hP1 hPo1 hS1 (by decide) (by decide) dL_advance_17
  · subst hen
    have hr0 := ow_r_back hr0
    refine lv_i2l hx hb dL_advance_7 rfl ?_
    refine va_last (n := 1) hx hb hK (va_P.app hP1 hPo1) (hD st2 f) hS1 15 2 rfl rfl ow_in0 dL_advance_8 (fun H2 locs2 hP2 _ hS2 => ?_)
    have hP2 : va_P D vwCl (ow_ww cI cZ cJ ad ao st2 (vp_updL f 0 v.toInt64)) H2 := hP2
    refine lv_goto (tgt := 18) hx hb dL_advance_9 (by decide) ?_
    refine lv_iconst (v := 0) hx hb dL_advance_18 (by decide) ?_
    exact ow_ret X' hr0 (ow_P_l hP2) (ow_P_r hP2) hS2 (by decide) (by decide) dL_advance_19
def rmL_owner : Room := { frames := 7, cells := 1, slots := 6, locals := 103 }
theorem hL_owner : yL_owner.cls ≠ "java/lang/invoke/MethodHandle" ∧ yL_owner.cls ≠ "java/lang/invoke/VarHandle" ∧ (parseMethodDescriptor yL_owner.desc).map (fun d => d.parameters.length) = some 3 := by decide +kernel
theorem lkL_owner_13 : Cond.classLink RL 13 "java/lang/IndexOutOfBoundsException" ∈ wsL_owner := by decide +kernel
set_option maxHeartbeats 4000000 in
set_option maxRecDepth 100000 in
theorem mL_owner (l : Launch) (hst : l.stackTraces = false) (D : va_G) (cI cZ cJ : ClassId) (ad : Nat → Nat) (ao : Nat) (a1 : Int32) : ow_MW l yL_owner wsL_owner rmL_owner D cI cZ cJ ad ao 1 [.ref (ad 0), .int a1, .ref ao] Int32.toInt64 [(1, 1)] (FX0_owner a1) := by
  refine ow_of (bytes := cL_owner) (maxL := 4) (hh := [(0, 9, 12, 13)]) (by decide) rfl rfl (Nat.le_of_ble_eq_true rfl) ?_
  intro p e s m below meth c st f A r0 x ls X hfo hr0 hP hPo hl hS
  have X' := X
  obtain ⟨⟨hx, hb, hml, hown, hts⟩, hK, hD, hA, hKS, hBX, hNC, hU, hN, hr, hlk, htab⟩ := X
  obtain ⟨en, v, st2⟩ := r0
  have hl : lv_has ls 4 [(0, .ref (ad 0)), (1, .int a1), (2, .ref ao)] := hl
  refine lv_aload_n hx hb dL_owner_0 rfl (lv_at hl 2 rfl) ?_
  refine lv_iconst (v := 0) hx hb dL_owner_1 (by decide) ?_
  refine lv_aload_n hx hb dL_owner_2 rfl (lv_at hl 0 rfl) ?_
  refine lv_iload_n hx hb dL_owner_3 rfl (lv_at hl 1 rfl) ?_
  refine ow_call (As := [.int a1]) (rest := [.int 0, .ref ao]) (wr := ow_out cJ ao f) hx hb hml hown hts (hK.sub [0, 1] rfl) oz_CX0 (hD st f) hA hKS hBX hU hN hP hPo hS hl.1 (mX0_owner l hst D cI cZ ad a1) gL_owner_X0_owner rfl rfl rfl hX0_owner ⟨by decide, by decide⟩ rfl rfl (Nat.le_of_ble_eq_true rfl) dL_owner_4 ⟨by decide, by decide⟩ hfo (fun hen ce q H1 locs1 hP1 hPo1 hS1 h1 h2 h3 => ?_) (fun hen H1 locs1 hP1 hPo1 hS1 => ?_)
  · obtain ⟨cv, hc, rfl⟩ := ow_r_thrown hen hr0
    obtain ⟨rfl, rfl⟩ := oz_code1 hc
    refine vx_catch (name := "java/lang/IndexOutOfBoundsException") hown [] ⟨0, 9, 12, 13⟩ [] htab (fun z hz => nomatch hz) (by decide) (by decide) (hts _ lkL_owner_13) (va_Nw.use rfl (hBX _ (List.mem_of_getElem? (i := 3) rfl))) h1 h2 h3 ?_
    refine lv_astore_n (lv' := [(3, .ref q), (0, .ref (ad 0)), (1, .int a1), (2, .ref ao)]) hx hb dL_owner_12 rfl hl (by decide) rfl (fun ls hl => ?_)
    refine lv_iconst (v := 1) hx hb dL_owner_13 (by decide) ?_
    exact ow_ret X' rfl hP1 hPo1 hS1 (by decide) (by decide) dL_owner_14
  · subst hen
    have hr0 := ow_r_back hr0
    refine lv_i2l hx hb dL_owner_7 rfl ?_
    refine va_last (n := 1) hx hb hK (va_P.app hP1 hPo1) (hD st2 f) hS1 15 2 rfl rfl ow_in0 dL_owner_8 (fun H2 locs2 hP2 _ hS2 => ?_)
    have hP2 : va_P D vwCl (ow_ww cI cZ cJ ad ao st2 (vp_updL f 0 v.toInt64)) H2 := hP2
    refine lv_goto (tgt := 15) hx hb dL_owner_9 (by decide) ?_
    refine lv_iconst (v := 0) hx hb dL_owner_15 (by decide) ?_
    exact ow_ret X' hr0 (ow_P_l hP2) (ow_P_r hP2) hS2 (by decide) (by decide) dL_owner_16
def rmL_holder : Room := { frames := 7, cells := 1, slots := 6, locals := 103 }
theorem hL_holder : yL_holder.cls ≠ "java/lang/invoke/MethodHandle" ∧ yL_holder.cls ≠ "java/lang/invoke/VarHandle" ∧ (parseMethodDescriptor yL_holder.desc).map (fun d => d.parameters.length) = some 3 := by decide +kernel
theorem lkL_holder_13 : Cond.classLink RL 13 "java/lang/IndexOutOfBoundsException" ∈ wsL_holder := by decide +kernel
set_option maxHeartbeats 4000000 in
set_option maxRecDepth 100000 in
theorem mL_holder (l : Launch) (hst : l.stackTraces = false) (D : va_G) (cI cZ cJ : ClassId) (ad : Nat → Nat) (ao : Nat) (a1 : Int32) : ow_MW l yL_holder wsL_holder rmL_holder D cI cZ cJ ad ao 1 [.ref (ad 0), .int a1, .ref ao] Int32.toInt64 [(1, 1)] (FX0_holder a1) := by
  refine ow_of (bytes := cL_holder) (maxL := 4) (hh := [(0, 9, 12, 13)]) (by decide) rfl rfl (Nat.le_of_ble_eq_true rfl) ?_
  intro p e s m below meth c st f A r0 x ls X hfo hr0 hP hPo hl hS
  have X' := X
  obtain ⟨⟨hx, hb, hml, hown, hts⟩, hK, hD, hA, hKS, hBX, hNC, hU, hN, hr, hlk, htab⟩ := X
  obtain ⟨en, v, st2⟩ := r0
  have hl : lv_has ls 4 [(0, .ref (ad 0)), (1, .int a1), (2, .ref ao)] := hl
  refine lv_aload_n hx hb dL_holder_0 rfl (lv_at hl 2 rfl) ?_
  refine lv_iconst (v := 0) hx hb dL_holder_1 (by decide) ?_
  refine lv_aload_n hx hb dL_holder_2 rfl (lv_at hl 0 rfl) ?_
  refine lv_iload_n hx hb dL_holder_3 rfl (lv_at hl 1 rfl) ?_
  refine ow_call (As := [.int a1]) (rest := [.int 0, .ref ao]) (wr := ow_out cJ ao f) hx hb hml hown hts (hK.sub [0, 1] rfl) oz_CX0 (hD st f) hA hKS hBX hU hN hP hPo hS hl.1 (mX0_holder l hst D cI cZ ad a1) gL_holder_X0_holder rfl rfl rfl hX0_holder ⟨by decide, by decide⟩ rfl rfl (Nat.le_of_ble_eq_true rfl) dL_holder_4 ⟨by decide, by decide⟩ hfo (fun hen ce q H1 locs1 hP1 hPo1 hS1 h1 h2 h3 => ?_) (fun hen H1 locs1 hP1 hPo1 hS1 => ?_)
  · obtain ⟨cv, hc, rfl⟩ := ow_r_thrown hen hr0
    obtain ⟨rfl, rfl⟩ := oz_code1 hc
    refine vx_catch (name := "java/lang/IndexOutOfBoundsException") hown [] ⟨0, 9, 12, 13⟩ [] htab (fun z hz => nomatch hz) (by decide) (by decide) (hts _ lkL_holder_13) (va_Nw.use rfl (hBX _ (List.mem_of_getElem? (i := 3) rfl))) h1 h2 h3 ?_
    refine lv_astore_n (lv' := [(3, .ref q), (0, .ref (ad 0)), (1, .int a1), (2, .ref ao)]) hx hb dL_holder_12 rfl hl (by decide) rfl (fun ls hl => ?_)
    refine lv_iconst (v := 1) hx hb dL_holder_13 (by decide) ?_
    exact ow_ret X' rfl hP1 hPo1 hS1 (by decide) (by decide) dL_holder_14
  · subst hen
    have hr0 := ow_r_back hr0
    refine lv_i2l hx hb dL_holder_7 rfl ?_
    refine va_last (n := 1) hx hb hK (va_P.app hP1 hPo1) (hD st2 f) hS1 15 2 rfl rfl ow_in0 dL_holder_8 (fun H2 locs2 hP2 _ hS2 => ?_)
    have hP2 : va_P D vwCl (ow_ww cI cZ cJ ad ao st2 (vp_updL f 0 v.toInt64)) H2 := hP2
    refine lv_goto (tgt := 15) hx hb dL_holder_9 (by decide) ?_
    refine lv_iconst (v := 0) hx hb dL_holder_15 (by decide) ?_
    exact ow_ret X' hr0 (ow_P_l hP2) (ow_P_r hP2) hS2 (by decide) (by decide) dL_holder_16
def rmL_holderByLog : Room := { frames := 7, cells := 1, slots := 6, locals := 104 }
theorem hL_holderByLog : yL_holderByLog.cls ≠ "java/lang/invoke/MethodHandle" ∧ yL_holderByLog.cls ≠ "java/lang/invoke/VarHandle" ∧ (parseMethodDescriptor yL_holderByLog.desc).map (fun d => d.parameters.length) = some 3 := by decide +kernel
theorem lkL_holderByLog_13 : Cond.classLink RL 13 "java/lang/IndexOutOfBoundsException" ∈ wsL_holderByLog := by decide +kernel
set_option maxHeartbeats 4000000 in
set_option maxRecDepth 100000 in
theorem mL_holderByLog (l : Launch) (hst : l.stackTraces = false) (D : va_G) (cI cZ cJ : ClassId) (ad : Nat → Nat) (ao : Nat) (a1 : Int32) : ow_MW l yL_holderByLog wsL_holderByLog rmL_holderByLog D cI cZ cJ ad ao 1 [.ref (ad 0), .int a1, .ref ao] Int32.toInt64 [(1, 1)] (FX0_holderByLog a1) := by
  refine ow_of (bytes := cL_holderByLog) (maxL := 4) (hh := [(0, 9, 12, 13)]) (by decide) rfl rfl (Nat.le_of_ble_eq_true rfl) ?_
  intro p e s m below meth c st f A r0 x ls X hfo hr0 hP hPo hl hS
  have X' := X
  obtain ⟨⟨hx, hb, hml, hown, hts⟩, hK, hD, hA, hKS, hBX, hNC, hU, hN, hr, hlk, htab⟩ := X
  obtain ⟨en, v, st2⟩ := r0
  have hl : lv_has ls 4 [(0, .ref (ad 0)), (1, .int a1), (2, .ref ao)] := hl
  refine lv_aload_n hx hb dL_holderByLog_0 rfl (lv_at hl 2 rfl) ?_
  refine lv_iconst (v := 0) hx hb dL_holderByLog_1 (by decide) ?_
  refine lv_aload_n hx hb dL_holderByLog_2 rfl (lv_at hl 0 rfl) ?_
  refine lv_iload_n hx hb dL_holderByLog_3 rfl (lv_at hl 1 rfl) ?_
  refine ow_call (As := [.int a1]) (rest := [.int 0, .ref ao]) (wr := ow_out cJ ao f) hx hb hml hown hts (hK.sub [0, 1] rfl) oz_CX0 (hD st f) hA hKS hBX hU hN hP hPo hS hl.1 (mX0_holderByLog l hst D cI cZ ad a1) gL_holderByLog_X0_holderByLog rfl rfl rfl hX0_holderByLog ⟨by decide, by decide⟩ rfl rfl (Nat.le_of_ble_eq_true rfl) dL_holderByLog_4 ⟨by decide, by decide⟩ hfo (fun hen ce q H1 locs1 hP1 hPo1 hS1 h1 h2 h3 => ?_) (fun hen H1 locs1 hP1 hPo1 hS1 => ?_)
  · obtain ⟨cv, hc, rfl⟩ := ow_r_thrown hen hr0
    obtain ⟨rfl, rfl⟩ := oz_code1 hc
    refine vx_catch (name := "java/lang/IndexOutOfBoundsException") hown [] ⟨0, 9, 12, 13⟩ [] htab (fun z hz => nomatch hz) (by decide) (by decide) (hts _ lkL_holderByLog_13) (va_Nw.use rfl (hBX _ (List.mem_of_getElem? (i := 3) rfl))) h1 h2 h3 ?_
    refine lv_astore_n (lv' := [(3, .ref q), (0, .ref (ad 0)), (1, .int a1), (2, .ref ao)]) hx hb dL_holderByLog_12 rfl hl (by decide) rfl (fun ls hl => ?_)
    refine lv_iconst (v := 1) hx hb dL_holderByLog_13 (by decide) ?_
    exact ow_ret X' rfl hP1 hPo1 hS1 (by decide) (by decide) dL_holderByLog_14
  · subst hen
    have hr0 := ow_r_back hr0
    refine lv_i2l hx hb dL_holderByLog_7 rfl ?_
    refine va_last (n := 1) hx hb hK (va_P.app hP1 hPo1) (hD st2 f) hS1 15 2 rfl rfl ow_in0 dL_holderByLog_8 (fun H2 locs2 hP2 _ hS2 => ?_)
    have hP2 : va_P D vwCl (ow_ww cI cZ cJ ad ao st2 (vp_updL f 0 v.toInt64)) H2 := hP2
    refine lv_goto (tgt := 15) hx hb dL_holderByLog_9 (by decide) ?_
    refine lv_iconst (v := 0) hx hb dL_holderByLog_15 (by decide) ?_
    exact ow_ret X' hr0 (ow_P_l hP2) (ow_P_r hP2) hS2 (by decide) (by decide) dL_holderByLog_16
def rmL_pageIn : Room := { frames := 7, cells := 1, slots := 6, locals := 103 }
theorem hL_pageIn : yL_pageIn.cls ≠ "java/lang/invoke/MethodHandle" ∧ yL_pageIn.cls ≠ "java/lang/invoke/VarHandle" ∧ (parseMethodDescriptor yL_pageIn.desc).map (fun d => d.parameters.length) = some 3 := by decide +kernel
theorem lkL_pageIn_13 : Cond.classLink RL 13 "java/lang/IndexOutOfBoundsException" ∈ wsL_pageIn := by decide +kernel
set_option maxHeartbeats 4000000 in
set_option maxRecDepth 100000 in
theorem mL_pageIn (l : Launch) (hst : l.stackTraces = false) (D : va_G) (cI cZ cJ : ClassId) (ad : Nat → Nat) (ao : Nat) (a1 : Int32) : ow_MW l yL_pageIn wsL_pageIn rmL_pageIn D cI cZ cJ ad ao 1 [.ref (ad 0), .int a1, .ref ao] Int32.toInt64 [(1, 1)] (FX0_pageIn a1) := by
  refine ow_of (bytes := cL_pageIn) (maxL := 4) (hh := [(0, 9, 12, 13)]) (by decide) rfl rfl (Nat.le_of_ble_eq_true rfl) ?_
  intro p e s m below meth c st f A r0 x ls X hfo hr0 hP hPo hl hS
  have X' := X
  obtain ⟨⟨hx, hb, hml, hown, hts⟩, hK, hD, hA, hKS, hBX, hNC, hU, hN, hr, hlk, htab⟩ := X
  obtain ⟨en, v, st2⟩ := r0
  have hl : lv_has ls 4 [(0, .ref (ad 0)), (1, .int a1), (2, .ref ao)] := hl
  refine lv_aload_n hx hb dL_pageIn_0 rfl (lv_at hl 2 rfl) ?_
  refine lv_iconst (v := 0) hx hb dL_pageIn_1 (by decide) ?_
  refine lv_aload_n hx hb dL_pageIn_2 rfl (lv_at hl 0 rfl) ?_
  refine lv_iload_n hx hb dL_pageIn_3 rfl (lv_at hl 1 rfl) ?_
  refine ow_call (As := [.int a1]) (rest := [.int 0, .ref ao]) (wr := ow_out cJ ao f) hx hb hml hown hts (hK.sub [0, 1] rfl) oz_CX0 (hD st f) hA hKS hBX hU hN hP hPo hS hl.1 (mX0_pageIn l hst D cI cZ ad a1) gL_pageIn_X0_pageIn rfl rfl rfl hX0_pageIn ⟨by decide, by decide⟩ rfl rfl (Nat.le_of_ble_eq_true rfl) dL_pageIn_4 ⟨by decide, by decide⟩ hfo (fun hen ce q H1 locs1 hP1 hPo1 hS1 h1 h2 h3 => ?_) (fun hen H1 locs1 hP1 hPo1 hS1 => ?_)
  · obtain ⟨cv, hc, rfl⟩ := ow_r_thrown hen hr0
    obtain ⟨rfl, rfl⟩ := oz_code1 hc
    refine vx_catch (name := "java/lang/IndexOutOfBoundsException") hown [] ⟨0, 9, 12, 13⟩ [] htab (fun z hz => nomatch hz) (by decide) (by decide) (hts _ lkL_pageIn_13) (va_Nw.use rfl (hBX _ (List.mem_of_getElem? (i := 3) rfl))) h1 h2 h3 ?_
    refine lv_astore_n (lv' := [(3, .ref q), (0, .ref (ad 0)), (1, .int a1), (2, .ref ao)]) hx hb dL_pageIn_12 rfl hl (by decide) rfl (fun ls hl => ?_)
    refine lv_iconst (v := 1) hx hb dL_pageIn_13 (by decide) ?_
    exact ow_ret X' rfl hP1 hPo1 hS1 (by decide) (by decide) dL_pageIn_14
  · subst hen
    have hr0 := ow_r_back hr0
    refine lv_i2l hx hb dL_pageIn_7 rfl ?_
    refine va_last (n := 1) hx hb hK (va_P.app hP1 hPo1) (hD st2 f) hS1 15 2 rfl rfl ow_in0 dL_pageIn_8 (fun H2 locs2 hP2 _ hS2 => ?_)
    have hP2 : va_P D vwCl (ow_ww cI cZ cJ ad ao st2 (vp_updL f 0 v.toInt64)) H2 := hP2
    refine lv_goto (tgt := 15) hx hb dL_pageIn_9 (by decide) ?_
    refine lv_iconst (v := 0) hx hb dL_pageIn_15 (by decide) ?_
    exact ow_ret X' hr0 (ow_P_l hP2) (ow_P_r hP2) hS2 (by decide) (by decide) dL_pageIn_16
def rmL_age : Room := { frames := 7, cells := 1, slots := 6, locals := 103 }
theorem hL_age : yL_age.cls ≠ "java/lang/invoke/MethodHandle" ∧ yL_age.cls ≠ "java/lang/invoke/VarHandle" ∧ (parseMethodDescriptor yL_age.desc).map (fun d => d.parameters.length) = some 3 := by decide +kernel
theorem lkL_age_13 : Cond.classLink RL 13 "java/lang/IndexOutOfBoundsException" ∈ wsL_age := by decide +kernel
set_option maxHeartbeats 4000000 in
set_option maxRecDepth 100000 in
theorem mL_age (l : Launch) (hst : l.stackTraces = false) (D : va_G) (cI cZ cJ : ClassId) (ad : Nat → Nat) (ao : Nat) (a1 : Int32) : ow_MW l yL_age wsL_age rmL_age D cI cZ cJ ad ao 1 [.ref (ad 0), .int a1, .ref ao] Int32.toInt64 [(1, 1)] (FX0_age a1) := by
  refine ow_of (bytes := cL_age) (maxL := 4) (hh := [(0, 9, 12, 13)]) (by decide) rfl rfl (Nat.le_of_ble_eq_true rfl) ?_
  intro p e s m below meth c st f A r0 x ls X hfo hr0 hP hPo hl hS
  have X' := X
  obtain ⟨⟨hx, hb, hml, hown, hts⟩, hK, hD, hA, hKS, hBX, hNC, hU, hN, hr, hlk, htab⟩ := X
  obtain ⟨en, v, st2⟩ := r0
  have hl : lv_has ls 4 [(0, .ref (ad 0)), (1, .int a1), (2, .ref ao)] := hl
  refine lv_aload_n hx hb dL_age_0 rfl (lv_at hl 2 rfl) ?_
  refine lv_iconst (v := 0) hx hb dL_age_1 (by decide) ?_
  refine lv_aload_n hx hb dL_age_2 rfl (lv_at hl 0 rfl) ?_
  refine lv_iload_n hx hb dL_age_3 rfl (lv_at hl 1 rfl) ?_
  refine ow_call (As := [.int a1]) (rest := [.int 0, .ref ao]) (wr := ow_out cJ ao f) hx hb hml hown hts (hK.sub [0, 1] rfl) oz_CX0 (hD st f) hA hKS hBX hU hN hP hPo hS hl.1 (mX0_age l hst D cI cZ ad a1) gL_age_X0_age rfl rfl rfl hX0_age ⟨by decide, by decide⟩ rfl rfl (Nat.le_of_ble_eq_true rfl) dL_age_4 ⟨by decide, by decide⟩ hfo (fun hen ce q H1 locs1 hP1 hPo1 hS1 h1 h2 h3 => ?_) (fun hen H1 locs1 hP1 hPo1 hS1 => ?_)
  · obtain ⟨cv, hc, rfl⟩ := ow_r_thrown hen hr0
    obtain ⟨rfl, rfl⟩ := oz_code1 hc
    refine vx_catch (name := "java/lang/IndexOutOfBoundsException") hown [] ⟨0, 9, 12, 13⟩ [] htab (fun z hz => nomatch hz) (by decide) (by decide) (hts _ lkL_age_13) (va_Nw.use rfl (hBX _ (List.mem_of_getElem? (i := 3) rfl))) h1 h2 h3 ?_
    refine lv_astore_n (lv' := [(3, .ref q), (0, .ref (ad 0)), (1, .int a1), (2, .ref ao)]) hx hb dL_age_12 rfl hl (by decide) rfl (fun ls hl => ?_)
    refine lv_iconst (v := 1) hx hb dL_age_13 (by decide) ?_
    exact ow_ret X' rfl hP1 hPo1 hS1 (by decide) (by decide) dL_age_14
  · subst hen
    have hr0 := ow_r_back hr0
    refine lv_i2l hx hb dL_age_7 rfl ?_
    refine va_last (n := 1) hx hb hK (va_P.app hP1 hPo1) (hD st2 f) hS1 15 2 rfl rfl ow_in0 dL_age_8 (fun H2 locs2 hP2 _ hS2 => ?_)
    have hP2 : va_P D vwCl (ow_ww cI cZ cJ ad ao st2 (vp_updL f 0 v.toInt64)) H2 := hP2
    refine lv_goto (tgt := 15) hx hb dL_age_9 (by decide) ?_
    refine lv_iconst (v := 0) hx hb dL_age_15 (by decide) ?_
    exact ow_ret X' hr0 (ow_P_l hP2) (ow_P_r hP2) hS2 (by decide) (by decide) dL_age_16
def rmL_owns : Room := { frames := 7, cells := 1, slots := 6, locals := 105 }
theorem hL_owns : yL_owns.cls ≠ "java/lang/invoke/MethodHandle" ∧ yL_owns.cls ≠ "java/lang/invoke/VarHandle" ∧ (parseMethodDescriptor yL_owns.desc).map (fun d => d.parameters.length) = some 3 := by decide +kernel
theorem lkL_owns_13 : Cond.classLink RL 13 "java/lang/IndexOutOfBoundsException" ∈ wsL_owns := by decide +kernel
set_option maxHeartbeats 4000000 in
set_option maxRecDepth 100000 in
theorem mL_owns (l : Launch) (hst : l.stackTraces = false) (D : va_G) (cI cZ cJ : ClassId) (ad : Nat → Nat) (ao : Nat) (a1 : Int32) : ow_MW l yL_owns wsL_owns rmL_owns D cI cZ cJ ad ao 1 [.ref (ad 0), .int a1, .ref ao] Int32.toInt64 [(1, 1)] (FX0_owns a1) := by
  refine ow_of (bytes := cL_owns) (maxL := 4) (hh := [(0, 9, 12, 13)]) (by decide) rfl rfl (Nat.le_of_ble_eq_true rfl) ?_
  intro p e s m below meth c st f A r0 x ls X hfo hr0 hP hPo hl hS
  have X' := X
  obtain ⟨⟨hx, hb, hml, hown, hts⟩, hK, hD, hA, hKS, hBX, hNC, hU, hN, hr, hlk, htab⟩ := X
  obtain ⟨en, v, st2⟩ := r0
  have hl : lv_has ls 4 [(0, .ref (ad 0)), (1, .int a1), (2, .ref ao)] := hl
  refine lv_aload_n hx hb dL_owns_0 rfl (lv_at hl 2 rfl) ?_
  refine lv_iconst (v := 0) hx hb dL_owns_1 (by decide) ?_
  refine lv_aload_n hx hb dL_owns_2 rfl (lv_at hl 0 rfl) ?_
  refine lv_iload_n hx hb dL_owns_3 rfl (lv_at hl 1 rfl) ?_
  refine ow_call (As := [.int a1]) (rest := [.int 0, .ref ao]) (wr := ow_out cJ ao f) hx hb hml hown hts (hK.sub [0, 1] rfl) oz_CX0 (hD st f) hA hKS hBX hU hN hP hPo hS hl.1 (mX0_owns l hst D cI cZ ad a1) gL_owns_X0_owns rfl rfl rfl hX0_owns ⟨by decide, by decide⟩ rfl rfl (Nat.le_of_ble_eq_true rfl) dL_owns_4 ⟨by decide, by decide⟩ hfo (fun hen ce q H1 locs1 hP1 hPo1 hS1 h1 h2 h3 => ?_) (fun hen H1 locs1 hP1 hPo1 hS1 => ?_)
  · obtain ⟨cv, hc, rfl⟩ := ow_r_thrown hen hr0
    obtain ⟨rfl, rfl⟩ := oz_code1 hc
    refine vx_catch (name := "java/lang/IndexOutOfBoundsException") hown [] ⟨0, 9, 12, 13⟩ [] htab (fun z hz => nomatch hz) (by decide) (by decide) (hts _ lkL_owns_13) (va_Nw.use rfl (hBX _ (List.mem_of_getElem? (i := 3) rfl))) h1 h2 h3 ?_
    refine lv_astore_n (lv' := [(3, .ref q), (0, .ref (ad 0)), (1, .int a1), (2, .ref ao)]) hx hb dL_owns_12 rfl hl (by decide) rfl (fun ls hl => ?_)
    refine lv_iconst (v := 1) hx hb dL_owns_13 (by decide) ?_
    exact ow_ret X' rfl hP1 hPo1 hS1 (by decide) (by decide) dL_owns_14
  · subst hen
    have hr0 := ow_r_back hr0
    refine lv_i2l hx hb dL_owns_7 rfl ?_
    refine va_last (n := 1) hx hb hK (va_P.app hP1 hPo1) (hD st2 f) hS1 15 2 rfl rfl ow_in0 dL_owns_8 (fun H2 locs2 hP2 _ hS2 => ?_)
    have hP2 : va_P D vwCl (ow_ww cI cZ cJ ad ao st2 (vp_updL f 0 v.toInt64)) H2 := hP2
    refine lv_goto (tgt := 15) hx hb dL_owns_9 (by decide) ?_
    refine lv_iconst (v := 0) hx hb dL_owns_15 (by decide) ?_
    exact ow_ret X' hr0 (ow_P_l hP2) (ow_P_r hP2) hS2 (by decide) (by decide) dL_owns_16
def rmL_borrowed : Room := { frames := 7, cells := 1, slots := 6, locals := 103 }
theorem hL_borrowed : yL_borrowed.cls ≠ "java/lang/invoke/MethodHandle" ∧ yL_borrowed.cls ≠ "java/lang/invoke/VarHandle" ∧ (parseMethodDescriptor yL_borrowed.desc).map (fun d => d.parameters.length) = some 3 := by decide +kernel
theorem lkL_borrowed_13 : Cond.classLink RL 13 "java/lang/IndexOutOfBoundsException" ∈ wsL_borrowed := by decide +kernel
set_option maxHeartbeats 4000000 in
set_option maxRecDepth 100000 in
theorem mL_borrowed (l : Launch) (hst : l.stackTraces = false) (D : va_G) (cI cZ cJ : ClassId) (ad : Nat → Nat) (ao : Nat) (a1 : Int32) : ow_MW l yL_borrowed wsL_borrowed rmL_borrowed D cI cZ cJ ad ao 1 [.ref (ad 0), .int a1, .ref ao] Int32.toInt64 [(1, 1)] (FX0_borrowed a1) := by
  refine ow_of (bytes := cL_borrowed) (maxL := 4) (hh := [(0, 9, 12, 13)]) (by decide) rfl rfl (Nat.le_of_ble_eq_true rfl) ?_
  intro p e s m below meth c st f A r0 x ls X hfo hr0 hP hPo hl hS
  have X' := X
  obtain ⟨⟨hx, hb, hml, hown, hts⟩, hK, hD, hA, hKS, hBX, hNC, hU, hN, hr, hlk, htab⟩ := X
  obtain ⟨en, v, st2⟩ := r0
  have hl : lv_has ls 4 [(0, .ref (ad 0)), (1, .int a1), (2, .ref ao)] := hl
  refine lv_aload_n hx hb dL_borrowed_0 rfl (lv_at hl 2 rfl) ?_
  refine lv_iconst (v := 0) hx hb dL_borrowed_1 (by decide) ?_
  refine lv_aload_n hx hb dL_borrowed_2 rfl (lv_at hl 0 rfl) ?_
  refine lv_iload_n hx hb dL_borrowed_3 rfl (lv_at hl 1 rfl) ?_
  refine ow_call (As := [.int a1]) (rest := [.int 0, .ref ao]) (wr := ow_out cJ ao f) hx hb hml hown hts (hK.sub [0, 1] rfl) oz_CX0 (hD st f) hA hKS hBX hU hN hP hPo hS hl.1 (mX0_borrowed l hst D cI cZ ad a1) gL_borrowed_X0_borrowed rfl rfl rfl hX0_borrowed ⟨by decide, by decide⟩ rfl rfl (Nat.le_of_ble_eq_true rfl) dL_borrowed_4 ⟨by decide, by decide⟩ hfo (fun hen ce q H1 locs1 hP1 hPo1 hS1 h1 h2 h3 => ?_) (fun hen H1 locs1 hP1 hPo1 hS1 => ?_)
  · obtain ⟨cv, hc, rfl⟩ := ow_r_thrown hen hr0
    obtain ⟨rfl, rfl⟩ := oz_code1 hc
    refine vx_catch (name := "java/lang/IndexOutOfBoundsException") hown [] ⟨0, 9, 12, 13⟩ [] htab (fun z hz => nomatch hz) (by decide) (by decide) (hts _ lkL_borrowed_13) (va_Nw.use rfl (hBX _ (List.mem_of_getElem? (i := 3) rfl))) h1 h2 h3 ?_
    refine lv_astore_n (lv' := [(3, .ref q), (0, .ref (ad 0)), (1, .int a1), (2, .ref ao)]) hx hb dL_borrowed_12 rfl hl (by decide) rfl (fun ls hl => ?_)
    refine lv_iconst (v := 1) hx hb dL_borrowed_13 (by decide) ?_
    exact ow_ret X' rfl hP1 hPo1 hS1 (by decide) (by decide) dL_borrowed_14
  · subst hen
    have hr0 := ow_r_back hr0
    refine lv_i2l hx hb dL_borrowed_7 rfl ?_
    refine va_last (n := 1) hx hb hK (va_P.app hP1 hPo1) (hD st2 f) hS1 15 2 rfl rfl ow_in0 dL_borrowed_8 (fun H2 locs2 hP2 _ hS2 => ?_)
    have hP2 : va_P D vwCl (ow_ww cI cZ cJ ad ao st2 (vp_updL f 0 v.toInt64)) H2 := hP2
    refine lv_goto (tgt := 15) hx hb dL_borrowed_9 (by decide) ?_
    refine lv_iconst (v := 0) hx hb dL_borrowed_15 (by decide) ?_
    exact ow_ret X' hr0 (ow_P_l hP2) (ow_P_r hP2) hS2 (by decide) (by decide) dL_borrowed_16
def rmL_lent : Room := { frames := 7, cells := 1, slots := 6, locals := 105 }
theorem hL_lent : yL_lent.cls ≠ "java/lang/invoke/MethodHandle" ∧ yL_lent.cls ≠ "java/lang/invoke/VarHandle" ∧ (parseMethodDescriptor yL_lent.desc).map (fun d => d.parameters.length) = some 3 := by decide +kernel
theorem lkL_lent_13 : Cond.classLink RL 13 "java/lang/IndexOutOfBoundsException" ∈ wsL_lent := by decide +kernel
set_option maxHeartbeats 4000000 in
set_option maxRecDepth 100000 in
theorem mL_lent (l : Launch) (hst : l.stackTraces = false) (D : va_G) (cI cZ cJ : ClassId) (ad : Nat → Nat) (ao : Nat) (a1 : Int32) : ow_MW l yL_lent wsL_lent rmL_lent D cI cZ cJ ad ao 1 [.ref (ad 0), .int a1, .ref ao] Int32.toInt64 [(1, 1)] (FX0_lent a1) := by
  refine ow_of (bytes := cL_lent) (maxL := 4) (hh := [(0, 9, 12, 13)]) (by decide) rfl rfl (Nat.le_of_ble_eq_true rfl) ?_
  intro p e s m below meth c st f A r0 x ls X hfo hr0 hP hPo hl hS
  have X' := X
  obtain ⟨⟨hx, hb, hml, hown, hts⟩, hK, hD, hA, hKS, hBX, hNC, hU, hN, hr, hlk, htab⟩ := X
  obtain ⟨en, v, st2⟩ := r0
  have hl : lv_has ls 4 [(0, .ref (ad 0)), (1, .int a1), (2, .ref ao)] := hl
  refine lv_aload_n hx hb dL_lent_0 rfl (lv_at hl 2 rfl) ?_
  refine lv_iconst (v := 0) hx hb dL_lent_1 (by decide) ?_
  refine lv_aload_n hx hb dL_lent_2 rfl (lv_at hl 0 rfl) ?_
  refine lv_iload_n hx hb dL_lent_3 rfl (lv_at hl 1 rfl) ?_
  refine ow_call (As := [.int a1]) (rest := [.int 0, .ref ao]) (wr := ow_out cJ ao f) hx hb hml hown hts (hK.sub [0, 1] rfl) oz_CX0 (hD st f) hA hKS hBX hU hN hP hPo hS hl.1 (mX0_lent l hst D cI cZ ad a1) gL_lent_X0_lent rfl rfl rfl hX0_lent ⟨by decide, by decide⟩ rfl rfl (Nat.le_of_ble_eq_true rfl) dL_lent_4 ⟨by decide, by decide⟩ hfo (fun hen ce q H1 locs1 hP1 hPo1 hS1 h1 h2 h3 => ?_) (fun hen H1 locs1 hP1 hPo1 hS1 => ?_)
  · obtain ⟨cv, hc, rfl⟩ := ow_r_thrown hen hr0
    obtain ⟨rfl, rfl⟩ := oz_code1 hc
    refine vx_catch (name := "java/lang/IndexOutOfBoundsException") hown [] ⟨0, 9, 12, 13⟩ [] htab (fun z hz => nomatch hz) (by decide) (by decide) (hts _ lkL_lent_13) (va_Nw.use rfl (hBX _ (List.mem_of_getElem? (i := 3) rfl))) h1 h2 h3 ?_
    refine lv_astore_n (lv' := [(3, .ref q), (0, .ref (ad 0)), (1, .int a1), (2, .ref ao)]) hx hb dL_lent_12 rfl hl (by decide) rfl (fun ls hl => ?_)
    refine lv_iconst (v := 1) hx hb dL_lent_13 (by decide) ?_
    exact ow_ret X' rfl hP1 hPo1 hS1 (by decide) (by decide) dL_lent_14
  · subst hen
    have hr0 := ow_r_back hr0
    refine lv_i2l hx hb dL_lent_7 rfl ?_
    refine va_last (n := 1) hx hb hK (va_P.app hP1 hPo1) (hD st2 f) hS1 15 2 rfl rfl ow_in0 dL_lent_8 (fun H2 locs2 hP2 _ hS2 => ?_)
    have hP2 : va_P D vwCl (ow_ww cI cZ cJ ad ao st2 (vp_updL f 0 v.toInt64)) H2 := hP2
    refine lv_goto (tgt := 15) hx hb dL_lent_9 (by decide) ?_
    refine lv_iconst (v := 0) hx hb dL_lent_15 (by decide) ?_
    exact ow_ret X' hr0 (ow_P_l hP2) (ow_P_r hP2) hS2 (by decide) (by decide) dL_lent_16
def rmL_stateOf : Room := { frames := 7, cells := 1, slots := 6, locals := 103 }
theorem hL_stateOf : yL_stateOf.cls ≠ "java/lang/invoke/MethodHandle" ∧ yL_stateOf.cls ≠ "java/lang/invoke/VarHandle" ∧ (parseMethodDescriptor yL_stateOf.desc).map (fun d => d.parameters.length) = some 3 := by decide +kernel
theorem lkL_stateOf_13 : Cond.classLink RL 13 "java/lang/IndexOutOfBoundsException" ∈ wsL_stateOf := by decide +kernel
set_option maxHeartbeats 4000000 in
set_option maxRecDepth 100000 in
theorem mL_stateOf (l : Launch) (hst : l.stackTraces = false) (D : va_G) (cI cZ cJ : ClassId) (ad : Nat → Nat) (ao : Nat) (a1 : Int32) : ow_MW l yL_stateOf wsL_stateOf rmL_stateOf D cI cZ cJ ad ao 1 [.ref (ad 0), .int a1, .ref ao] Int32.toInt64 [(1, 1)] (FX0_stateOf a1) := by
  refine ow_of (bytes := cL_stateOf) (maxL := 4) (hh := [(0, 9, 12, 13)]) (by decide) rfl rfl (Nat.le_of_ble_eq_true rfl) ?_
  intro p e s m below meth c st f A r0 x ls X hfo hr0 hP hPo hl hS
  have X' := X
  obtain ⟨⟨hx, hb, hml, hown, hts⟩, hK, hD, hA, hKS, hBX, hNC, hU, hN, hr, hlk, htab⟩ := X
  obtain ⟨en, v, st2⟩ := r0
  have hl : lv_has ls 4 [(0, .ref (ad 0)), (1, .int a1), (2, .ref ao)] := hl
  refine lv_aload_n hx hb dL_stateOf_0 rfl (lv_at hl 2 rfl) ?_
  refine lv_iconst (v := 0) hx hb dL_stateOf_1 (by decide) ?_
  refine lv_aload_n hx hb dL_stateOf_2 rfl (lv_at hl 0 rfl) ?_
  refine lv_iload_n hx hb dL_stateOf_3 rfl (lv_at hl 1 rfl) ?_
  refine ow_call (As := [.int a1]) (rest := [.int 0, .ref ao]) (wr := ow_out cJ ao f) hx hb hml hown hts (hK.sub [0, 1] rfl) oz_CX0 (hD st f) hA hKS hBX hU hN hP hPo hS hl.1 (mX0_stateOf l hst D cI cZ ad a1) gL_stateOf_X0_stateOf rfl rfl rfl hX0_stateOf ⟨by decide, by decide⟩ rfl rfl (Nat.le_of_ble_eq_true rfl) dL_stateOf_4 ⟨by decide, by decide⟩ hfo (fun hen ce q H1 locs1 hP1 hPo1 hS1 h1 h2 h3 => ?_) (fun hen H1 locs1 hP1 hPo1 hS1 => ?_)
  · obtain ⟨cv, hc, rfl⟩ := ow_r_thrown hen hr0
    obtain ⟨rfl, rfl⟩ := oz_code1 hc
    refine vx_catch (name := "java/lang/IndexOutOfBoundsException") hown [] ⟨0, 9, 12, 13⟩ [] htab (fun z hz => nomatch hz) (by decide) (by decide) (hts _ lkL_stateOf_13) (va_Nw.use rfl (hBX _ (List.mem_of_getElem? (i := 3) rfl))) h1 h2 h3 ?_
    refine lv_astore_n (lv' := [(3, .ref q), (0, .ref (ad 0)), (1, .int a1), (2, .ref ao)]) hx hb dL_stateOf_12 rfl hl (by decide) rfl (fun ls hl => ?_)
    refine lv_iconst (v := 1) hx hb dL_stateOf_13 (by decide) ?_
    exact ow_ret X' rfl hP1 hPo1 hS1 (by decide) (by decide) dL_stateOf_14
  · subst hen
    have hr0 := ow_r_back hr0
    refine lv_i2l hx hb dL_stateOf_7 rfl ?_
    refine va_last (n := 1) hx hb hK (va_P.app hP1 hPo1) (hD st2 f) hS1 15 2 rfl rfl ow_in0 dL_stateOf_8 (fun H2 locs2 hP2 _ hS2 => ?_)
    have hP2 : va_P D vwCl (ow_ww cI cZ cJ ad ao st2 (vp_updL f 0 v.toInt64)) H2 := hP2
    refine lv_goto (tgt := 15) hx hb dL_stateOf_9 (by decide) ?_
    refine lv_iconst (v := 0) hx hb dL_stateOf_15 (by decide) ?_
    exact ow_ret X' hr0 (ow_P_l hP2) (ow_P_r hP2) hS2 (by decide) (by decide) dL_stateOf_16
def rmL_purse : Room := { frames := 7, cells := 1, slots := 6, locals := 103 }
theorem hL_purse : yL_purse.cls ≠ "java/lang/invoke/MethodHandle" ∧ yL_purse.cls ≠ "java/lang/invoke/VarHandle" ∧ (parseMethodDescriptor yL_purse.desc).map (fun d => d.parameters.length) = some 3 := by decide +kernel
theorem lkL_purse_13 : Cond.classLink RL 13 "java/lang/IndexOutOfBoundsException" ∈ wsL_purse := by decide +kernel
set_option maxHeartbeats 4000000 in
set_option maxRecDepth 100000 in
theorem mL_purse (l : Launch) (hst : l.stackTraces = false) (D : va_G) (cI cZ cJ : ClassId) (ad : Nat → Nat) (ao : Nat) (a1 : Int32) : ow_MW l yL_purse wsL_purse rmL_purse D cI cZ cJ ad ao 1 [.ref (ad 0), .int a1, .ref ao] Int32.toInt64 [(1, 1)] (FX0_purse a1) := by
  refine ow_of (bytes := cL_purse) (maxL := 4) (hh := [(0, 9, 12, 13)]) (by decide) rfl rfl (Nat.le_of_ble_eq_true rfl) ?_
  intro p e s m below meth c st f A r0 x ls X hfo hr0 hP hPo hl hS
  have X' := X
  obtain ⟨⟨hx, hb, hml, hown, hts⟩, hK, hD, hA, hKS, hBX, hNC, hU, hN, hr, hlk, htab⟩ := X
  obtain ⟨en, v, st2⟩ := r0
  have hl : lv_has ls 4 [(0, .ref (ad 0)), (1, .int a1), (2, .ref ao)] := hl
  refine lv_aload_n hx hb dL_purse_0 rfl (lv_at hl 2 rfl) ?_
  refine lv_iconst (v := 0) hx hb dL_purse_1 (by decide) ?_
  refine lv_aload_n hx hb dL_purse_2 rfl (lv_at hl 0 rfl) ?_
  refine lv_iload_n hx hb dL_purse_3 rfl (lv_at hl 1 rfl) ?_
  refine ow_call (As := [.int a1]) (rest := [.int 0, .ref ao]) (wr := ow_out cJ ao f) hx hb hml hown hts (hK.sub [0, 1] rfl) oz_CX0 (hD st f) hA hKS hBX hU hN hP hPo hS hl.1 (mX0_purse l hst D cI cZ ad a1) gL_purse_X0_purse rfl rfl rfl hX0_purse ⟨by decide, by decide⟩ rfl rfl (Nat.le_of_ble_eq_true rfl) dL_purse_4 ⟨by decide, by decide⟩ hfo (fun hen ce q H1 locs1 hP1 hPo1 hS1 h1 h2 h3 => ?_) (fun hen H1 locs1 hP1 hPo1 hS1 => ?_)
  · obtain ⟨cv, hc, rfl⟩ := ow_r_thrown hen hr0
    obtain ⟨rfl, rfl⟩ := oz_code1 hc
    refine vx_catch (name := "java/lang/IndexOutOfBoundsException") hown [] ⟨0, 9, 12, 13⟩ [] htab (fun z hz => nomatch hz) (by decide) (by decide) (hts _ lkL_purse_13) (va_Nw.use rfl (hBX _ (List.mem_of_getElem? (i := 3) rfl))) h1 h2 h3 ?_
    refine lv_astore_n (lv' := [(3, .ref q), (0, .ref (ad 0)), (1, .int a1), (2, .ref ao)]) hx hb dL_purse_12 rfl hl (by decide) rfl (fun ls hl => ?_)
    refine lv_iconst (v := 1) hx hb dL_purse_13 (by decide) ?_
    exact ow_ret X' rfl hP1 hPo1 hS1 (by decide) (by decide) dL_purse_14
  · subst hen
    have hr0 := ow_r_back hr0
    refine lv_i2l hx hb dL_purse_7 rfl ?_
    refine va_last (n := 1) hx hb hK (va_P.app hP1 hPo1) (hD st2 f) hS1 15 2 rfl rfl ow_in0 dL_purse_8 (fun H2 locs2 hP2 _ hS2 => ?_)
    have hP2 : va_P D vwCl (ow_ww cI cZ cJ ad ao st2 (vp_updL f 0 v.toInt64)) H2 := hP2
    refine lv_goto (tgt := 15) hx hb dL_purse_9 (by decide) ?_
    refine lv_iconst (v := 0) hx hb dL_purse_15 (by decide) ?_
    exact ow_ret X' hr0 (ow_P_l hP2) (ow_P_r hP2) hS2 (by decide) (by decide) dL_purse_16
def rmL_faults : Room := { frames := 7, cells := 1, slots := 6, locals := 103 }
theorem hL_faults : yL_faults.cls ≠ "java/lang/invoke/MethodHandle" ∧ yL_faults.cls ≠ "java/lang/invoke/VarHandle" ∧ (parseMethodDescriptor yL_faults.desc).map (fun d => d.parameters.length) = some 3 := by decide +kernel
theorem lkL_faults_13 : Cond.classLink RL 13 "java/lang/IndexOutOfBoundsException" ∈ wsL_faults := by decide +kernel
set_option maxHeartbeats 4000000 in
set_option maxRecDepth 100000 in
theorem mL_faults (l : Launch) (hst : l.stackTraces = false) (D : va_G) (cI cZ cJ : ClassId) (ad : Nat → Nat) (ao : Nat) (a1 : Int32) : ow_MW l yL_faults wsL_faults rmL_faults D cI cZ cJ ad ao 1 [.ref (ad 0), .int a1, .ref ao] Int32.toInt64 [(1, 1)] (FX0_faults a1) := by
  refine ow_of (bytes := cL_faults) (maxL := 4) (hh := [(0, 9, 12, 13)]) (by decide) rfl rfl (Nat.le_of_ble_eq_true rfl) ?_
  intro p e s m below meth c st f A r0 x ls X hfo hr0 hP hPo hl hS
  have X' := X
  obtain ⟨⟨hx, hb, hml, hown, hts⟩, hK, hD, hA, hKS, hBX, hNC, hU, hN, hr, hlk, htab⟩ := X
  obtain ⟨en, v, st2⟩ := r0
  have hl : lv_has ls 4 [(0, .ref (ad 0)), (1, .int a1), (2, .ref ao)] := hl
  refine lv_aload_n hx hb dL_faults_0 rfl (lv_at hl 2 rfl) ?_
  refine lv_iconst (v := 0) hx hb dL_faults_1 (by decide) ?_
  refine lv_aload_n hx hb dL_faults_2 rfl (lv_at hl 0 rfl) ?_
  refine lv_iload_n hx hb dL_faults_3 rfl (lv_at hl 1 rfl) ?_
  refine ow_call (As := [.int a1]) (rest := [.int 0, .ref ao]) (wr := ow_out cJ ao f) hx hb hml hown hts (hK.sub [0, 1] rfl) oz_CX0 (hD st f) hA hKS hBX hU hN hP hPo hS hl.1 (mX0_faults l hst D cI cZ ad a1) gL_faults_X0_faults rfl rfl rfl hX0_faults ⟨by decide, by decide⟩ rfl rfl (Nat.le_of_ble_eq_true rfl) dL_faults_4 ⟨by decide, by decide⟩ hfo (fun hen ce q H1 locs1 hP1 hPo1 hS1 h1 h2 h3 => ?_) (fun hen H1 locs1 hP1 hPo1 hS1 => ?_)
  · obtain ⟨cv, hc, rfl⟩ := ow_r_thrown hen hr0
    obtain ⟨rfl, rfl⟩ := oz_code1 hc
    refine vx_catch (name := "java/lang/IndexOutOfBoundsException") hown [] ⟨0, 9, 12, 13⟩ [] htab (fun z hz => nomatch hz) (by decide) (by decide) (hts _ lkL_faults_13) (va_Nw.use rfl (hBX _ (List.mem_of_getElem? (i := 3) rfl))) h1 h2 h3 ?_
    refine lv_astore_n (lv' := [(3, .ref q), (0, .ref (ad 0)), (1, .int a1), (2, .ref ao)]) hx hb dL_faults_12 rfl hl (by decide) rfl (fun ls hl => ?_)
    refine lv_iconst (v := 1) hx hb dL_faults_13 (by decide) ?_
    exact ow_ret X' rfl hP1 hPo1 hS1 (by decide) (by decide) dL_faults_14
  · subst hen
    have hr0 := ow_r_back hr0
    refine lv_i2l hx hb dL_faults_7 rfl ?_
    refine va_last (n := 1) hx hb hK (va_P.app hP1 hPo1) (hD st2 f) hS1 15 2 rfl rfl ow_in0 dL_faults_8 (fun H2 locs2 hP2 _ hS2 => ?_)
    have hP2 : va_P D vwCl (ow_ww cI cZ cJ ad ao st2 (vp_updL f 0 v.toInt64)) H2 := hP2
    refine lv_goto (tgt := 15) hx hb dL_faults_9 (by decide) ?_
    refine lv_iconst (v := 0) hx hb dL_faults_15 (by decide) ?_
    exact ow_ret X' hr0 (ow_P_l hP2) (ow_P_r hP2) hS2 (by decide) (by decide) dL_faults_16
def rmL_lasts : Room := { frames := 7, cells := 1, slots := 6, locals := 103 }
theorem hL_lasts : yL_lasts.cls ≠ "java/lang/invoke/MethodHandle" ∧ yL_lasts.cls ≠ "java/lang/invoke/VarHandle" ∧ (parseMethodDescriptor yL_lasts.desc).map (fun d => d.parameters.length) = some 3 := by decide +kernel
theorem lkL_lasts_13 : Cond.classLink RL 13 "java/lang/IndexOutOfBoundsException" ∈ wsL_lasts := by decide +kernel
set_option maxHeartbeats 4000000 in
set_option maxRecDepth 100000 in
theorem mL_lasts (l : Launch) (hst : l.stackTraces = false) (D : va_G) (cI cZ cJ : ClassId) (ad : Nat → Nat) (ao : Nat) (a1 : Int32) : ow_MW l yL_lasts wsL_lasts rmL_lasts D cI cZ cJ ad ao 1 [.ref (ad 0), .int a1, .ref ao] ow_bit [(1, 1)] (FX0_lasts a1) := by
  refine ow_of (bytes := cL_lasts) (maxL := 4) (hh := [(0, 16, 19, 13)]) (by decide) rfl rfl (Nat.le_of_ble_eq_true rfl) ?_
  intro p e s m below meth c st f A r0 x ls X hfo hr0 hP hPo hl hS
  have X' := X
  obtain ⟨⟨hx, hb, hml, hown, hts⟩, hK, hD, hA, hKS, hBX, hNC, hU, hN, hr, hlk, htab⟩ := X
  obtain ⟨en, v, st2⟩ := r0
  have hl : lv_has ls 4 [(0, .ref (ad 0)), (1, .int a1), (2, .ref ao)] := hl
  refine lv_aload_n hx hb dL_lasts_0 rfl (lv_at hl 2 rfl) ?_
  refine lv_iconst (v := 0) hx hb dL_lasts_1 (by decide) ?_
  refine lv_aload_n hx hb dL_lasts_2 rfl (lv_at hl 0 rfl) ?_
  refine lv_iload_n hx hb dL_lasts_3 rfl (lv_at hl 1 rfl) ?_
  refine ow_call (As := [.int a1]) (rest := [.int 0, .ref ao]) (wr := ow_out cJ ao f) hx hb hml hown hts (hK.sub [0, 1] rfl) oz_CX0 (hD st f) hA hKS hBX hU hN hP hPo hS hl.1 (mX0_lasts l hst D cI cZ ad a1) gL_lasts_X0_lasts rfl rfl rfl hX0_lasts ⟨by decide, by decide⟩ rfl rfl (Nat.le_of_ble_eq_true rfl) dL_lasts_4 ⟨by decide, by decide⟩ hfo (fun hen ce q H1 locs1 hP1 hPo1 hS1 h1 h2 h3 => ?_) (fun hen H1 locs1 hP1 hPo1 hS1 => ?_)
  · obtain ⟨cv, hc, rfl⟩ := ow_r_thrown hen hr0
    obtain ⟨rfl, rfl⟩ := oz_code1 hc
    refine vx_catch (name := "java/lang/IndexOutOfBoundsException") hown [] ⟨0, 16, 19, 13⟩ [] htab (fun z hz => nomatch hz) (by decide) (by decide) (hts _ lkL_lasts_13) (va_Nw.use rfl (hBX _ (List.mem_of_getElem? (i := 3) rfl))) h1 h2 h3 ?_
    refine lv_astore_n (lv' := [(3, .ref q), (0, .ref (ad 0)), (1, .int a1), (2, .ref ao)]) hx hb dL_lasts_19 rfl hl (by decide) rfl (fun ls hl => ?_)
    refine lv_iconst (v := 1) hx hb dL_lasts_20 (by decide) ?_
    exact ow_ret X' rfl hP1 hPo1 hS1 (by decide) (by decide) dL_lasts_21
  · subst hen
    have hr0 := ow_r_back hr0
    refine lv_if_eq (tgt := 14) hx hb dL_lasts_7 (by decide) (fun q1 => ?_) (fun q1 => ?_)
    · refine lv_lconst (v := 0) hx hb dL_lasts_14 (by decide) ?_
      refine va_last (n := 1) hx hb hK (va_P.app hP1 hPo1) (hD st2 f) hS1 15 2 rfl rfl ow_in0 dL_lasts_15 (fun H2 locs2 hP2 _ hS2 => ?_)
      have hP2 : va_P D vwCl (ow_ww cI cZ cJ ad ao st2 (vp_updL f 0 0)) H2 := hP2
      refine lv_goto (tgt := 22) hx hb dL_lasts_16 (by decide) ?_
      refine lv_iconst (v := 0) hx hb dL_lasts_22 (by decide) ?_
      exact ow_ret X' (by rw [← hr0]; simp [ow_bit, q1]) (ow_P_l hP2) (ow_P_r hP2) hS2 (by decide) (by decide) dL_lasts_23
    · refine lv_lconst (v := 1) hx hb dL_lasts_10 (by decide) ?_
      refine lv_goto (tgt := 15) hx hb dL_lasts_11 (by decide) ?_
      refine va_last (n := 1) hx hb hK (va_P.app hP1 hPo1) (hD st2 f) hS1 15 2 rfl rfl ow_in0 dL_lasts_15 (fun H2 locs2 hP2 _ hS2 => ?_)
      have hP2 : va_P D vwCl (ow_ww cI cZ cJ ad ao st2 (vp_updL f 0 1)) H2 := hP2
      refine lv_goto (tgt := 22) hx hb dL_lasts_16 (by decide) ?_
      refine lv_iconst (v := 0) hx hb dL_lasts_22 (by decide) ?_
      exact ow_ret X' (by rw [← hr0]; simp [ow_bit, q1]) (ow_P_l hP2) (ow_P_r hP2) hS2 (by decide) (by decide) dL_lasts_23
def rmL_partiesOf : Room := { frames := 7, cells := 1, slots := 6, locals := 103 }
theorem hL_partiesOf : yL_partiesOf.cls ≠ "java/lang/invoke/MethodHandle" ∧ yL_partiesOf.cls ≠ "java/lang/invoke/VarHandle" ∧ (parseMethodDescriptor yL_partiesOf.desc).map (fun d => d.parameters.length) = some 3 := by decide +kernel
theorem lkL_partiesOf_13 : Cond.classLink RL 13 "java/lang/IndexOutOfBoundsException" ∈ wsL_partiesOf := by decide +kernel
set_option maxHeartbeats 4000000 in
set_option maxRecDepth 100000 in
theorem mL_partiesOf (l : Launch) (hst : l.stackTraces = false) (D : va_G) (cI cZ cJ : ClassId) (ad : Nat → Nat) (ao : Nat) (a1 : Int32) : ow_MW l yL_partiesOf wsL_partiesOf rmL_partiesOf D cI cZ cJ ad ao 1 [.ref (ad 0), .int a1, .ref ao] Int32.toInt64 [(1, 1)] (FX0_partiesOf a1) := by
  refine ow_of (bytes := cL_partiesOf) (maxL := 4) (hh := [(0, 9, 12, 13)]) (by decide) rfl rfl (Nat.le_of_ble_eq_true rfl) ?_
  intro p e s m below meth c st f A r0 x ls X hfo hr0 hP hPo hl hS
  have X' := X
  obtain ⟨⟨hx, hb, hml, hown, hts⟩, hK, hD, hA, hKS, hBX, hNC, hU, hN, hr, hlk, htab⟩ := X
  obtain ⟨en, v, st2⟩ := r0
  have hl : lv_has ls 4 [(0, .ref (ad 0)), (1, .int a1), (2, .ref ao)] := hl
  refine lv_aload_n hx hb dL_partiesOf_0 rfl (lv_at hl 2 rfl) ?_
  refine lv_iconst (v := 0) hx hb dL_partiesOf_1 (by decide) ?_
  refine lv_aload_n hx hb dL_partiesOf_2 rfl (lv_at hl 0 rfl) ?_
  refine lv_iload_n hx hb dL_partiesOf_3 rfl (lv_at hl 1 rfl) ?_
  refine ow_call (As := [.int a1]) (rest := [.int 0, .ref ao]) (wr := ow_out cJ ao f) hx hb hml hown hts (hK.sub [0, 1] rfl) oz_CX0 (hD st f) hA hKS hBX hU hN hP hPo hS hl.1 (mX0_partiesOf l hst D cI cZ ad a1) gL_partiesOf_X0_partiesOf rfl rfl rfl hX0_partiesOf ⟨by decide, by decide⟩ rfl rfl (Nat.le_of_ble_eq_true rfl) dL_partiesOf_4 ⟨by decide, by decide⟩ hfo (fun hen ce q H1 locs1 hP1 hPo1 hS1 h1 h2 h3 => ?_) (fun hen H1 locs1 hP1 hPo1 hS1 => ?_)
  · obtain ⟨cv, hc, rfl⟩ := ow_r_thrown hen hr0
    obtain ⟨rfl, rfl⟩ := oz_code1 hc
    refine vx_catch (name := "java/lang/IndexOutOfBoundsException") hown [] ⟨0, 9, 12, 13⟩ [] htab (fun z hz => nomatch hz) (by decide) (by decide) (hts _ lkL_partiesOf_13) (va_Nw.use rfl (hBX _ (List.mem_of_getElem? (i := 3) rfl))) h1 h2 h3 ?_
    refine lv_astore_n (lv' := [(3, .ref q), (0, .ref (ad 0)), (1, .int a1), (2, .ref ao)]) hx hb dL_partiesOf_12 rfl hl (by decide) rfl (fun ls hl => ?_)
    refine lv_iconst (v := 1) hx hb dL_partiesOf_13 (by decide) ?_
    exact ow_ret X' rfl hP1 hPo1 hS1 (by decide) (by decide) dL_partiesOf_14
  · subst hen
    have hr0 := ow_r_back hr0
    refine lv_i2l hx hb dL_partiesOf_7 rfl ?_
    refine va_last (n := 1) hx hb hK (va_P.app hP1 hPo1) (hD st2 f) hS1 15 2 rfl rfl ow_in0 dL_partiesOf_8 (fun H2 locs2 hP2 _ hS2 => ?_)
    have hP2 : va_P D vwCl (ow_ww cI cZ cJ ad ao st2 (vp_updL f 0 v.toInt64)) H2 := hP2
    refine lv_goto (tgt := 15) hx hb dL_partiesOf_9 (by decide) ?_
    refine lv_iconst (v := 0) hx hb dL_partiesOf_15 (by decide) ?_
    exact ow_ret X' hr0 (ow_P_l hP2) (ow_P_r hP2) hS2 (by decide) (by decide) dL_partiesOf_16
def rmL_interest : Room := { frames := 7, cells := 1, slots := 6, locals := 103 }
theorem hL_interest : yL_interest.cls ≠ "java/lang/invoke/MethodHandle" ∧ yL_interest.cls ≠ "java/lang/invoke/VarHandle" ∧ (parseMethodDescriptor yL_interest.desc).map (fun d => d.parameters.length) = some 3 := by decide +kernel
theorem lkL_interest_13 : Cond.classLink RL 13 "java/lang/IndexOutOfBoundsException" ∈ wsL_interest := by decide +kernel
set_option maxHeartbeats 4000000 in
set_option maxRecDepth 100000 in
theorem mL_interest (l : Launch) (hst : l.stackTraces = false) (D : va_G) (cI cZ cJ : ClassId) (ad : Nat → Nat) (ao : Nat) (a1 : Int32) : ow_MW l yL_interest wsL_interest rmL_interest D cI cZ cJ ad ao 1 [.ref (ad 0), .int a1, .ref ao] Int32.toInt64 [(1, 1)] (FX0_interest a1) := by
  refine ow_of (bytes := cL_interest) (maxL := 4) (hh := [(0, 9, 12, 13)]) (by decide) rfl rfl (Nat.le_of_ble_eq_true rfl) ?_
  intro p e s m below meth c st f A r0 x ls X hfo hr0 hP hPo hl hS
  have X' := X
  obtain ⟨⟨hx, hb, hml, hown, hts⟩, hK, hD, hA, hKS, hBX, hNC, hU, hN, hr, hlk, htab⟩ := X
  obtain ⟨en, v, st2⟩ := r0
  have hl : lv_has ls 4 [(0, .ref (ad 0)), (1, .int a1), (2, .ref ao)] := hl
  refine lv_aload_n hx hb dL_interest_0 rfl (lv_at hl 2 rfl) ?_
  refine lv_iconst (v := 0) hx hb dL_interest_1 (by decide) ?_
  refine lv_aload_n hx hb dL_interest_2 rfl (lv_at hl 0 rfl) ?_
  refine lv_iload_n hx hb dL_interest_3 rfl (lv_at hl 1 rfl) ?_
  refine ow_call (As := [.int a1]) (rest := [.int 0, .ref ao]) (wr := ow_out cJ ao f) hx hb hml hown hts (hK.sub [0, 1] rfl) oz_CX0 (hD st f) hA hKS hBX hU hN hP hPo hS hl.1 (mX0_interest l hst D cI cZ ad a1) gL_interest_X0_interest rfl rfl rfl hX0_interest ⟨by decide, by decide⟩ rfl rfl (Nat.le_of_ble_eq_true rfl) dL_interest_4 ⟨by decide, by decide⟩ hfo (fun hen ce q H1 locs1 hP1 hPo1 hS1 h1 h2 h3 => ?_) (fun hen H1 locs1 hP1 hPo1 hS1 => ?_)
  · obtain ⟨cv, hc, rfl⟩ := ow_r_thrown hen hr0
    obtain ⟨rfl, rfl⟩ := oz_code1 hc
    refine vx_catch (name := "java/lang/IndexOutOfBoundsException") hown [] ⟨0, 9, 12, 13⟩ [] htab (fun z hz => nomatch hz) (by decide) (by decide) (hts _ lkL_interest_13) (va_Nw.use rfl (hBX _ (List.mem_of_getElem? (i := 3) rfl))) h1 h2 h3 ?_
    refine lv_astore_n (lv' := [(3, .ref q), (0, .ref (ad 0)), (1, .int a1), (2, .ref ao)]) hx hb dL_interest_12 rfl hl (by decide) rfl (fun ls hl => ?_)
    refine lv_iconst (v := 1) hx hb dL_interest_13 (by decide) ?_
    exact ow_ret X' rfl hP1 hPo1 hS1 (by decide) (by decide) dL_interest_14
  · subst hen
    have hr0 := ow_r_back hr0
    refine lv_i2l hx hb dL_interest_7 rfl ?_
    refine va_last (n := 1) hx hb hK (va_P.app hP1 hPo1) (hD st2 f) hS1 15 2 rfl rfl ow_in0 dL_interest_8 (fun H2 locs2 hP2 _ hS2 => ?_)
    have hP2 : va_P D vwCl (ow_ww cI cZ cJ ad ao st2 (vp_updL f 0 v.toInt64)) H2 := hP2
    refine lv_goto (tgt := 15) hx hb dL_interest_9 (by decide) ?_
    refine lv_iconst (v := 0) hx hb dL_interest_15 (by decide) ?_
    exact ow_ret X' hr0 (ow_P_l hP2) (ow_P_r hP2) hS2 (by decide) (by decide) dL_interest_16
def rmL_requestAt : Room := { frames := 7, cells := 1, slots := 6, locals := 105 }
theorem hL_requestAt : yL_requestAt.cls ≠ "java/lang/invoke/MethodHandle" ∧ yL_requestAt.cls ≠ "java/lang/invoke/VarHandle" ∧ (parseMethodDescriptor yL_requestAt.desc).map (fun d => d.parameters.length) = some 3 := by decide +kernel
theorem lkL_requestAt_13 : Cond.classLink RL 13 "java/lang/IndexOutOfBoundsException" ∈ wsL_requestAt := by decide +kernel
set_option maxHeartbeats 4000000 in
set_option maxRecDepth 100000 in
theorem mL_requestAt (l : Launch) (hst : l.stackTraces = false) (D : va_G) (cI cZ cJ : ClassId) (ad : Nat → Nat) (ao : Nat) (a1 : Int32) : ow_MW l yL_requestAt wsL_requestAt rmL_requestAt D cI cZ cJ ad ao 1 [.ref (ad 0), .int a1, .ref ao] Int32.toInt64 [(1, 1)] (FX0_requestAt a1) := by
  refine ow_of (bytes := cL_requestAt) (maxL := 4) (hh := [(0, 9, 12, 13)]) (by decide) rfl rfl (Nat.le_of_ble_eq_true rfl) ?_
  intro p e s m below meth c st f A r0 x ls X hfo hr0 hP hPo hl hS
  have X' := X
  obtain ⟨⟨hx, hb, hml, hown, hts⟩, hK, hD, hA, hKS, hBX, hNC, hU, hN, hr, hlk, htab⟩ := X
  obtain ⟨en, v, st2⟩ := r0
  have hl : lv_has ls 4 [(0, .ref (ad 0)), (1, .int a1), (2, .ref ao)] := hl
  refine lv_aload_n hx hb dL_requestAt_0 rfl (lv_at hl 2 rfl) ?_
  refine lv_iconst (v := 0) hx hb dL_requestAt_1 (by decide) ?_
  refine lv_aload_n hx hb dL_requestAt_2 rfl (lv_at hl 0 rfl) ?_
  refine lv_iload_n hx hb dL_requestAt_3 rfl (lv_at hl 1 rfl) ?_
  refine ow_call (As := [.int a1]) (rest := [.int 0, .ref ao]) (wr := ow_out cJ ao f) hx hb hml hown hts (hK.sub [0, 1] rfl) oz_CX0 (hD st f) hA hKS hBX hU hN hP hPo hS hl.1 (mX0_requestAt l hst D cI cZ ad a1) gL_requestAt_X0_requestAt rfl rfl rfl hX0_requestAt ⟨by decide, by decide⟩ rfl rfl (Nat.le_of_ble_eq_true rfl) dL_requestAt_4 ⟨by decide, by decide⟩ hfo (fun hen ce q H1 locs1 hP1 hPo1 hS1 h1 h2 h3 => ?_) (fun hen H1 locs1 hP1 hPo1 hS1 => ?_)
  · obtain ⟨cv, hc, rfl⟩ := ow_r_thrown hen hr0
    obtain ⟨rfl, rfl⟩ := oz_code1 hc
    refine vx_catch (name := "java/lang/IndexOutOfBoundsException") hown [] ⟨0, 9, 12, 13⟩ [] htab (fun z hz => nomatch hz) (by decide) (by decide) (hts _ lkL_requestAt_13) (va_Nw.use rfl (hBX _ (List.mem_of_getElem? (i := 3) rfl))) h1 h2 h3 ?_
    refine lv_astore_n (lv' := [(3, .ref q), (0, .ref (ad 0)), (1, .int a1), (2, .ref ao)]) hx hb dL_requestAt_12 rfl hl (by decide) rfl (fun ls hl => ?_)
    refine lv_iconst (v := 1) hx hb dL_requestAt_13 (by decide) ?_
    exact ow_ret X' rfl hP1 hPo1 hS1 (by decide) (by decide) dL_requestAt_14
  · subst hen
    have hr0 := ow_r_back hr0
    refine lv_i2l hx hb dL_requestAt_7 rfl ?_
    refine va_last (n := 1) hx hb hK (va_P.app hP1 hPo1) (hD st2 f) hS1 15 2 rfl rfl ow_in0 dL_requestAt_8 (fun H2 locs2 hP2 _ hS2 => ?_)
    have hP2 : va_P D vwCl (ow_ww cI cZ cJ ad ao st2 (vp_updL f 0 v.toInt64)) H2 := hP2
    refine lv_goto (tgt := 15) hx hb dL_requestAt_9 (by decide) ?_
    refine lv_iconst (v := 0) hx hb dL_requestAt_15 (by decide) ?_
    exact ow_ret X' hr0 (ow_P_l hP2) (ow_P_r hP2) hS2 (by decide) (by decide) dL_requestAt_16

section OLC
variable {p : Program} {l : Launch} {e : Env} {s : State} {m : MethodId} {b : Nat} {below : List Frame} {meth : Method} {c : Code} {N : Nat} {xs : Nat → Int32} {D : va_G} {cI cZ cJ : ClassId} {ak am : Nat → Nat} {ao : Nat} {A : Nat → Prop} {GL : LG}
variable {sk sm : ST} {f : Nat → Int64}
def FLc_164 (xs : Nat → Int32) (N : Nat) (κ : ST → ST → (Nat → Int64) → Option Int32) (i : Int32) (sk sm : ST) (f : Nat → Int64) : Option Int32 := gdL (oz_in (i + 1) N) (gdL (oz_in (i + 2) N) (bw Int32.toInt64 [(1, 1), (3, 2)] f (FX0_setWage (xs (i + 1).toNatClampNeg) (xs (i + 2).toNatClampNeg) sk) (fun r3 k3 f3 => gdL (oz_in (i + 1) N) (gdL (oz_in (i + 2) N) (bM (FX1_setWage (xs (i + 1).toNatClampNeg) (xs (i + 2).toNatClampNeg) sm) (fun r6 s6 => bM (FX1_thrown s6) (fun r7 s7 => (if r7 = r3 then (if r3 = 0 then (if lg_cmp (f3 0) r6.toInt64 = 0 then κ k3 s7 f3 else some 0) else κ k3 s7 f3) else some 0))))))))
set_option maxHeartbeats 4000000 in
set_option maxRecDepth 100000 in
theorem lc_164 (X : oL_E p l e s m b below meth c N xs D cI cZ cJ ak am ao A GL) (hst9 : l.stackTraces = false) (κ : ST → ST → (Nat → Int64) → Option Int32) (i : Int32) (K0 : Nat) (hK0 : K0 ≤ 1024) (hκ : ∀ (k : Nat) (sk sm : ST) (f : Nat → Int64), k ≤ K0 → GL k 1548 [(0, .ref b), (1, .ref (ak 0)), (2, .ref (am 0)), (3, .ref ao), (4, .int i)] [] sk sm f (κ sk sm f)) (k : Nat) (hk9 : k + 2 ≤ K0) : GL k 164 [(0, .ref b), (1, .ref (ak 0)), (2, .ref (am 0)), (3, .ref ao), (4, .int i)] [] sk sm f (FLc_164 xs N κ i sk sm f) := by
  unfold FLc_164
  refine ol_aload_n X dL_law_164 rfl 1 rfl ?_
  refine ol_aload_n X dL_law_165 rfl 0 rfl ?_
  refine ol_iload X dL_law_166 4 rfl ?_
  refine ol_iconst X (v := 1) dL_law_168 (by decide) ?_
  refine ol_iadd X dL_law_169 ?_
  refine ol_sld X dL_law_170 (fun g1 => ?_)
  refine ol_aload_n X dL_law_171 rfl 0 rfl ?_
  refine ol_iload X dL_law_172 4 rfl ?_
  refine ol_iconst X (v := 2) dL_law_174 (by decide) ?_
  refine ol_iadd X dL_law_175 ?_
  refine ol_sld X dL_law_176 (fun g2 => ?_)
  refine ol_aload_n X dL_law_177 rfl 3 rfl ?_
  refine ol_callW X hst9 (As := [.ref (ak 0), .int (xs (i + 1).toNatClampNeg), .int (xs (i + 2).toNatClampNeg), .ref ao]) (S := []) (mL_setWage l hst9 D cI cZ cJ ak ao (xs (i + 1).toNatClampNeg) (xs (i + 2).toNatClampNeg)) gL_law_L_setWage rfl rfl rfl hL_setWage ⟨by decide, by decide⟩ rfl rfl (Nat.le_of_ble_eq_true rfl) dL_law_178 (by omega) (fun r3 k3 f3 => ?_)
  refine ol_istore X (L2 := [(5, .int r3), (0, .ref b), (1, .ref (ak 0)), (2, .ref (am 0)), (3, .ref ao), (4, .int i)]) dL_law_181 (by decide) rfl ?_
  refine ol_aload_n X dL_law_183 rfl 3 rfl ?_
  refine ol_aload_n X dL_law_184 rfl 1 rfl ?_
  refine ol_iload X dL_law_185 5 rfl ?_
  refine ol_iconst X (v := 1) dL_law_187 (by decide) ?_
  refine ol_iadd X dL_law_188 ?_
  refine ol_sld X dL_law_189 (fun g4 => ?_)
  refine ol_aload_n X dL_law_190 rfl 1 rfl ?_
  refine ol_iload X dL_law_191 5 rfl ?_
  refine ol_iconst X (v := 2) dL_law_193 (by decide) ?_
  refine ol_iadd X dL_law_194 ?_
  refine ol_sld X dL_law_195 (fun g5 => ?_)
  refine ol_callM X (As := [.int (xs (i + 1).toNatClampNeg), .int (xs (i + 2).toNatClampNeg)]) (S := []) (mX1_setWage l hst9 D cI cZ am (xs (i + 1).toNatClampNeg) (xs (i + 2).toNatClampNeg)) gL_law_X1_setWage rfl rfl rfl hX1_setWage ⟨by decide, by decide⟩ rfl rfl (Nat.le_of_ble_eq_true rfl) dL_law_196 (by omega) (fun r6 s6 => ?_)
  refine ol_istore X (L2 := [(6, .int r6), (5, .int r3), (0, .ref b), (1, .ref (ak 0)), (2, .ref (am 0)), (3, .ref ao), (4, .int i)]) dL_law_199 (by decide) rfl ?_
  refine ol_aload_n X dL_law_201 rfl 4 rfl ?_
  refine ol_callM X (As := []) (S := []) (mX1_thrown l hst9 D cI cZ am) gL_law_X1_thrown rfl rfl rfl hX1_thrown ⟨by decide, by decide⟩ rfl rfl (Nat.le_of_ble_eq_true rfl) dL_law_202 (by omega) (fun r7 s7 => ?_)
  refine ol_iload X dL_law_205 1 rfl ?_
  refine ol_icmp_eq X (tgt := 212) dL_law_207 (by decide) (fun q8 => ?_) (fun q8 => ?_)
  · refine ol_iload X dL_law_212 1 rfl ?_
    refine ol_if_ne X (tgt := 229) dL_law_214 (by decide) (fun q9 => ?_) (fun q9 => ?_)
    · refine ol_goto X (tgt := 1548) dL_law_229 (by decide) ?_
      exact ol_sub X [2, 3, 4, 5, 6] (L2 := [(0, .ref b), (1, .ref (ak 0)), (2, .ref (am 0)), (3, .ref ao), (4, .int i)]) rfl (hκ _ k3 s7 f3 (by omega))
    · refine ol_aload_n X dL_law_217 rfl 5 rfl ?_
      refine ol_iconst X (v := 0) dL_law_218 (by decide) ?_
      refine ol_lald X dL_law_219 ?_
      refine ol_iload X dL_law_220 0 rfl ?_
      refine ol_i2l X dL_law_222 ?_
      refine ol_lcmp X dL_law_223 ?_
      refine ol_if_eq X (tgt := 229) dL_law_224 (by decide) (fun q10 => ?_) (fun q10 => ?_)
      · refine ol_goto X (tgt := 1548) dL_law_229 (by decide) ?_
        exact ol_sub X [2, 3, 4, 5, 6] (L2 := [(0, .ref b), (1, .ref (ak 0)), (2, .ref (am 0)), (3, .ref ao), (4, .int i)]) rfl (hκ _ k3 s7 f3 (by omega))
      · refine ol_iconst X (v := 0) dL_law_227 (by decide) ?_
        exact ol_ret X (by omega) dL_law_228
  · refine ol_iconst X (v := 0) dL_law_210 (by decide) ?_
    exact ol_ret X (by omega) dL_law_211
def FLc_232 (xs : Nat → Int32) (N : Nat) (κ : ST → ST → (Nat → Int64) → Option Int32) (i : Int32) (sk sm : ST) (f : Nat → Int64) : Option Int32 := gdL (oz_in (i + 1) N) (bw Int32.toInt64 [(3, 1)] f (FX0_setRate (xs (i + 1).toNatClampNeg) sk) (fun r12 k12 f12 => gdL (oz_in (i + 1) N) (bM (FX1_setRate (xs (i + 1).toNatClampNeg) sm) (fun r14 s14 => bM (FX1_thrown s14) (fun r15 s15 => (if r15 = r12 then (if r12 = 0 then (if lg_cmp (f12 0) r14.toInt64 = 0 then κ k12 s15 f12 else some 0) else κ k12 s15 f12) else some 0))))))
set_option maxHeartbeats 4000000 in
set_option maxRecDepth 100000 in
theorem lc_232 (X : oL_E p l e s m b below meth c N xs D cI cZ cJ ak am ao A GL) (hst9 : l.stackTraces = false) (κ : ST → ST → (Nat → Int64) → Option Int32) (i : Int32) (K0 : Nat) (hK0 : K0 ≤ 1024) (hκ : ∀ (k : Nat) (sk sm : ST) (f : Nat → Int64), k ≤ K0 → GL k 1548 [(0, .ref b), (1, .ref (ak 0)), (2, .ref (am 0)), (3, .ref ao), (4, .int i)] [] sk sm f (κ sk sm f)) (k : Nat) (hk9 : k + 2 ≤ K0) : GL k 232 [(0, .ref b), (1, .ref (ak 0)), (2, .ref (am 0)), (3, .ref ao), (4, .int i)] [] sk sm f (FLc_232 xs N κ i sk sm f) := by
  unfold FLc_232
  refine ol_aload_n X dL_law_232 rfl 1 rfl ?_
  refine ol_aload_n X dL_law_233 rfl 0 rfl ?_
  refine ol_iload X dL_law_234 4 rfl ?_
  refine ol_iconst X (v := 1) dL_law_236 (by decide) ?_
  refine ol_iadd X dL_law_237 ?_
  refine ol_sld X dL_law_238 (fun g11 => ?_)
  refine ol_aload_n X dL_law_239 rfl 3 rfl ?_
  refine ol_callW X hst9 (As := [.ref (ak 0), .int (xs (i + 1).toNatClampNeg), .ref ao]) (S := []) (mL_setRate l hst9 D cI cZ cJ ak ao (xs (i + 1).toNatClampNeg)) gL_law_L_setRate rfl rfl rfl hL_setRate ⟨by decide, by decide⟩ rfl rfl (Nat.le_of_ble_eq_true rfl) dL_law_240 (by omega) (fun r12 k12 f12 => ?_)
  refine ol_istore X (L2 := [(5, .int r12), (0, .ref b), (1, .ref (ak 0)), (2, .ref (am 0)), (3, .ref ao), (4, .int i)]) dL_law_243 (by decide) rfl ?_
  refine ol_aload_n X dL_law_245 rfl 3 rfl ?_
  refine ol_aload_n X dL_law_246 rfl 1 rfl ?_
  refine ol_iload X dL_law_247 5 rfl ?_
  refine ol_iconst X (v := 1) dL_law_249 (by decide) ?_
  refine ol_iadd X dL_law_250 ?_
  refine ol_sld X dL_law_251 (fun g13 => ?_)
  refine ol_callM X (As := [.int (xs (i + 1).toNatClampNeg)]) (S := []) (mX1_setRate l hst9 D cI cZ am (xs (i + 1).toNatClampNeg)) gL_law_X1_setRate rfl rfl rfl hX1_setRate ⟨by decide, by decide⟩ rfl rfl (Nat.le_of_ble_eq_true rfl) dL_law_252 (by omega) (fun r14 s14 => ?_)
  refine ol_istore X (L2 := [(6, .int r14), (5, .int r12), (0, .ref b), (1, .ref (ak 0)), (2, .ref (am 0)), (3, .ref ao), (4, .int i)]) dL_law_255 (by decide) rfl ?_
  refine ol_aload_n X dL_law_257 rfl 4 rfl ?_
  refine ol_callM X (As := []) (S := []) (mX1_thrown l hst9 D cI cZ am) gL_law_X1_thrown rfl rfl rfl hX1_thrown ⟨by decide, by decide⟩ rfl rfl (Nat.le_of_ble_eq_true rfl) dL_law_258 (by omega) (fun r15 s15 => ?_)
  refine ol_iload X dL_law_261 1 rfl ?_
  refine ol_icmp_eq X (tgt := 268) dL_law_263 (by decide) (fun q16 => ?_) (fun q16 => ?_)
  · refine ol_iload X dL_law_268 1 rfl ?_
    refine ol_if_ne X (tgt := 285) dL_law_270 (by decide) (fun q17 => ?_) (fun q17 => ?_)
    · refine ol_goto X (tgt := 1548) dL_law_285 (by decide) ?_
      exact ol_sub X [2, 3, 4, 5, 6] (L2 := [(0, .ref b), (1, .ref (ak 0)), (2, .ref (am 0)), (3, .ref ao), (4, .int i)]) rfl (hκ _ k12 s15 f12 (by omega))
    · refine ol_aload_n X dL_law_273 rfl 5 rfl ?_
      refine ol_iconst X (v := 0) dL_law_274 (by decide) ?_
      refine ol_lald X dL_law_275 ?_
      refine ol_iload X dL_law_276 0 rfl ?_
      refine ol_i2l X dL_law_278 ?_
      refine ol_lcmp X dL_law_279 ?_
      refine ol_if_eq X (tgt := 285) dL_law_280 (by decide) (fun q18 => ?_) (fun q18 => ?_)
      · refine ol_goto X (tgt := 1548) dL_law_285 (by decide) ?_
        exact ol_sub X [2, 3, 4, 5, 6] (L2 := [(0, .ref b), (1, .ref (ak 0)), (2, .ref (am 0)), (3, .ref ao), (4, .int i)]) rfl (hκ _ k12 s15 f12 (by omega))
      · refine ol_iconst X (v := 0) dL_law_283 (by decide) ?_
        exact ol_ret X (by omega) dL_law_284
  · refine ol_iconst X (v := 0) dL_law_266 (by decide) ?_
    exact ol_ret X (by omega) dL_law_267
def FLc_288 (xs : Nat → Int32) (N : Nat) (κ : ST → ST → (Nat → Int64) → Option Int32) (i : Int32) (sk sm : ST) (f : Nat → Int64) : Option Int32 := gdL (oz_in (i + 1) N) (bw Int32.toInt64 [(1, 1), (2, 2)] f (FX0_buy (xs (i + 1).toNatClampNeg) sk) (fun r20 k20 f20 => gdL (oz_in (i + 1) N) (bM (FX1_buy (xs (i + 1).toNatClampNeg) sm) (fun r22 s22 => bM (FX1_thrown s22) (fun r23 s23 => (if r23 = r20 then (if r20 = 0 then (if lg_cmp (f20 0) r22.toInt64 = 0 then κ k20 s23 f20 else some 0) else κ k20 s23 f20) else some 0))))))
set_option maxHeartbeats 4000000 in
set_option maxRecDepth 100000 in
theorem lc_288 (X : oL_E p l e s m b below meth c N xs D cI cZ cJ ak am ao A GL) (hst9 : l.stackTraces = false) (κ : ST → ST → (Nat → Int64) → Option Int32) (i : Int32) (K0 : Nat) (hK0 : K0 ≤ 1024) (hκ : ∀ (k : Nat) (sk sm : ST) (f : Nat → Int64), k ≤ K0 → GL k 1548 [(0, .ref b), (1, .ref (ak 0)), (2, .ref (am 0)), (3, .ref ao), (4, .int i)] [] sk sm f (κ sk sm f)) (k : Nat) (hk9 : k + 2 ≤ K0) : GL k 288 [(0, .ref b), (1, .ref (ak 0)), (2, .ref (am 0)), (3, .ref ao), (4, .int i)] [] sk sm f (FLc_288 xs N κ i sk sm f) := by
  unfold FLc_288
  refine ol_aload_n X dL_law_288 rfl 1 rfl ?_
  refine ol_aload_n X dL_law_289 rfl 0 rfl ?_
  refine ol_iload X dL_law_290 4 rfl ?_
  refine ol_iconst X (v := 1) dL_law_292 (by decide) ?_
  refine ol_iadd X dL_law_293 ?_
  refine ol_sld X dL_law_294 (fun g19 => ?_)
  refine ol_aload_n X dL_law_295 rfl 3 rfl ?_
  refine ol_callW X hst9 (As := [.ref (ak 0), .int (xs (i + 1).toNatClampNeg), .ref ao]) (S := []) (mL_buy l hst9 D cI cZ cJ ak ao (xs (i + 1).toNatClampNeg)) gL_law_L_buy rfl rfl rfl hL_buy ⟨by decide, by decide⟩ rfl rfl (Nat.le_of_ble_eq_true rfl) dL_law_296 (by omega) (fun r20 k20 f20 => ?_)
  refine ol_istore X (L2 := [(5, .int r20), (0, .ref b), (1, .ref (ak 0)), (2, .ref (am 0)), (3, .ref ao), (4, .int i)]) dL_law_299 (by decide) rfl ?_
  refine ol_aload_n X dL_law_301 rfl 3 rfl ?_
  refine ol_aload_n X dL_law_302 rfl 1 rfl ?_
  refine ol_iload X dL_law_303 5 rfl ?_
  refine ol_iconst X (v := 1) dL_law_305 (by decide) ?_
  refine ol_iadd X dL_law_306 ?_
  refine ol_sld X dL_law_307 (fun g21 => ?_)
  refine ol_callM X (As := [.int (xs (i + 1).toNatClampNeg)]) (S := []) (mX1_buy l hst9 D cI cZ am (xs (i + 1).toNatClampNeg)) gL_law_X1_buy rfl rfl rfl hX1_buy ⟨by decide, by decide⟩ rfl rfl (Nat.le_of_ble_eq_true rfl) dL_law_308 (by omega) (fun r22 s22 => ?_)
  refine ol_istore X (L2 := [(6, .int r22), (5, .int r20), (0, .ref b), (1, .ref (ak 0)), (2, .ref (am 0)), (3, .ref ao), (4, .int i)]) dL_law_311 (by decide) rfl ?_
  refine ol_aload_n X dL_law_313 rfl 4 rfl ?_
  refine ol_callM X (As := []) (S := []) (mX1_thrown l hst9 D cI cZ am) gL_law_X1_thrown rfl rfl rfl hX1_thrown ⟨by decide, by decide⟩ rfl rfl (Nat.le_of_ble_eq_true rfl) dL_law_314 (by omega) (fun r23 s23 => ?_)
  refine ol_iload X dL_law_317 1 rfl ?_
  refine ol_icmp_eq X (tgt := 324) dL_law_319 (by decide) (fun q24 => ?_) (fun q24 => ?_)
  · refine ol_iload X dL_law_324 1 rfl ?_
    refine ol_if_ne X (tgt := 341) dL_law_326 (by decide) (fun q25 => ?_) (fun q25 => ?_)
    · refine ol_goto X (tgt := 1548) dL_law_341 (by decide) ?_
      exact ol_sub X [2, 3, 4, 5, 6] (L2 := [(0, .ref b), (1, .ref (ak 0)), (2, .ref (am 0)), (3, .ref ao), (4, .int i)]) rfl (hκ _ k20 s23 f20 (by omega))
    · refine ol_aload_n X dL_law_329 rfl 5 rfl ?_
      refine ol_iconst X (v := 0) dL_law_330 (by decide) ?_
      refine ol_lald X dL_law_331 ?_
      refine ol_iload X dL_law_332 0 rfl ?_
      refine ol_i2l X dL_law_334 ?_
      refine ol_lcmp X dL_law_335 ?_
      refine ol_if_eq X (tgt := 341) dL_law_336 (by decide) (fun q26 => ?_) (fun q26 => ?_)
      · refine ol_goto X (tgt := 1548) dL_law_341 (by decide) ?_
        exact ol_sub X [2, 3, 4, 5, 6] (L2 := [(0, .ref b), (1, .ref (ak 0)), (2, .ref (am 0)), (3, .ref ao), (4, .int i)]) rfl (hκ _ k20 s23 f20 (by omega))
      · refine ol_iconst X (v := 0) dL_law_339 (by decide) ?_
        exact ol_ret X (by omega) dL_law_340
  · refine ol_iconst X (v := 0) dL_law_322 (by decide) ?_
    exact ol_ret X (by omega) dL_law_323
def FLc_344 (xs : Nat → Int32) (N : Nat) (κ : ST → ST → (Nat → Int64) → Option Int32) (i : Int32) (sk sm : ST) (f : Nat → Int64) : Option Int32 := gdL (oz_in (i + 1) N) (bw Int32.toInt64 [(1, 1), (2, 2)] f (FX0_sell (xs (i + 1).toNatClampNeg) sk) (fun r28 k28 f28 => gdL (oz_in (i + 1) N) (bM (FX1_sell (xs (i + 1).toNatClampNeg) sm) (fun r30 s30 => bM (FX1_thrown s30) (fun r31 s31 => (if r31 = r28 then (if r28 = 0 then (if lg_cmp (f28 0) r30.toInt64 = 0 then κ k28 s31 f28 else some 0) else κ k28 s31 f28) else some 0))))))
set_option maxHeartbeats 4000000 in
set_option maxRecDepth 100000 in
theorem lc_344 (X : oL_E p l e s m b below meth c N xs D cI cZ cJ ak am ao A GL) (hst9 : l.stackTraces = false) (κ : ST → ST → (Nat → Int64) → Option Int32) (i : Int32) (K0 : Nat) (hK0 : K0 ≤ 1024) (hκ : ∀ (k : Nat) (sk sm : ST) (f : Nat → Int64), k ≤ K0 → GL k 1548 [(0, .ref b), (1, .ref (ak 0)), (2, .ref (am 0)), (3, .ref ao), (4, .int i)] [] sk sm f (κ sk sm f)) (k : Nat) (hk9 : k + 2 ≤ K0) : GL k 344 [(0, .ref b), (1, .ref (ak 0)), (2, .ref (am 0)), (3, .ref ao), (4, .int i)] [] sk sm f (FLc_344 xs N κ i sk sm f) := by
  unfold FLc_344
  refine ol_aload_n X dL_law_344 rfl 1 rfl ?_
  refine ol_aload_n X dL_law_345 rfl 0 rfl ?_
  refine ol_iload X dL_law_346 4 rfl ?_
  refine ol_iconst X (v := 1) dL_law_348 (by decide) ?_
  refine ol_iadd X dL_law_349 ?_
  refine ol_sld X dL_law_350 (fun g27 => ?_)
  refine ol_aload_n X dL_law_351 rfl 3 rfl ?_
  refine ol_callW X hst9 (As := [.ref (ak 0), .int (xs (i + 1).toNatClampNeg), .ref ao]) (S := []) (mL_sell l hst9 D cI cZ cJ ak ao (xs (i + 1).toNatClampNeg)) gL_law_L_sell rfl rfl rfl hL_sell ⟨by decide, by decide⟩ rfl rfl (Nat.le_of_ble_eq_true rfl) dL_law_352 (by omega) (fun r28 k28 f28 => ?_)
  refine ol_istore X (L2 := [(5, .int r28), (0, .ref b), (1, .ref (ak 0)), (2, .ref (am 0)), (3, .ref ao), (4, .int i)]) dL_law_355 (by decide) rfl ?_
  refine ol_aload_n X dL_law_357 rfl 3 rfl ?_
  refine ol_aload_n X dL_law_358 rfl 1 rfl ?_
  refine ol_iload X dL_law_359 5 rfl ?_
  refine ol_iconst X (v := 1) dL_law_361 (by decide) ?_
  refine ol_iadd X dL_law_362 ?_
  refine ol_sld X dL_law_363 (fun g29 => ?_)
  refine ol_callM X (As := [.int (xs (i + 1).toNatClampNeg)]) (S := []) (mX1_sell l hst9 D cI cZ am (xs (i + 1).toNatClampNeg)) gL_law_X1_sell rfl rfl rfl hX1_sell ⟨by decide, by decide⟩ rfl rfl (Nat.le_of_ble_eq_true rfl) dL_law_364 (by omega) (fun r30 s30 => ?_)
  refine ol_istore X (L2 := [(6, .int r30), (5, .int r28), (0, .ref b), (1, .ref (ak 0)), (2, .ref (am 0)), (3, .ref ao), (4, .int i)]) dL_law_367 (by decide) rfl ?_
  refine ol_aload_n X dL_law_369 rfl 4 rfl ?_
  refine ol_callM X (As := []) (S := []) (mX1_thrown l hst9 D cI cZ am) gL_law_X1_thrown rfl rfl rfl hX1_thrown ⟨by decide, by decide⟩ rfl rfl (Nat.le_of_ble_eq_true rfl) dL_law_370 (by omega) (fun r31 s31 => ?_)
  refine ol_iload X dL_law_373 1 rfl ?_
  refine ol_icmp_eq X (tgt := 380) dL_law_375 (by decide) (fun q32 => ?_) (fun q32 => ?_)
  · refine ol_iload X dL_law_380 1 rfl ?_
    refine ol_if_ne X (tgt := 397) dL_law_382 (by decide) (fun q33 => ?_) (fun q33 => ?_)
    · refine ol_goto X (tgt := 1548) dL_law_397 (by decide) ?_
      exact ol_sub X [2, 3, 4, 5, 6] (L2 := [(0, .ref b), (1, .ref (ak 0)), (2, .ref (am 0)), (3, .ref ao), (4, .int i)]) rfl (hκ _ k28 s31 f28 (by omega))
    · refine ol_aload_n X dL_law_385 rfl 5 rfl ?_
      refine ol_iconst X (v := 0) dL_law_386 (by decide) ?_
      refine ol_lald X dL_law_387 ?_
      refine ol_iload X dL_law_388 0 rfl ?_
      refine ol_i2l X dL_law_390 ?_
      refine ol_lcmp X dL_law_391 ?_
      refine ol_if_eq X (tgt := 397) dL_law_392 (by decide) (fun q34 => ?_) (fun q34 => ?_)
      · refine ol_goto X (tgt := 1548) dL_law_397 (by decide) ?_
        exact ol_sub X [2, 3, 4, 5, 6] (L2 := [(0, .ref b), (1, .ref (ak 0)), (2, .ref (am 0)), (3, .ref ao), (4, .int i)]) rfl (hκ _ k28 s31 f28 (by omega))
      · refine ol_iconst X (v := 0) dL_law_395 (by decide) ?_
        exact ol_ret X (by omega) dL_law_396
  · refine ol_iconst X (v := 0) dL_law_378 (by decide) ?_
    exact ol_ret X (by omega) dL_law_379
def FLc_400 (xs : Nat → Int32) (N : Nat) (κ : ST → ST → (Nat → Int64) → Option Int32) (i : Int32) (sk sm : ST) (f : Nat → Int64) : Option Int32 := gdL (oz_in (i + 1) N) (bw Int32.toInt64 [(1, 1), (2, 2)] f (FX0_drop (xs (i + 1).toNatClampNeg) sk) (fun r36 k36 f36 => gdL (oz_in (i + 1) N) (bM (FX1_drop (xs (i + 1).toNatClampNeg) sm) (fun r38 s38 => bM (FX1_thrown s38) (fun r39 s39 => (if r39 = r36 then (if r36 = 0 then (if lg_cmp (f36 0) r38.toInt64 = 0 then κ k36 s39 f36 else some 0) else κ k36 s39 f36) else some 0))))))
set_option maxHeartbeats 4000000 in
set_option maxRecDepth 100000 in
theorem lc_400 (X : oL_E p l e s m b below meth c N xs D cI cZ cJ ak am ao A GL) (hst9 : l.stackTraces = false) (κ : ST → ST → (Nat → Int64) → Option Int32) (i : Int32) (K0 : Nat) (hK0 : K0 ≤ 1024) (hκ : ∀ (k : Nat) (sk sm : ST) (f : Nat → Int64), k ≤ K0 → GL k 1548 [(0, .ref b), (1, .ref (ak 0)), (2, .ref (am 0)), (3, .ref ao), (4, .int i)] [] sk sm f (κ sk sm f)) (k : Nat) (hk9 : k + 2 ≤ K0) : GL k 400 [(0, .ref b), (1, .ref (ak 0)), (2, .ref (am 0)), (3, .ref ao), (4, .int i)] [] sk sm f (FLc_400 xs N κ i sk sm f) := by
  unfold FLc_400
  refine ol_aload_n X dL_law_400 rfl 1 rfl ?_
  refine ol_aload_n X dL_law_401 rfl 0 rfl ?_
  refine ol_iload X dL_law_402 4 rfl ?_
  refine ol_iconst X (v := 1) dL_law_404 (by decide) ?_
  refine ol_iadd X dL_law_405 ?_
  refine ol_sld X dL_law_406 (fun g35 => ?_)
  refine ol_aload_n X dL_law_407 rfl 3 rfl ?_
  refine ol_callW X hst9 (As := [.ref (ak 0), .int (xs (i + 1).toNatClampNeg), .ref ao]) (S := []) (mL_drop l hst9 D cI cZ cJ ak ao (xs (i + 1).toNatClampNeg)) gL_law_L_drop rfl rfl rfl hL_drop ⟨by decide, by decide⟩ rfl rfl (Nat.le_of_ble_eq_true rfl) dL_law_408 (by omega) (fun r36 k36 f36 => ?_)
  refine ol_istore X (L2 := [(5, .int r36), (0, .ref b), (1, .ref (ak 0)), (2, .ref (am 0)), (3, .ref ao), (4, .int i)]) dL_law_411 (by decide) rfl ?_
  refine ol_aload_n X dL_law_413 rfl 3 rfl ?_
  refine ol_aload_n X dL_law_414 rfl 1 rfl ?_
  refine ol_iload X dL_law_415 5 rfl ?_
  refine ol_iconst X (v := 1) dL_law_417 (by decide) ?_
  refine ol_iadd X dL_law_418 ?_
  refine ol_sld X dL_law_419 (fun g37 => ?_)
  refine ol_callM X (As := [.int (xs (i + 1).toNatClampNeg)]) (S := []) (mX1_drop l hst9 D cI cZ am (xs (i + 1).toNatClampNeg)) gL_law_X1_drop rfl rfl rfl hX1_drop ⟨by decide, by decide⟩ rfl rfl (Nat.le_of_ble_eq_true rfl) dL_law_420 (by omega) (fun r38 s38 => ?_)
  refine ol_istore X (L2 := [(6, .int r38), (5, .int r36), (0, .ref b), (1, .ref (ak 0)), (2, .ref (am 0)), (3, .ref ao), (4, .int i)]) dL_law_423 (by decide) rfl ?_
  refine ol_aload_n X dL_law_425 rfl 4 rfl ?_
  refine ol_callM X (As := []) (S := []) (mX1_thrown l hst9 D cI cZ am) gL_law_X1_thrown rfl rfl rfl hX1_thrown ⟨by decide, by decide⟩ rfl rfl (Nat.le_of_ble_eq_true rfl) dL_law_426 (by omega) (fun r39 s39 => ?_)
  refine ol_iload X dL_law_429 1 rfl ?_
  refine ol_icmp_eq X (tgt := 436) dL_law_431 (by decide) (fun q40 => ?_) (fun q40 => ?_)
  · refine ol_iload X dL_law_436 1 rfl ?_
    refine ol_if_ne X (tgt := 453) dL_law_438 (by decide) (fun q41 => ?_) (fun q41 => ?_)
    · refine ol_goto X (tgt := 1548) dL_law_453 (by decide) ?_
      exact ol_sub X [2, 3, 4, 5, 6] (L2 := [(0, .ref b), (1, .ref (ak 0)), (2, .ref (am 0)), (3, .ref ao), (4, .int i)]) rfl (hκ _ k36 s39 f36 (by omega))
    · refine ol_aload_n X dL_law_441 rfl 5 rfl ?_
      refine ol_iconst X (v := 0) dL_law_442 (by decide) ?_
      refine ol_lald X dL_law_443 ?_
      refine ol_iload X dL_law_444 0 rfl ?_
      refine ol_i2l X dL_law_446 ?_
      refine ol_lcmp X dL_law_447 ?_
      refine ol_if_eq X (tgt := 453) dL_law_448 (by decide) (fun q42 => ?_) (fun q42 => ?_)
      · refine ol_goto X (tgt := 1548) dL_law_453 (by decide) ?_
        exact ol_sub X [2, 3, 4, 5, 6] (L2 := [(0, .ref b), (1, .ref (ak 0)), (2, .ref (am 0)), (3, .ref ao), (4, .int i)]) rfl (hκ _ k36 s39 f36 (by omega))
      · refine ol_iconst X (v := 0) dL_law_451 (by decide) ?_
        exact ol_ret X (by omega) dL_law_452
  · refine ol_iconst X (v := 0) dL_law_434 (by decide) ?_
    exact ol_ret X (by omega) dL_law_435
def FLc_456 (xs : Nat → Int32) (N : Nat) (κ : ST → ST → (Nat → Int64) → Option Int32) (i : Int32) (sk sm : ST) (f : Nat → Int64) : Option Int32 := gdL (oz_in (i + 1) N) (gdL (oz_in (i + 2) N) (bw Int32.toInt64 [(1, 1), (2, 2)] f (FX0_touch (xs (i + 1).toNatClampNeg) (xs (i + 2).toNatClampNeg) sk) (fun r45 k45 f45 => gdL (oz_in (i + 1) N) (gdL (oz_in (i + 2) N) (bM (FX1_touch (xs (i + 1).toNatClampNeg) (xs (i + 2).toNatClampNeg) sm) (fun r48 s48 => bM (FX1_thrown s48) (fun r49 s49 => (if r49 = r45 then (if r45 = 0 then (if lg_cmp (f45 0) r48.toInt64 = 0 then κ k45 s49 f45 else some 0) else κ k45 s49 f45) else some 0))))))))
set_option maxHeartbeats 4000000 in
set_option maxRecDepth 100000 in
theorem lc_456 (X : oL_E p l e s m b below meth c N xs D cI cZ cJ ak am ao A GL) (hst9 : l.stackTraces = false) (κ : ST → ST → (Nat → Int64) → Option Int32) (i : Int32) (K0 : Nat) (hK0 : K0 ≤ 1024) (hκ : ∀ (k : Nat) (sk sm : ST) (f : Nat → Int64), k ≤ K0 → GL k 1548 [(0, .ref b), (1, .ref (ak 0)), (2, .ref (am 0)), (3, .ref ao), (4, .int i)] [] sk sm f (κ sk sm f)) (k : Nat) (hk9 : k + 2 ≤ K0) : GL k 456 [(0, .ref b), (1, .ref (ak 0)), (2, .ref (am 0)), (3, .ref ao), (4, .int i)] [] sk sm f (FLc_456 xs N κ i sk sm f) := by
  unfold FLc_456
  refine ol_aload_n X dL_law_456 rfl 1 rfl ?_
  refine ol_aload_n X dL_law_457 rfl 0 rfl ?_
  refine ol_iload X dL_law_458 4 rfl ?_
  refine ol_iconst X (v := 1) dL_law_460 (by decide) ?_
  refine ol_iadd X dL_law_461 ?_
  refine ol_sld X dL_law_462 (fun g43 => ?_)
  refine ol_aload_n X dL_law_463 rfl 0 rfl ?_
  refine ol_iload X dL_law_464 4 rfl ?_
  refine ol_iconst X (v := 2) dL_law_466 (by decide) ?_
  refine ol_iadd X dL_law_467 ?_
  refine ol_sld X dL_law_468 (fun g44 => ?_)
  refine ol_aload_n X dL_law_469 rfl 3 rfl ?_
  refine ol_callW X hst9 (As := [.ref (ak 0), .int (xs (i + 1).toNatClampNeg), .int (xs (i + 2).toNatClampNeg), .ref ao]) (S := []) (mL_touch l hst9 D cI cZ cJ ak ao (xs (i + 1).toNatClampNeg) (xs (i + 2).toNatClampNeg)) gL_law_L_touch rfl rfl rfl hL_touch ⟨by decide, by decide⟩ rfl rfl (Nat.le_of_ble_eq_true rfl) dL_law_470 (by omega) (fun r45 k45 f45 => ?_)
  refine ol_istore X (L2 := [(5, .int r45), (0, .ref b), (1, .ref (ak 0)), (2, .ref (am 0)), (3, .ref ao), (4, .int i)]) dL_law_473 (by decide) rfl ?_
  refine ol_aload_n X dL_law_475 rfl 3 rfl ?_
  refine ol_aload_n X dL_law_476 rfl 1 rfl ?_
  refine ol_iload X dL_law_477 5 rfl ?_
  refine ol_iconst X (v := 1) dL_law_479 (by decide) ?_
  refine ol_iadd X dL_law_480 ?_
  refine ol_sld X dL_law_481 (fun g46 => ?_)
  refine ol_aload_n X dL_law_482 rfl 1 rfl ?_
  refine ol_iload X dL_law_483 5 rfl ?_
  refine ol_iconst X (v := 2) dL_law_485 (by decide) ?_
  refine ol_iadd X dL_law_486 ?_
  refine ol_sld X dL_law_487 (fun g47 => ?_)
  refine ol_callM X (As := [.int (xs (i + 1).toNatClampNeg), .int (xs (i + 2).toNatClampNeg)]) (S := []) (mX1_touch l hst9 D cI cZ am (xs (i + 1).toNatClampNeg) (xs (i + 2).toNatClampNeg)) gL_law_X1_touch rfl rfl rfl hX1_touch ⟨by decide, by decide⟩ rfl rfl (Nat.le_of_ble_eq_true rfl) dL_law_488 (by omega) (fun r48 s48 => ?_)
  refine ol_istore X (L2 := [(6, .int r48), (5, .int r45), (0, .ref b), (1, .ref (ak 0)), (2, .ref (am 0)), (3, .ref ao), (4, .int i)]) dL_law_491 (by decide) rfl ?_
  refine ol_aload_n X dL_law_493 rfl 4 rfl ?_
  refine ol_callM X (As := []) (S := []) (mX1_thrown l hst9 D cI cZ am) gL_law_X1_thrown rfl rfl rfl hX1_thrown ⟨by decide, by decide⟩ rfl rfl (Nat.le_of_ble_eq_true rfl) dL_law_494 (by omega) (fun r49 s49 => ?_)
  refine ol_iload X dL_law_497 1 rfl ?_
  refine ol_icmp_eq X (tgt := 504) dL_law_499 (by decide) (fun q50 => ?_) (fun q50 => ?_)
  · refine ol_iload X dL_law_504 1 rfl ?_
    refine ol_if_ne X (tgt := 521) dL_law_506 (by decide) (fun q51 => ?_) (fun q51 => ?_)
    · refine ol_goto X (tgt := 1548) dL_law_521 (by decide) ?_
      exact ol_sub X [2, 3, 4, 5, 6] (L2 := [(0, .ref b), (1, .ref (ak 0)), (2, .ref (am 0)), (3, .ref ao), (4, .int i)]) rfl (hκ _ k45 s49 f45 (by omega))
    · refine ol_aload_n X dL_law_509 rfl 5 rfl ?_
      refine ol_iconst X (v := 0) dL_law_510 (by decide) ?_
      refine ol_lald X dL_law_511 ?_
      refine ol_iload X dL_law_512 0 rfl ?_
      refine ol_i2l X dL_law_514 ?_
      refine ol_lcmp X dL_law_515 ?_
      refine ol_if_eq X (tgt := 521) dL_law_516 (by decide) (fun q52 => ?_) (fun q52 => ?_)
      · refine ol_goto X (tgt := 1548) dL_law_521 (by decide) ?_
        exact ol_sub X [2, 3, 4, 5, 6] (L2 := [(0, .ref b), (1, .ref (ak 0)), (2, .ref (am 0)), (3, .ref ao), (4, .int i)]) rfl (hκ _ k45 s49 f45 (by omega))
      · refine ol_iconst X (v := 0) dL_law_519 (by decide) ?_
        exact ol_ret X (by omega) dL_law_520
  · refine ol_iconst X (v := 0) dL_law_502 (by decide) ?_
    exact ol_ret X (by omega) dL_law_503
def FLc_524 (xs : Nat → Int32) (N : Nat) (κ : ST → ST → (Nat → Int64) → Option Int32) (i : Int32) (sk sm : ST) (f : Nat → Int64) : Option Int32 := gdL (oz_in (i + 1) N) (bw Int32.toInt64 [(1, 1), (2, 2)] f (FX0_payBack (xs (i + 1).toNatClampNeg) sk) (fun r54 k54 f54 => gdL (oz_in (i + 1) N) (bM (FX1_payBack (xs (i + 1).toNatClampNeg) sm) (fun r56 s56 => bM (FX1_thrown s56) (fun r57 s57 => (if r57 = r54 then (if r54 = 0 then (if lg_cmp (f54 0) r56.toInt64 = 0 then κ k54 s57 f54 else some 0) else κ k54 s57 f54) else some 0))))))
set_option maxHeartbeats 4000000 in
set_option maxRecDepth 100000 in
theorem lc_524 (X : oL_E p l e s m b below meth c N xs D cI cZ cJ ak am ao A GL) (hst9 : l.stackTraces = false) (κ : ST → ST → (Nat → Int64) → Option Int32) (i : Int32) (K0 : Nat) (hK0 : K0 ≤ 1024) (hκ : ∀ (k : Nat) (sk sm : ST) (f : Nat → Int64), k ≤ K0 → GL k 1548 [(0, .ref b), (1, .ref (ak 0)), (2, .ref (am 0)), (3, .ref ao), (4, .int i)] [] sk sm f (κ sk sm f)) (k : Nat) (hk9 : k + 2 ≤ K0) : GL k 524 [(0, .ref b), (1, .ref (ak 0)), (2, .ref (am 0)), (3, .ref ao), (4, .int i)] [] sk sm f (FLc_524 xs N κ i sk sm f) := by
  unfold FLc_524
  refine ol_aload_n X dL_law_524 rfl 1 rfl ?_
  refine ol_aload_n X dL_law_525 rfl 0 rfl ?_
  refine ol_iload X dL_law_526 4 rfl ?_
  refine ol_iconst X (v := 1) dL_law_528 (by decide) ?_
  refine ol_iadd X dL_law_529 ?_
  refine ol_sld X dL_law_530 (fun g53 => ?_)
  refine ol_aload_n X dL_law_531 rfl 3 rfl ?_
  refine ol_callW X hst9 (As := [.ref (ak 0), .int (xs (i + 1).toNatClampNeg), .ref ao]) (S := []) (mL_payBack l hst9 D cI cZ cJ ak ao (xs (i + 1).toNatClampNeg)) gL_law_L_payBack rfl rfl rfl hL_payBack ⟨by decide, by decide⟩ rfl rfl (Nat.le_of_ble_eq_true rfl) dL_law_532 (by omega) (fun r54 k54 f54 => ?_)
  refine ol_istore X (L2 := [(5, .int r54), (0, .ref b), (1, .ref (ak 0)), (2, .ref (am 0)), (3, .ref ao), (4, .int i)]) dL_law_535 (by decide) rfl ?_
  refine ol_aload_n X dL_law_537 rfl 3 rfl ?_
  refine ol_aload_n X dL_law_538 rfl 1 rfl ?_
  refine ol_iload X dL_law_539 5 rfl ?_
  refine ol_iconst X (v := 1) dL_law_541 (by decide) ?_
  refine ol_iadd X dL_law_542 ?_
  refine ol_sld X dL_law_543 (fun g55 => ?_)
  refine ol_callM X (As := [.int (xs (i + 1).toNatClampNeg)]) (S := []) (mX1_payBack l hst9 D cI cZ am (xs (i + 1).toNatClampNeg)) gL_law_X1_payBack rfl rfl rfl hX1_payBack ⟨by decide, by decide⟩ rfl rfl (Nat.le_of_ble_eq_true rfl) dL_law_544 (by omega) (fun r56 s56 => ?_)
  refine ol_istore X (L2 := [(6, .int r56), (5, .int r54), (0, .ref b), (1, .ref (ak 0)), (2, .ref (am 0)), (3, .ref ao), (4, .int i)]) dL_law_547 (by decide) rfl ?_
  refine ol_aload_n X dL_law_549 rfl 4 rfl ?_
  refine ol_callM X (As := []) (S := []) (mX1_thrown l hst9 D cI cZ am) gL_law_X1_thrown rfl rfl rfl hX1_thrown ⟨by decide, by decide⟩ rfl rfl (Nat.le_of_ble_eq_true rfl) dL_law_550 (by omega) (fun r57 s57 => ?_)
  refine ol_iload X dL_law_553 1 rfl ?_
  refine ol_icmp_eq X (tgt := 560) dL_law_555 (by decide) (fun q58 => ?_) (fun q58 => ?_)
  · refine ol_iload X dL_law_560 1 rfl ?_
    refine ol_if_ne X (tgt := 577) dL_law_562 (by decide) (fun q59 => ?_) (fun q59 => ?_)
    · refine ol_goto X (tgt := 1548) dL_law_577 (by decide) ?_
      exact ol_sub X [2, 3, 4, 5, 6] (L2 := [(0, .ref b), (1, .ref (ak 0)), (2, .ref (am 0)), (3, .ref ao), (4, .int i)]) rfl (hκ _ k54 s57 f54 (by omega))
    · refine ol_aload_n X dL_law_565 rfl 5 rfl ?_
      refine ol_iconst X (v := 0) dL_law_566 (by decide) ?_
      refine ol_lald X dL_law_567 ?_
      refine ol_iload X dL_law_568 0 rfl ?_
      refine ol_i2l X dL_law_570 ?_
      refine ol_lcmp X dL_law_571 ?_
      refine ol_if_eq X (tgt := 577) dL_law_572 (by decide) (fun q60 => ?_) (fun q60 => ?_)
      · refine ol_goto X (tgt := 1548) dL_law_577 (by decide) ?_
        exact ol_sub X [2, 3, 4, 5, 6] (L2 := [(0, .ref b), (1, .ref (ak 0)), (2, .ref (am 0)), (3, .ref ao), (4, .int i)]) rfl (hκ _ k54 s57 f54 (by omega))
      · refine ol_iconst X (v := 0) dL_law_575 (by decide) ?_
        exact ol_ret X (by omega) dL_law_576
  · refine ol_iconst X (v := 0) dL_law_558 (by decide) ?_
    exact ol_ret X (by omega) dL_law_559
def FLc_580 (xs : Nat → Int32) (N : Nat) (κ : ST → ST → (Nat → Int64) → Option Int32) (i : Int32) (sk sm : ST) (f : Nat → Int64) : Option Int32 := gdL (oz_in (i + 1) N) (bw Int32.toInt64 [(3, 1), (2, 2)] f (FX0_advance (xs (i + 1).toNatClampNeg) sk) (fun r62 k62 f62 => gdL (oz_in (i + 1) N) (bM (FX1_advance (xs (i + 1).toNatClampNeg) sm) (fun r64 s64 => bM (FX1_thrown s64) (fun r65 s65 => (if r65 = r62 then (if r62 = 0 then (if lg_cmp (f62 0) r64.toInt64 = 0 then κ k62 s65 f62 else some 0) else κ k62 s65 f62) else some 0))))))
set_option maxHeartbeats 4000000 in
set_option maxRecDepth 100000 in
theorem lc_580 (X : oL_E p l e s m b below meth c N xs D cI cZ cJ ak am ao A GL) (hst9 : l.stackTraces = false) (κ : ST → ST → (Nat → Int64) → Option Int32) (i : Int32) (K0 : Nat) (hK0 : K0 ≤ 1024) (hκ : ∀ (k : Nat) (sk sm : ST) (f : Nat → Int64), k ≤ K0 → GL k 1548 [(0, .ref b), (1, .ref (ak 0)), (2, .ref (am 0)), (3, .ref ao), (4, .int i)] [] sk sm f (κ sk sm f)) (k : Nat) (hk9 : k + 2 ≤ K0) : GL k 580 [(0, .ref b), (1, .ref (ak 0)), (2, .ref (am 0)), (3, .ref ao), (4, .int i)] [] sk sm f (FLc_580 xs N κ i sk sm f) := by
  unfold FLc_580
  refine ol_aload_n X dL_law_580 rfl 1 rfl ?_
  refine ol_aload_n X dL_law_581 rfl 0 rfl ?_
  refine ol_iload X dL_law_582 4 rfl ?_
  refine ol_iconst X (v := 1) dL_law_584 (by decide) ?_
  refine ol_iadd X dL_law_585 ?_
  refine ol_sld X dL_law_586 (fun g61 => ?_)
  refine ol_aload_n X dL_law_587 rfl 3 rfl ?_
  refine ol_callW X hst9 (As := [.ref (ak 0), .int (xs (i + 1).toNatClampNeg), .ref ao]) (S := []) (mL_advance l hst9 D cI cZ cJ ak ao (xs (i + 1).toNatClampNeg)) gL_law_L_advance rfl rfl rfl hL_advance ⟨by decide, by decide⟩ rfl rfl (Nat.le_of_ble_eq_true rfl) dL_law_588 (by omega) (fun r62 k62 f62 => ?_)
  refine ol_istore X (L2 := [(5, .int r62), (0, .ref b), (1, .ref (ak 0)), (2, .ref (am 0)), (3, .ref ao), (4, .int i)]) dL_law_591 (by decide) rfl ?_
  refine ol_aload_n X dL_law_593 rfl 3 rfl ?_
  refine ol_aload_n X dL_law_594 rfl 1 rfl ?_
  refine ol_iload X dL_law_595 5 rfl ?_
  refine ol_iconst X (v := 1) dL_law_597 (by decide) ?_
  refine ol_iadd X dL_law_598 ?_
  refine ol_sld X dL_law_599 (fun g63 => ?_)
  refine ol_callM X (As := [.int (xs (i + 1).toNatClampNeg)]) (S := []) (mX1_advance l hst9 D cI cZ am (xs (i + 1).toNatClampNeg)) gL_law_X1_advance rfl rfl rfl hX1_advance ⟨by decide, by decide⟩ rfl rfl (Nat.le_of_ble_eq_true rfl) dL_law_600 (by omega) (fun r64 s64 => ?_)
  refine ol_istore X (L2 := [(6, .int r64), (5, .int r62), (0, .ref b), (1, .ref (ak 0)), (2, .ref (am 0)), (3, .ref ao), (4, .int i)]) dL_law_603 (by decide) rfl ?_
  refine ol_aload_n X dL_law_605 rfl 4 rfl ?_
  refine ol_callM X (As := []) (S := []) (mX1_thrown l hst9 D cI cZ am) gL_law_X1_thrown rfl rfl rfl hX1_thrown ⟨by decide, by decide⟩ rfl rfl (Nat.le_of_ble_eq_true rfl) dL_law_606 (by omega) (fun r65 s65 => ?_)
  refine ol_iload X dL_law_609 1 rfl ?_
  refine ol_icmp_eq X (tgt := 616) dL_law_611 (by decide) (fun q66 => ?_) (fun q66 => ?_)
  · refine ol_iload X dL_law_616 1 rfl ?_
    refine ol_if_ne X (tgt := 633) dL_law_618 (by decide) (fun q67 => ?_) (fun q67 => ?_)
    · refine ol_goto X (tgt := 1548) dL_law_633 (by decide) ?_
      exact ol_sub X [2, 3, 4, 5, 6] (L2 := [(0, .ref b), (1, .ref (ak 0)), (2, .ref (am 0)), (3, .ref ao), (4, .int i)]) rfl (hκ _ k62 s65 f62 (by omega))
    · refine ol_aload_n X dL_law_621 rfl 5 rfl ?_
      refine ol_iconst X (v := 0) dL_law_622 (by decide) ?_
      refine ol_lald X dL_law_623 ?_
      refine ol_iload X dL_law_624 0 rfl ?_
      refine ol_i2l X dL_law_626 ?_
      refine ol_lcmp X dL_law_627 ?_
      refine ol_if_eq X (tgt := 633) dL_law_628 (by decide) (fun q68 => ?_) (fun q68 => ?_)
      · refine ol_goto X (tgt := 1548) dL_law_633 (by decide) ?_
        exact ol_sub X [2, 3, 4, 5, 6] (L2 := [(0, .ref b), (1, .ref (ak 0)), (2, .ref (am 0)), (3, .ref ao), (4, .int i)]) rfl (hκ _ k62 s65 f62 (by omega))
      · refine ol_iconst X (v := 0) dL_law_631 (by decide) ?_
        exact ol_ret X (by omega) dL_law_632
  · refine ol_iconst X (v := 0) dL_law_614 (by decide) ?_
    exact ol_ret X (by omega) dL_law_615
def FLc_636 (xs : Nat → Int32) (N : Nat) (κ : ST → ST → (Nat → Int64) → Option Int32) (i : Int32) (sk sm : ST) (f : Nat → Int64) : Option Int32 := bM (FX0_tick sk) (fun r69 s69 => bM (FX1_tick sm) (fun r70 s70 => (if r69 = r70 then κ s69 s70 f else some 0)))
set_option maxHeartbeats 4000000 in
set_option maxRecDepth 100000 in
theorem lc_636 (X : oL_E p l e s m b below meth c N xs D cI cZ cJ ak am ao A GL) (hst9 : l.stackTraces = false) (κ : ST → ST → (Nat → Int64) → Option Int32) (i : Int32) (K0 : Nat) (hK0 : K0 ≤ 1024) (hκ : ∀ (k : Nat) (sk sm : ST) (f : Nat → Int64), k ≤ K0 → GL k 1548 [(0, .ref b), (1, .ref (ak 0)), (2, .ref (am 0)), (3, .ref ao), (4, .int i)] [] sk sm f (κ sk sm f)) (k : Nat) (hk9 : k + 2 ≤ K0) : GL k 636 [(0, .ref b), (1, .ref (ak 0)), (2, .ref (am 0)), (3, .ref ao), (4, .int i)] [] sk sm f (FLc_636 xs N κ i sk sm f) := by
  unfold FLc_636
  refine ol_aload_n X dL_law_636 rfl 1 rfl ?_
  refine ol_callK X (As := []) (S := []) (mX0_tick l hst9 D cI cZ ak) gL_law_X0_tick rfl rfl rfl hX0_tick ⟨by decide, by decide⟩ rfl rfl (Nat.le_of_ble_eq_true rfl) dL_law_637 (by omega) (fun r69 s69 => ?_)
  refine ol_aload_n X dL_law_640 rfl 2 rfl ?_
  refine ol_callM X (As := []) (S := [.int r69]) (mX1_tick l hst9 D cI cZ am) gL_law_X1_tick rfl rfl rfl hX1_tick ⟨by decide, by decide⟩ rfl rfl (Nat.le_of_ble_eq_true rfl) dL_law_641 (by omega) (fun r70 s70 => ?_)
  refine ol_icmp_eq X (tgt := 1548) dL_law_644 (by decide) (fun q71 => ?_) (fun q71 => ?_)
  · exact ol_sub X [0, 1, 2, 3, 4] (L2 := [(0, .ref b), (1, .ref (ak 0)), (2, .ref (am 0)), (3, .ref ao), (4, .int i)]) rfl (hκ _ s69 s70 f (by omega))
  · refine ol_iconst X (v := 0) dL_law_647 (by decide) ?_
    exact ol_ret X (by omega) dL_law_648
def FLc_649 (xs : Nat → Int32) (N : Nat) (κ : ST → ST → (Nat → Int64) → Option Int32) (i : Int32) (sk sm : ST) (f : Nat → Int64) : Option Int32 := gdL (oz_in (i + 1) N) (bw Int32.toInt64 [(1, 1)] f (FX0_owner (xs (i + 1).toNatClampNeg) sk) (fun r73 k73 f73 => gdL (oz_in (i + 1) N) (bM (FX1_owner (xs (i + 1).toNatClampNeg) sm) (fun r75 s75 => bM (FX1_thrown s75) (fun r76 s76 => (if r76 = r73 then (if r73 = 0 then (if lg_cmp (f73 0) r75.toInt64 = 0 then κ k73 s76 f73 else some 0) else κ k73 s76 f73) else some 0))))))
set_option maxHeartbeats 4000000 in
set_option maxRecDepth 100000 in
theorem lc_649 (X : oL_E p l e s m b below meth c N xs D cI cZ cJ ak am ao A GL) (hst9 : l.stackTraces = false) (κ : ST → ST → (Nat → Int64) → Option Int32) (i : Int32) (K0 : Nat) (hK0 : K0 ≤ 1024) (hκ : ∀ (k : Nat) (sk sm : ST) (f : Nat → Int64), k ≤ K0 → GL k 1548 [(0, .ref b), (1, .ref (ak 0)), (2, .ref (am 0)), (3, .ref ao), (4, .int i)] [] sk sm f (κ sk sm f)) (k : Nat) (hk9 : k + 2 ≤ K0) : GL k 649 [(0, .ref b), (1, .ref (ak 0)), (2, .ref (am 0)), (3, .ref ao), (4, .int i)] [] sk sm f (FLc_649 xs N κ i sk sm f) := by
  unfold FLc_649
  refine ol_aload_n X dL_law_649 rfl 1 rfl ?_
  refine ol_aload_n X dL_law_650 rfl 0 rfl ?_
  refine ol_iload X dL_law_651 4 rfl ?_
  refine ol_iconst X (v := 1) dL_law_653 (by decide) ?_
  refine ol_iadd X dL_law_654 ?_
  refine ol_sld X dL_law_655 (fun g72 => ?_)
  refine ol_aload_n X dL_law_656 rfl 3 rfl ?_
  refine ol_callW X hst9 (As := [.ref (ak 0), .int (xs (i + 1).toNatClampNeg), .ref ao]) (S := []) (mL_owner l hst9 D cI cZ cJ ak ao (xs (i + 1).toNatClampNeg)) gL_law_L_owner rfl rfl rfl hL_owner ⟨by decide, by decide⟩ rfl rfl (Nat.le_of_ble_eq_true rfl) dL_law_657 (by omega) (fun r73 k73 f73 => ?_)
  refine ol_istore X (L2 := [(5, .int r73), (0, .ref b), (1, .ref (ak 0)), (2, .ref (am 0)), (3, .ref ao), (4, .int i)]) dL_law_660 (by decide) rfl ?_
  refine ol_aload_n X dL_law_662 rfl 3 rfl ?_
  refine ol_aload_n X dL_law_663 rfl 1 rfl ?_
  refine ol_iload X dL_law_664 5 rfl ?_
  refine ol_iconst X (v := 1) dL_law_666 (by decide) ?_
  refine ol_iadd X dL_law_667 ?_
  refine ol_sld X dL_law_668 (fun g74 => ?_)
  refine ol_callM X (As := [.int (xs (i + 1).toNatClampNeg)]) (S := []) (mX1_owner l hst9 D cI cZ am (xs (i + 1).toNatClampNeg)) gL_law_X1_owner rfl rfl rfl hX1_owner ⟨by decide, by decide⟩ rfl rfl (Nat.le_of_ble_eq_true rfl) dL_law_669 (by omega) (fun r75 s75 => ?_)
  refine ol_istore X (L2 := [(6, .int r75), (5, .int r73), (0, .ref b), (1, .ref (ak 0)), (2, .ref (am 0)), (3, .ref ao), (4, .int i)]) dL_law_672 (by decide) rfl ?_
  refine ol_aload_n X dL_law_674 rfl 4 rfl ?_
  refine ol_callM X (As := []) (S := []) (mX1_thrown l hst9 D cI cZ am) gL_law_X1_thrown rfl rfl rfl hX1_thrown ⟨by decide, by decide⟩ rfl rfl (Nat.le_of_ble_eq_true rfl) dL_law_675 (by omega) (fun r76 s76 => ?_)
  refine ol_iload X dL_law_678 1 rfl ?_
  refine ol_icmp_eq X (tgt := 685) dL_law_680 (by decide) (fun q77 => ?_) (fun q77 => ?_)
  · refine ol_iload X dL_law_685 1 rfl ?_
    refine ol_if_ne X (tgt := 702) dL_law_687 (by decide) (fun q78 => ?_) (fun q78 => ?_)
    · refine ol_goto X (tgt := 1548) dL_law_702 (by decide) ?_
      exact ol_sub X [2, 3, 4, 5, 6] (L2 := [(0, .ref b), (1, .ref (ak 0)), (2, .ref (am 0)), (3, .ref ao), (4, .int i)]) rfl (hκ _ k73 s76 f73 (by omega))
    · refine ol_aload_n X dL_law_690 rfl 5 rfl ?_
      refine ol_iconst X (v := 0) dL_law_691 (by decide) ?_
      refine ol_lald X dL_law_692 ?_
      refine ol_iload X dL_law_693 0 rfl ?_
      refine ol_i2l X dL_law_695 ?_
      refine ol_lcmp X dL_law_696 ?_
      refine ol_if_eq X (tgt := 702) dL_law_697 (by decide) (fun q79 => ?_) (fun q79 => ?_)
      · refine ol_goto X (tgt := 1548) dL_law_702 (by decide) ?_
        exact ol_sub X [2, 3, 4, 5, 6] (L2 := [(0, .ref b), (1, .ref (ak 0)), (2, .ref (am 0)), (3, .ref ao), (4, .int i)]) rfl (hκ _ k73 s76 f73 (by omega))
      · refine ol_iconst X (v := 0) dL_law_700 (by decide) ?_
        exact ol_ret X (by omega) dL_law_701
  · refine ol_iconst X (v := 0) dL_law_683 (by decide) ?_
    exact ol_ret X (by omega) dL_law_684
def FLc_705 (xs : Nat → Int32) (N : Nat) (κ : ST → ST → (Nat → Int64) → Option Int32) (i : Int32) (sk sm : ST) (f : Nat → Int64) : Option Int32 := gdL (oz_in (i + 1) N) (bw Int32.toInt64 [(1, 1)] f (FX0_holder (xs (i + 1).toNatClampNeg) sk) (fun r81 k81 f81 => gdL (oz_in (i + 1) N) (bM (FX1_holder (xs (i + 1).toNatClampNeg) sm) (fun r83 s83 => bM (FX1_thrown s83) (fun r84 s84 => (if r84 = r81 then (if r81 = 0 then (if lg_cmp (f81 0) r83.toInt64 = 0 then κ k81 s84 f81 else some 0) else κ k81 s84 f81) else some 0))))))
set_option maxHeartbeats 4000000 in
set_option maxRecDepth 100000 in
theorem lc_705 (X : oL_E p l e s m b below meth c N xs D cI cZ cJ ak am ao A GL) (hst9 : l.stackTraces = false) (κ : ST → ST → (Nat → Int64) → Option Int32) (i : Int32) (K0 : Nat) (hK0 : K0 ≤ 1024) (hκ : ∀ (k : Nat) (sk sm : ST) (f : Nat → Int64), k ≤ K0 → GL k 1548 [(0, .ref b), (1, .ref (ak 0)), (2, .ref (am 0)), (3, .ref ao), (4, .int i)] [] sk sm f (κ sk sm f)) (k : Nat) (hk9 : k + 2 ≤ K0) : GL k 705 [(0, .ref b), (1, .ref (ak 0)), (2, .ref (am 0)), (3, .ref ao), (4, .int i)] [] sk sm f (FLc_705 xs N κ i sk sm f) := by
  unfold FLc_705
  refine ol_aload_n X dL_law_705 rfl 1 rfl ?_
  refine ol_aload_n X dL_law_706 rfl 0 rfl ?_
  refine ol_iload X dL_law_707 4 rfl ?_
  refine ol_iconst X (v := 1) dL_law_709 (by decide) ?_
  refine ol_iadd X dL_law_710 ?_
  refine ol_sld X dL_law_711 (fun g80 => ?_)
  refine ol_aload_n X dL_law_712 rfl 3 rfl ?_
  refine ol_callW X hst9 (As := [.ref (ak 0), .int (xs (i + 1).toNatClampNeg), .ref ao]) (S := []) (mL_holder l hst9 D cI cZ cJ ak ao (xs (i + 1).toNatClampNeg)) gL_law_L_holder rfl rfl rfl hL_holder ⟨by decide, by decide⟩ rfl rfl (Nat.le_of_ble_eq_true rfl) dL_law_713 (by omega) (fun r81 k81 f81 => ?_)
  refine ol_istore X (L2 := [(5, .int r81), (0, .ref b), (1, .ref (ak 0)), (2, .ref (am 0)), (3, .ref ao), (4, .int i)]) dL_law_716 (by decide) rfl ?_
  refine ol_aload_n X dL_law_718 rfl 3 rfl ?_
  refine ol_aload_n X dL_law_719 rfl 1 rfl ?_
  refine ol_iload X dL_law_720 5 rfl ?_
  refine ol_iconst X (v := 1) dL_law_722 (by decide) ?_
  refine ol_iadd X dL_law_723 ?_
  refine ol_sld X dL_law_724 (fun g82 => ?_)
  refine ol_callM X (As := [.int (xs (i + 1).toNatClampNeg)]) (S := []) (mX1_holder l hst9 D cI cZ am (xs (i + 1).toNatClampNeg)) gL_law_X1_holder rfl rfl rfl hX1_holder ⟨by decide, by decide⟩ rfl rfl (Nat.le_of_ble_eq_true rfl) dL_law_725 (by omega) (fun r83 s83 => ?_)
  refine ol_istore X (L2 := [(6, .int r83), (5, .int r81), (0, .ref b), (1, .ref (ak 0)), (2, .ref (am 0)), (3, .ref ao), (4, .int i)]) dL_law_728 (by decide) rfl ?_
  refine ol_aload_n X dL_law_730 rfl 4 rfl ?_
  refine ol_callM X (As := []) (S := []) (mX1_thrown l hst9 D cI cZ am) gL_law_X1_thrown rfl rfl rfl hX1_thrown ⟨by decide, by decide⟩ rfl rfl (Nat.le_of_ble_eq_true rfl) dL_law_731 (by omega) (fun r84 s84 => ?_)
  refine ol_iload X dL_law_734 1 rfl ?_
  refine ol_icmp_eq X (tgt := 741) dL_law_736 (by decide) (fun q85 => ?_) (fun q85 => ?_)
  · refine ol_iload X dL_law_741 1 rfl ?_
    refine ol_if_ne X (tgt := 758) dL_law_743 (by decide) (fun q86 => ?_) (fun q86 => ?_)
    · refine ol_goto X (tgt := 1548) dL_law_758 (by decide) ?_
      exact ol_sub X [2, 3, 4, 5, 6] (L2 := [(0, .ref b), (1, .ref (ak 0)), (2, .ref (am 0)), (3, .ref ao), (4, .int i)]) rfl (hκ _ k81 s84 f81 (by omega))
    · refine ol_aload_n X dL_law_746 rfl 5 rfl ?_
      refine ol_iconst X (v := 0) dL_law_747 (by decide) ?_
      refine ol_lald X dL_law_748 ?_
      refine ol_iload X dL_law_749 0 rfl ?_
      refine ol_i2l X dL_law_751 ?_
      refine ol_lcmp X dL_law_752 ?_
      refine ol_if_eq X (tgt := 758) dL_law_753 (by decide) (fun q87 => ?_) (fun q87 => ?_)
      · refine ol_goto X (tgt := 1548) dL_law_758 (by decide) ?_
        exact ol_sub X [2, 3, 4, 5, 6] (L2 := [(0, .ref b), (1, .ref (ak 0)), (2, .ref (am 0)), (3, .ref ao), (4, .int i)]) rfl (hκ _ k81 s84 f81 (by omega))
      · refine ol_iconst X (v := 0) dL_law_756 (by decide) ?_
        exact ol_ret X (by omega) dL_law_757
  · refine ol_iconst X (v := 0) dL_law_739 (by decide) ?_
    exact ol_ret X (by omega) dL_law_740
def FLc_761 (xs : Nat → Int32) (N : Nat) (κ : ST → ST → (Nat → Int64) → Option Int32) (i : Int32) (sk sm : ST) (f : Nat → Int64) : Option Int32 := gdL (oz_in (i + 1) N) (bw Int32.toInt64 [(1, 1)] f (FX0_holderByLog (xs (i + 1).toNatClampNeg) sk) (fun r89 k89 f89 => gdL (oz_in (i + 1) N) (bM (FX1_holderByLog (xs (i + 1).toNatClampNeg) sm) (fun r91 s91 => bM (FX1_thrown s91) (fun r92 s92 => (if r92 = r89 then (if r89 = 0 then (if lg_cmp (f89 0) r91.toInt64 = 0 then κ k89 s92 f89 else some 0) else κ k89 s92 f89) else some 0))))))
set_option maxHeartbeats 4000000 in
set_option maxRecDepth 100000 in
theorem lc_761 (X : oL_E p l e s m b below meth c N xs D cI cZ cJ ak am ao A GL) (hst9 : l.stackTraces = false) (κ : ST → ST → (Nat → Int64) → Option Int32) (i : Int32) (K0 : Nat) (hK0 : K0 ≤ 1024) (hκ : ∀ (k : Nat) (sk sm : ST) (f : Nat → Int64), k ≤ K0 → GL k 1548 [(0, .ref b), (1, .ref (ak 0)), (2, .ref (am 0)), (3, .ref ao), (4, .int i)] [] sk sm f (κ sk sm f)) (k : Nat) (hk9 : k + 2 ≤ K0) : GL k 761 [(0, .ref b), (1, .ref (ak 0)), (2, .ref (am 0)), (3, .ref ao), (4, .int i)] [] sk sm f (FLc_761 xs N κ i sk sm f) := by
  unfold FLc_761
  refine ol_aload_n X dL_law_761 rfl 1 rfl ?_
  refine ol_aload_n X dL_law_762 rfl 0 rfl ?_
  refine ol_iload X dL_law_763 4 rfl ?_
  refine ol_iconst X (v := 1) dL_law_765 (by decide) ?_
  refine ol_iadd X dL_law_766 ?_
  refine ol_sld X dL_law_767 (fun g88 => ?_)
  refine ol_aload_n X dL_law_768 rfl 3 rfl ?_
  refine ol_callW X hst9 (As := [.ref (ak 0), .int (xs (i + 1).toNatClampNeg), .ref ao]) (S := []) (mL_holderByLog l hst9 D cI cZ cJ ak ao (xs (i + 1).toNatClampNeg)) gL_law_L_holderByLog rfl rfl rfl hL_holderByLog ⟨by decide, by decide⟩ rfl rfl (Nat.le_of_ble_eq_true rfl) dL_law_769 (by omega) (fun r89 k89 f89 => ?_)
  refine ol_istore X (L2 := [(5, .int r89), (0, .ref b), (1, .ref (ak 0)), (2, .ref (am 0)), (3, .ref ao), (4, .int i)]) dL_law_772 (by decide) rfl ?_
  refine ol_aload_n X dL_law_774 rfl 3 rfl ?_
  refine ol_aload_n X dL_law_775 rfl 1 rfl ?_
  refine ol_iload X dL_law_776 5 rfl ?_
  refine ol_iconst X (v := 1) dL_law_778 (by decide) ?_
  refine ol_iadd X dL_law_779 ?_
  refine ol_sld X dL_law_780 (fun g90 => ?_)
  refine ol_callM X (As := [.int (xs (i + 1).toNatClampNeg)]) (S := []) (mX1_holderByLog l hst9 D cI cZ am (xs (i + 1).toNatClampNeg)) gL_law_X1_holderByLog rfl rfl rfl hX1_holderByLog ⟨by decide, by decide⟩ rfl rfl (Nat.le_of_ble_eq_true rfl) dL_law_781 (by omega) (fun r91 s91 => ?_)
  refine ol_istore X (L2 := [(6, .int r91), (5, .int r89), (0, .ref b), (1, .ref (ak 0)), (2, .ref (am 0)), (3, .ref ao), (4, .int i)]) dL_law_784 (by decide) rfl ?_
  refine ol_aload_n X dL_law_786 rfl 4 rfl ?_
  refine ol_callM X (As := []) (S := []) (mX1_thrown l hst9 D cI cZ am) gL_law_X1_thrown rfl rfl rfl hX1_thrown ⟨by decide, by decide⟩ rfl rfl (Nat.le_of_ble_eq_true rfl) dL_law_787 (by omega) (fun r92 s92 => ?_)
  refine ol_iload X dL_law_790 1 rfl ?_
  refine ol_icmp_eq X (tgt := 797) dL_law_792 (by decide) (fun q93 => ?_) (fun q93 => ?_)
  · refine ol_iload X dL_law_797 1 rfl ?_
    refine ol_if_ne X (tgt := 814) dL_law_799 (by decide) (fun q94 => ?_) (fun q94 => ?_)
    · refine ol_goto X (tgt := 1548) dL_law_814 (by decide) ?_
      exact ol_sub X [2, 3, 4, 5, 6] (L2 := [(0, .ref b), (1, .ref (ak 0)), (2, .ref (am 0)), (3, .ref ao), (4, .int i)]) rfl (hκ _ k89 s92 f89 (by omega))
    · refine ol_aload_n X dL_law_802 rfl 5 rfl ?_
      refine ol_iconst X (v := 0) dL_law_803 (by decide) ?_
      refine ol_lald X dL_law_804 ?_
      refine ol_iload X dL_law_805 0 rfl ?_
      refine ol_i2l X dL_law_807 ?_
      refine ol_lcmp X dL_law_808 ?_
      refine ol_if_eq X (tgt := 814) dL_law_809 (by decide) (fun q95 => ?_) (fun q95 => ?_)
      · refine ol_goto X (tgt := 1548) dL_law_814 (by decide) ?_
        exact ol_sub X [2, 3, 4, 5, 6] (L2 := [(0, .ref b), (1, .ref (ak 0)), (2, .ref (am 0)), (3, .ref ao), (4, .int i)]) rfl (hκ _ k89 s92 f89 (by omega))
      · refine ol_iconst X (v := 0) dL_law_812 (by decide) ?_
        exact ol_ret X (by omega) dL_law_813
  · refine ol_iconst X (v := 0) dL_law_795 (by decide) ?_
    exact ol_ret X (by omega) dL_law_796
def FLc_817 (xs : Nat → Int32) (N : Nat) (κ : ST → ST → (Nat → Int64) → Option Int32) (i : Int32) (sk sm : ST) (f : Nat → Int64) : Option Int32 := gdL (oz_in (i + 1) N) (bw Int32.toInt64 [(1, 1)] f (FX0_pageIn (xs (i + 1).toNatClampNeg) sk) (fun r97 k97 f97 => gdL (oz_in (i + 1) N) (bM (FX1_pageIn (xs (i + 1).toNatClampNeg) sm) (fun r99 s99 => bM (FX1_thrown s99) (fun r100 s100 => (if r100 = r97 then (if r97 = 0 then (if lg_cmp (f97 0) r99.toInt64 = 0 then κ k97 s100 f97 else some 0) else κ k97 s100 f97) else some 0))))))
set_option maxHeartbeats 4000000 in
set_option maxRecDepth 100000 in
theorem lc_817 (X : oL_E p l e s m b below meth c N xs D cI cZ cJ ak am ao A GL) (hst9 : l.stackTraces = false) (κ : ST → ST → (Nat → Int64) → Option Int32) (i : Int32) (K0 : Nat) (hK0 : K0 ≤ 1024) (hκ : ∀ (k : Nat) (sk sm : ST) (f : Nat → Int64), k ≤ K0 → GL k 1548 [(0, .ref b), (1, .ref (ak 0)), (2, .ref (am 0)), (3, .ref ao), (4, .int i)] [] sk sm f (κ sk sm f)) (k : Nat) (hk9 : k + 2 ≤ K0) : GL k 817 [(0, .ref b), (1, .ref (ak 0)), (2, .ref (am 0)), (3, .ref ao), (4, .int i)] [] sk sm f (FLc_817 xs N κ i sk sm f) := by
  unfold FLc_817
  refine ol_aload_n X dL_law_817 rfl 1 rfl ?_
  refine ol_aload_n X dL_law_818 rfl 0 rfl ?_
  refine ol_iload X dL_law_819 4 rfl ?_
  refine ol_iconst X (v := 1) dL_law_821 (by decide) ?_
  refine ol_iadd X dL_law_822 ?_
  refine ol_sld X dL_law_823 (fun g96 => ?_)
  refine ol_aload_n X dL_law_824 rfl 3 rfl ?_
  refine ol_callW X hst9 (As := [.ref (ak 0), .int (xs (i + 1).toNatClampNeg), .ref ao]) (S := []) (mL_pageIn l hst9 D cI cZ cJ ak ao (xs (i + 1).toNatClampNeg)) gL_law_L_pageIn rfl rfl rfl hL_pageIn ⟨by decide, by decide⟩ rfl rfl (Nat.le_of_ble_eq_true rfl) dL_law_825 (by omega) (fun r97 k97 f97 => ?_)
  refine ol_istore X (L2 := [(5, .int r97), (0, .ref b), (1, .ref (ak 0)), (2, .ref (am 0)), (3, .ref ao), (4, .int i)]) dL_law_828 (by decide) rfl ?_
  refine ol_aload_n X dL_law_830 rfl 3 rfl ?_
  refine ol_aload_n X dL_law_831 rfl 1 rfl ?_
  refine ol_iload X dL_law_832 5 rfl ?_
  refine ol_iconst X (v := 1) dL_law_834 (by decide) ?_
  refine ol_iadd X dL_law_835 ?_
  refine ol_sld X dL_law_836 (fun g98 => ?_)
  refine ol_callM X (As := [.int (xs (i + 1).toNatClampNeg)]) (S := []) (mX1_pageIn l hst9 D cI cZ am (xs (i + 1).toNatClampNeg)) gL_law_X1_pageIn rfl rfl rfl hX1_pageIn ⟨by decide, by decide⟩ rfl rfl (Nat.le_of_ble_eq_true rfl) dL_law_837 (by omega) (fun r99 s99 => ?_)
  refine ol_istore X (L2 := [(6, .int r99), (5, .int r97), (0, .ref b), (1, .ref (ak 0)), (2, .ref (am 0)), (3, .ref ao), (4, .int i)]) dL_law_840 (by decide) rfl ?_
  refine ol_aload_n X dL_law_842 rfl 4 rfl ?_
  refine ol_callM X (As := []) (S := []) (mX1_thrown l hst9 D cI cZ am) gL_law_X1_thrown rfl rfl rfl hX1_thrown ⟨by decide, by decide⟩ rfl rfl (Nat.le_of_ble_eq_true rfl) dL_law_843 (by omega) (fun r100 s100 => ?_)
  refine ol_iload X dL_law_846 1 rfl ?_
  refine ol_icmp_eq X (tgt := 853) dL_law_848 (by decide) (fun q101 => ?_) (fun q101 => ?_)
  · refine ol_iload X dL_law_853 1 rfl ?_
    refine ol_if_ne X (tgt := 870) dL_law_855 (by decide) (fun q102 => ?_) (fun q102 => ?_)
    · refine ol_goto X (tgt := 1548) dL_law_870 (by decide) ?_
      exact ol_sub X [2, 3, 4, 5, 6] (L2 := [(0, .ref b), (1, .ref (ak 0)), (2, .ref (am 0)), (3, .ref ao), (4, .int i)]) rfl (hκ _ k97 s100 f97 (by omega))
    · refine ol_aload_n X dL_law_858 rfl 5 rfl ?_
      refine ol_iconst X (v := 0) dL_law_859 (by decide) ?_
      refine ol_lald X dL_law_860 ?_
      refine ol_iload X dL_law_861 0 rfl ?_
      refine ol_i2l X dL_law_863 ?_
      refine ol_lcmp X dL_law_864 ?_
      refine ol_if_eq X (tgt := 870) dL_law_865 (by decide) (fun q103 => ?_) (fun q103 => ?_)
      · refine ol_goto X (tgt := 1548) dL_law_870 (by decide) ?_
        exact ol_sub X [2, 3, 4, 5, 6] (L2 := [(0, .ref b), (1, .ref (ak 0)), (2, .ref (am 0)), (3, .ref ao), (4, .int i)]) rfl (hκ _ k97 s100 f97 (by omega))
      · refine ol_iconst X (v := 0) dL_law_868 (by decide) ?_
        exact ol_ret X (by omega) dL_law_869
  · refine ol_iconst X (v := 0) dL_law_851 (by decide) ?_
    exact ol_ret X (by omega) dL_law_852
def FLc_873 (xs : Nat → Int32) (N : Nat) (κ : ST → ST → (Nat → Int64) → Option Int32) (i : Int32) (sk sm : ST) (f : Nat → Int64) : Option Int32 := gdL (oz_in (i + 1) N) (bw Int32.toInt64 [(1, 1)] f (FX0_age (xs (i + 1).toNatClampNeg) sk) (fun r105 k105 f105 => gdL (oz_in (i + 1) N) (bM (FX1_age (xs (i + 1).toNatClampNeg) sm) (fun r107 s107 => bM (FX1_thrown s107) (fun r108 s108 => (if r108 = r105 then (if r105 = 0 then (if lg_cmp (f105 0) r107.toInt64 = 0 then κ k105 s108 f105 else some 0) else κ k105 s108 f105) else some 0))))))
set_option maxHeartbeats 4000000 in
set_option maxRecDepth 100000 in
theorem lc_873 (X : oL_E p l e s m b below meth c N xs D cI cZ cJ ak am ao A GL) (hst9 : l.stackTraces = false) (κ : ST → ST → (Nat → Int64) → Option Int32) (i : Int32) (K0 : Nat) (hK0 : K0 ≤ 1024) (hκ : ∀ (k : Nat) (sk sm : ST) (f : Nat → Int64), k ≤ K0 → GL k 1548 [(0, .ref b), (1, .ref (ak 0)), (2, .ref (am 0)), (3, .ref ao), (4, .int i)] [] sk sm f (κ sk sm f)) (k : Nat) (hk9 : k + 2 ≤ K0) : GL k 873 [(0, .ref b), (1, .ref (ak 0)), (2, .ref (am 0)), (3, .ref ao), (4, .int i)] [] sk sm f (FLc_873 xs N κ i sk sm f) := by
  unfold FLc_873
  refine ol_aload_n X dL_law_873 rfl 1 rfl ?_
  refine ol_aload_n X dL_law_874 rfl 0 rfl ?_
  refine ol_iload X dL_law_875 4 rfl ?_
  refine ol_iconst X (v := 1) dL_law_877 (by decide) ?_
  refine ol_iadd X dL_law_878 ?_
  refine ol_sld X dL_law_879 (fun g104 => ?_)
  refine ol_aload_n X dL_law_880 rfl 3 rfl ?_
  refine ol_callW X hst9 (As := [.ref (ak 0), .int (xs (i + 1).toNatClampNeg), .ref ao]) (S := []) (mL_age l hst9 D cI cZ cJ ak ao (xs (i + 1).toNatClampNeg)) gL_law_L_age rfl rfl rfl hL_age ⟨by decide, by decide⟩ rfl rfl (Nat.le_of_ble_eq_true rfl) dL_law_881 (by omega) (fun r105 k105 f105 => ?_)
  refine ol_istore X (L2 := [(5, .int r105), (0, .ref b), (1, .ref (ak 0)), (2, .ref (am 0)), (3, .ref ao), (4, .int i)]) dL_law_884 (by decide) rfl ?_
  refine ol_aload_n X dL_law_886 rfl 3 rfl ?_
  refine ol_aload_n X dL_law_887 rfl 1 rfl ?_
  refine ol_iload X dL_law_888 5 rfl ?_
  refine ol_iconst X (v := 1) dL_law_890 (by decide) ?_
  refine ol_iadd X dL_law_891 ?_
  refine ol_sld X dL_law_892 (fun g106 => ?_)
  refine ol_callM X (As := [.int (xs (i + 1).toNatClampNeg)]) (S := []) (mX1_age l hst9 D cI cZ am (xs (i + 1).toNatClampNeg)) gL_law_X1_age rfl rfl rfl hX1_age ⟨by decide, by decide⟩ rfl rfl (Nat.le_of_ble_eq_true rfl) dL_law_893 (by omega) (fun r107 s107 => ?_)
  refine ol_istore X (L2 := [(6, .int r107), (5, .int r105), (0, .ref b), (1, .ref (ak 0)), (2, .ref (am 0)), (3, .ref ao), (4, .int i)]) dL_law_896 (by decide) rfl ?_
  refine ol_aload_n X dL_law_898 rfl 4 rfl ?_
  refine ol_callM X (As := []) (S := []) (mX1_thrown l hst9 D cI cZ am) gL_law_X1_thrown rfl rfl rfl hX1_thrown ⟨by decide, by decide⟩ rfl rfl (Nat.le_of_ble_eq_true rfl) dL_law_899 (by omega) (fun r108 s108 => ?_)
  refine ol_iload X dL_law_902 1 rfl ?_
  refine ol_icmp_eq X (tgt := 909) dL_law_904 (by decide) (fun q109 => ?_) (fun q109 => ?_)
  · refine ol_iload X dL_law_909 1 rfl ?_
    refine ol_if_ne X (tgt := 926) dL_law_911 (by decide) (fun q110 => ?_) (fun q110 => ?_)
    · refine ol_goto X (tgt := 1548) dL_law_926 (by decide) ?_
      exact ol_sub X [2, 3, 4, 5, 6] (L2 := [(0, .ref b), (1, .ref (ak 0)), (2, .ref (am 0)), (3, .ref ao), (4, .int i)]) rfl (hκ _ k105 s108 f105 (by omega))
    · refine ol_aload_n X dL_law_914 rfl 5 rfl ?_
      refine ol_iconst X (v := 0) dL_law_915 (by decide) ?_
      refine ol_lald X dL_law_916 ?_
      refine ol_iload X dL_law_917 0 rfl ?_
      refine ol_i2l X dL_law_919 ?_
      refine ol_lcmp X dL_law_920 ?_
      refine ol_if_eq X (tgt := 926) dL_law_921 (by decide) (fun q111 => ?_) (fun q111 => ?_)
      · refine ol_goto X (tgt := 1548) dL_law_926 (by decide) ?_
        exact ol_sub X [2, 3, 4, 5, 6] (L2 := [(0, .ref b), (1, .ref (ak 0)), (2, .ref (am 0)), (3, .ref ao), (4, .int i)]) rfl (hκ _ k105 s108 f105 (by omega))
      · refine ol_iconst X (v := 0) dL_law_924 (by decide) ?_
        exact ol_ret X (by omega) dL_law_925
  · refine ol_iconst X (v := 0) dL_law_907 (by decide) ?_
    exact ol_ret X (by omega) dL_law_908
def FLc_929 (xs : Nat → Int32) (N : Nat) (κ : ST → ST → (Nat → Int64) → Option Int32) (i : Int32) (sk sm : ST) (f : Nat → Int64) : Option Int32 := bM (FX0_free sk) (fun r112 s112 => bM (FX1_free sm) (fun r113 s113 => (if r112 = r113 then κ s112 s113 f else some 0)))
set_option maxHeartbeats 4000000 in
set_option maxRecDepth 100000 in
theorem lc_929 (X : oL_E p l e s m b below meth c N xs D cI cZ cJ ak am ao A GL) (hst9 : l.stackTraces = false) (κ : ST → ST → (Nat → Int64) → Option Int32) (i : Int32) (K0 : Nat) (hK0 : K0 ≤ 1024) (hκ : ∀ (k : Nat) (sk sm : ST) (f : Nat → Int64), k ≤ K0 → GL k 1548 [(0, .ref b), (1, .ref (ak 0)), (2, .ref (am 0)), (3, .ref ao), (4, .int i)] [] sk sm f (κ sk sm f)) (k : Nat) (hk9 : k + 2 ≤ K0) : GL k 929 [(0, .ref b), (1, .ref (ak 0)), (2, .ref (am 0)), (3, .ref ao), (4, .int i)] [] sk sm f (FLc_929 xs N κ i sk sm f) := by
  unfold FLc_929
  refine ol_aload_n X dL_law_929 rfl 1 rfl ?_
  refine ol_callK X (As := []) (S := []) (mX0_free l hst9 D cI cZ ak) gL_law_X0_free rfl rfl rfl hX0_free ⟨by decide, by decide⟩ rfl rfl (Nat.le_of_ble_eq_true rfl) dL_law_930 (by omega) (fun r112 s112 => ?_)
  refine ol_aload_n X dL_law_933 rfl 2 rfl ?_
  refine ol_callM X (As := []) (S := [.int r112]) (mX1_free l hst9 D cI cZ am) gL_law_X1_free rfl rfl rfl hX1_free ⟨by decide, by decide⟩ rfl rfl (Nat.le_of_ble_eq_true rfl) dL_law_934 (by omega) (fun r113 s113 => ?_)
  refine ol_icmp_eq X (tgt := 1548) dL_law_937 (by decide) (fun q114 => ?_) (fun q114 => ?_)
  · exact ol_sub X [0, 1, 2, 3, 4] (L2 := [(0, .ref b), (1, .ref (ak 0)), (2, .ref (am 0)), (3, .ref ao), (4, .int i)]) rfl (hκ _ s112 s113 f (by omega))
  · refine ol_iconst X (v := 0) dL_law_940 (by decide) ?_
    exact ol_ret X (by omega) dL_law_941
def FLc_942 (xs : Nat → Int32) (N : Nat) (κ : ST → ST → (Nat → Int64) → Option Int32) (i : Int32) (sk sm : ST) (f : Nat → Int64) : Option Int32 := gdL (oz_in (i + 1) N) (bw Int32.toInt64 [(1, 1)] f (FX0_owns (xs (i + 1).toNatClampNeg) sk) (fun r116 k116 f116 => gdL (oz_in (i + 1) N) (bM (FX1_owns (xs (i + 1).toNatClampNeg) sm) (fun r118 s118 => bM (FX1_thrown s118) (fun r119 s119 => (if r119 = r116 then (if r116 = 0 then (if lg_cmp (f116 0) r118.toInt64 = 0 then κ k116 s119 f116 else some 0) else κ k116 s119 f116) else some 0))))))
set_option maxHeartbeats 4000000 in
set_option maxRecDepth 100000 in
theorem lc_942 (X : oL_E p l e s m b below meth c N xs D cI cZ cJ ak am ao A GL) (hst9 : l.stackTraces = false) (κ : ST → ST → (Nat → Int64) → Option Int32) (i : Int32) (K0 : Nat) (hK0 : K0 ≤ 1024) (hκ : ∀ (k : Nat) (sk sm : ST) (f : Nat → Int64), k ≤ K0 → GL k 1548 [(0, .ref b), (1, .ref (ak 0)), (2, .ref (am 0)), (3, .ref ao), (4, .int i)] [] sk sm f (κ sk sm f)) (k : Nat) (hk9 : k + 2 ≤ K0) : GL k 942 [(0, .ref b), (1, .ref (ak 0)), (2, .ref (am 0)), (3, .ref ao), (4, .int i)] [] sk sm f (FLc_942 xs N κ i sk sm f) := by
  unfold FLc_942
  refine ol_aload_n X dL_law_942 rfl 1 rfl ?_
  refine ol_aload_n X dL_law_943 rfl 0 rfl ?_
  refine ol_iload X dL_law_944 4 rfl ?_
  refine ol_iconst X (v := 1) dL_law_946 (by decide) ?_
  refine ol_iadd X dL_law_947 ?_
  refine ol_sld X dL_law_948 (fun g115 => ?_)
  refine ol_aload_n X dL_law_949 rfl 3 rfl ?_
  refine ol_callW X hst9 (As := [.ref (ak 0), .int (xs (i + 1).toNatClampNeg), .ref ao]) (S := []) (mL_owns l hst9 D cI cZ cJ ak ao (xs (i + 1).toNatClampNeg)) gL_law_L_owns rfl rfl rfl hL_owns ⟨by decide, by decide⟩ rfl rfl (Nat.le_of_ble_eq_true rfl) dL_law_950 (by omega) (fun r116 k116 f116 => ?_)
  refine ol_istore X (L2 := [(5, .int r116), (0, .ref b), (1, .ref (ak 0)), (2, .ref (am 0)), (3, .ref ao), (4, .int i)]) dL_law_953 (by decide) rfl ?_
  refine ol_aload_n X dL_law_955 rfl 3 rfl ?_
  refine ol_aload_n X dL_law_956 rfl 1 rfl ?_
  refine ol_iload X dL_law_957 5 rfl ?_
  refine ol_iconst X (v := 1) dL_law_959 (by decide) ?_
  refine ol_iadd X dL_law_960 ?_
  refine ol_sld X dL_law_961 (fun g117 => ?_)
  refine ol_callM X (As := [.int (xs (i + 1).toNatClampNeg)]) (S := []) (mX1_owns l hst9 D cI cZ am (xs (i + 1).toNatClampNeg)) gL_law_X1_owns rfl rfl rfl hX1_owns ⟨by decide, by decide⟩ rfl rfl (Nat.le_of_ble_eq_true rfl) dL_law_962 (by omega) (fun r118 s118 => ?_)
  refine ol_istore X (L2 := [(6, .int r118), (5, .int r116), (0, .ref b), (1, .ref (ak 0)), (2, .ref (am 0)), (3, .ref ao), (4, .int i)]) dL_law_965 (by decide) rfl ?_
  refine ol_aload_n X dL_law_967 rfl 4 rfl ?_
  refine ol_callM X (As := []) (S := []) (mX1_thrown l hst9 D cI cZ am) gL_law_X1_thrown rfl rfl rfl hX1_thrown ⟨by decide, by decide⟩ rfl rfl (Nat.le_of_ble_eq_true rfl) dL_law_968 (by omega) (fun r119 s119 => ?_)
  refine ol_iload X dL_law_971 1 rfl ?_
  refine ol_icmp_eq X (tgt := 978) dL_law_973 (by decide) (fun q120 => ?_) (fun q120 => ?_)
  · refine ol_iload X dL_law_978 1 rfl ?_
    refine ol_if_ne X (tgt := 995) dL_law_980 (by decide) (fun q121 => ?_) (fun q121 => ?_)
    · refine ol_goto X (tgt := 1548) dL_law_995 (by decide) ?_
      exact ol_sub X [2, 3, 4, 5, 6] (L2 := [(0, .ref b), (1, .ref (ak 0)), (2, .ref (am 0)), (3, .ref ao), (4, .int i)]) rfl (hκ _ k116 s119 f116 (by omega))
    · refine ol_aload_n X dL_law_983 rfl 5 rfl ?_
      refine ol_iconst X (v := 0) dL_law_984 (by decide) ?_
      refine ol_lald X dL_law_985 ?_
      refine ol_iload X dL_law_986 0 rfl ?_
      refine ol_i2l X dL_law_988 ?_
      refine ol_lcmp X dL_law_989 ?_
      refine ol_if_eq X (tgt := 995) dL_law_990 (by decide) (fun q122 => ?_) (fun q122 => ?_)
      · refine ol_goto X (tgt := 1548) dL_law_995 (by decide) ?_
        exact ol_sub X [2, 3, 4, 5, 6] (L2 := [(0, .ref b), (1, .ref (ak 0)), (2, .ref (am 0)), (3, .ref ao), (4, .int i)]) rfl (hκ _ k116 s119 f116 (by omega))
      · refine ol_iconst X (v := 0) dL_law_993 (by decide) ?_
        exact ol_ret X (by omega) dL_law_994
  · refine ol_iconst X (v := 0) dL_law_976 (by decide) ?_
    exact ol_ret X (by omega) dL_law_977
def FLc_998 (xs : Nat → Int32) (N : Nat) (κ : ST → ST → (Nat → Int64) → Option Int32) (i : Int32) (sk sm : ST) (f : Nat → Int64) : Option Int32 := gdL (oz_in (i + 1) N) (bw Int32.toInt64 [(1, 1)] f (FX0_borrowed (xs (i + 1).toNatClampNeg) sk) (fun r124 k124 f124 => gdL (oz_in (i + 1) N) (bM (FX1_borrowed (xs (i + 1).toNatClampNeg) sm) (fun r126 s126 => bM (FX1_thrown s126) (fun r127 s127 => (if r127 = r124 then (if r124 = 0 then (if lg_cmp (f124 0) r126.toInt64 = 0 then κ k124 s127 f124 else some 0) else κ k124 s127 f124) else some 0))))))
set_option maxHeartbeats 4000000 in
set_option maxRecDepth 100000 in
theorem lc_998 (X : oL_E p l e s m b below meth c N xs D cI cZ cJ ak am ao A GL) (hst9 : l.stackTraces = false) (κ : ST → ST → (Nat → Int64) → Option Int32) (i : Int32) (K0 : Nat) (hK0 : K0 ≤ 1024) (hκ : ∀ (k : Nat) (sk sm : ST) (f : Nat → Int64), k ≤ K0 → GL k 1548 [(0, .ref b), (1, .ref (ak 0)), (2, .ref (am 0)), (3, .ref ao), (4, .int i)] [] sk sm f (κ sk sm f)) (k : Nat) (hk9 : k + 2 ≤ K0) : GL k 998 [(0, .ref b), (1, .ref (ak 0)), (2, .ref (am 0)), (3, .ref ao), (4, .int i)] [] sk sm f (FLc_998 xs N κ i sk sm f) := by
  unfold FLc_998
  refine ol_aload_n X dL_law_998 rfl 1 rfl ?_
  refine ol_aload_n X dL_law_999 rfl 0 rfl ?_
  refine ol_iload X dL_law_1000 4 rfl ?_
  refine ol_iconst X (v := 1) dL_law_1002 (by decide) ?_
  refine ol_iadd X dL_law_1003 ?_
  refine ol_sld X dL_law_1004 (fun g123 => ?_)
  refine ol_aload_n X dL_law_1005 rfl 3 rfl ?_
  refine ol_callW X hst9 (As := [.ref (ak 0), .int (xs (i + 1).toNatClampNeg), .ref ao]) (S := []) (mL_borrowed l hst9 D cI cZ cJ ak ao (xs (i + 1).toNatClampNeg)) gL_law_L_borrowed rfl rfl rfl hL_borrowed ⟨by decide, by decide⟩ rfl rfl (Nat.le_of_ble_eq_true rfl) dL_law_1006 (by omega) (fun r124 k124 f124 => ?_)
  refine ol_istore X (L2 := [(5, .int r124), (0, .ref b), (1, .ref (ak 0)), (2, .ref (am 0)), (3, .ref ao), (4, .int i)]) dL_law_1009 (by decide) rfl ?_
  refine ol_aload_n X dL_law_1011 rfl 3 rfl ?_
  refine ol_aload_n X dL_law_1012 rfl 1 rfl ?_
  refine ol_iload X dL_law_1013 5 rfl ?_
  refine ol_iconst X (v := 1) dL_law_1015 (by decide) ?_
  refine ol_iadd X dL_law_1016 ?_
  refine ol_sld X dL_law_1017 (fun g125 => ?_)
  refine ol_callM X (As := [.int (xs (i + 1).toNatClampNeg)]) (S := []) (mX1_borrowed l hst9 D cI cZ am (xs (i + 1).toNatClampNeg)) gL_law_X1_borrowed rfl rfl rfl hX1_borrowed ⟨by decide, by decide⟩ rfl rfl (Nat.le_of_ble_eq_true rfl) dL_law_1018 (by omega) (fun r126 s126 => ?_)
  refine ol_istore X (L2 := [(6, .int r126), (5, .int r124), (0, .ref b), (1, .ref (ak 0)), (2, .ref (am 0)), (3, .ref ao), (4, .int i)]) dL_law_1021 (by decide) rfl ?_
  refine ol_aload_n X dL_law_1023 rfl 4 rfl ?_
  refine ol_callM X (As := []) (S := []) (mX1_thrown l hst9 D cI cZ am) gL_law_X1_thrown rfl rfl rfl hX1_thrown ⟨by decide, by decide⟩ rfl rfl (Nat.le_of_ble_eq_true rfl) dL_law_1024 (by omega) (fun r127 s127 => ?_)
  refine ol_iload X dL_law_1027 1 rfl ?_
  refine ol_icmp_eq X (tgt := 1034) dL_law_1029 (by decide) (fun q128 => ?_) (fun q128 => ?_)
  · refine ol_iload X dL_law_1034 1 rfl ?_
    refine ol_if_ne X (tgt := 1051) dL_law_1036 (by decide) (fun q129 => ?_) (fun q129 => ?_)
    · refine ol_goto X (tgt := 1548) dL_law_1051 (by decide) ?_
      exact ol_sub X [2, 3, 4, 5, 6] (L2 := [(0, .ref b), (1, .ref (ak 0)), (2, .ref (am 0)), (3, .ref ao), (4, .int i)]) rfl (hκ _ k124 s127 f124 (by omega))
    · refine ol_aload_n X dL_law_1039 rfl 5 rfl ?_
      refine ol_iconst X (v := 0) dL_law_1040 (by decide) ?_
      refine ol_lald X dL_law_1041 ?_
      refine ol_iload X dL_law_1042 0 rfl ?_
      refine ol_i2l X dL_law_1044 ?_
      refine ol_lcmp X dL_law_1045 ?_
      refine ol_if_eq X (tgt := 1051) dL_law_1046 (by decide) (fun q130 => ?_) (fun q130 => ?_)
      · refine ol_goto X (tgt := 1548) dL_law_1051 (by decide) ?_
        exact ol_sub X [2, 3, 4, 5, 6] (L2 := [(0, .ref b), (1, .ref (ak 0)), (2, .ref (am 0)), (3, .ref ao), (4, .int i)]) rfl (hκ _ k124 s127 f124 (by omega))
      · refine ol_iconst X (v := 0) dL_law_1049 (by decide) ?_
        exact ol_ret X (by omega) dL_law_1050
  · refine ol_iconst X (v := 0) dL_law_1032 (by decide) ?_
    exact ol_ret X (by omega) dL_law_1033
def FLc_1054 (xs : Nat → Int32) (N : Nat) (κ : ST → ST → (Nat → Int64) → Option Int32) (i : Int32) (sk sm : ST) (f : Nat → Int64) : Option Int32 := gdL (oz_in (i + 1) N) (bw Int32.toInt64 [(1, 1)] f (FX0_lent (xs (i + 1).toNatClampNeg) sk) (fun r132 k132 f132 => gdL (oz_in (i + 1) N) (bM (FX1_lent (xs (i + 1).toNatClampNeg) sm) (fun r134 s134 => bM (FX1_thrown s134) (fun r135 s135 => (if r135 = r132 then (if r132 = 0 then (if lg_cmp (f132 0) r134.toInt64 = 0 then κ k132 s135 f132 else some 0) else κ k132 s135 f132) else some 0))))))
set_option maxHeartbeats 4000000 in
set_option maxRecDepth 100000 in
theorem lc_1054 (X : oL_E p l e s m b below meth c N xs D cI cZ cJ ak am ao A GL) (hst9 : l.stackTraces = false) (κ : ST → ST → (Nat → Int64) → Option Int32) (i : Int32) (K0 : Nat) (hK0 : K0 ≤ 1024) (hκ : ∀ (k : Nat) (sk sm : ST) (f : Nat → Int64), k ≤ K0 → GL k 1548 [(0, .ref b), (1, .ref (ak 0)), (2, .ref (am 0)), (3, .ref ao), (4, .int i)] [] sk sm f (κ sk sm f)) (k : Nat) (hk9 : k + 2 ≤ K0) : GL k 1054 [(0, .ref b), (1, .ref (ak 0)), (2, .ref (am 0)), (3, .ref ao), (4, .int i)] [] sk sm f (FLc_1054 xs N κ i sk sm f) := by
  unfold FLc_1054
  refine ol_aload_n X dL_law_1054 rfl 1 rfl ?_
  refine ol_aload_n X dL_law_1055 rfl 0 rfl ?_
  refine ol_iload X dL_law_1056 4 rfl ?_
  refine ol_iconst X (v := 1) dL_law_1058 (by decide) ?_
  refine ol_iadd X dL_law_1059 ?_
  refine ol_sld X dL_law_1060 (fun g131 => ?_)
  refine ol_aload_n X dL_law_1061 rfl 3 rfl ?_
  refine ol_callW X hst9 (As := [.ref (ak 0), .int (xs (i + 1).toNatClampNeg), .ref ao]) (S := []) (mL_lent l hst9 D cI cZ cJ ak ao (xs (i + 1).toNatClampNeg)) gL_law_L_lent rfl rfl rfl hL_lent ⟨by decide, by decide⟩ rfl rfl (Nat.le_of_ble_eq_true rfl) dL_law_1062 (by omega) (fun r132 k132 f132 => ?_)
  refine ol_istore X (L2 := [(5, .int r132), (0, .ref b), (1, .ref (ak 0)), (2, .ref (am 0)), (3, .ref ao), (4, .int i)]) dL_law_1065 (by decide) rfl ?_
  refine ol_aload_n X dL_law_1067 rfl 3 rfl ?_
  refine ol_aload_n X dL_law_1068 rfl 1 rfl ?_
  refine ol_iload X dL_law_1069 5 rfl ?_
  refine ol_iconst X (v := 1) dL_law_1071 (by decide) ?_
  refine ol_iadd X dL_law_1072 ?_
  refine ol_sld X dL_law_1073 (fun g133 => ?_)
  refine ol_callM X (As := [.int (xs (i + 1).toNatClampNeg)]) (S := []) (mX1_lent l hst9 D cI cZ am (xs (i + 1).toNatClampNeg)) gL_law_X1_lent rfl rfl rfl hX1_lent ⟨by decide, by decide⟩ rfl rfl (Nat.le_of_ble_eq_true rfl) dL_law_1074 (by omega) (fun r134 s134 => ?_)
  refine ol_istore X (L2 := [(6, .int r134), (5, .int r132), (0, .ref b), (1, .ref (ak 0)), (2, .ref (am 0)), (3, .ref ao), (4, .int i)]) dL_law_1077 (by decide) rfl ?_
  refine ol_aload_n X dL_law_1079 rfl 4 rfl ?_
  refine ol_callM X (As := []) (S := []) (mX1_thrown l hst9 D cI cZ am) gL_law_X1_thrown rfl rfl rfl hX1_thrown ⟨by decide, by decide⟩ rfl rfl (Nat.le_of_ble_eq_true rfl) dL_law_1080 (by omega) (fun r135 s135 => ?_)
  refine ol_iload X dL_law_1083 1 rfl ?_
  refine ol_icmp_eq X (tgt := 1090) dL_law_1085 (by decide) (fun q136 => ?_) (fun q136 => ?_)
  · refine ol_iload X dL_law_1090 1 rfl ?_
    refine ol_if_ne X (tgt := 1107) dL_law_1092 (by decide) (fun q137 => ?_) (fun q137 => ?_)
    · refine ol_goto X (tgt := 1548) dL_law_1107 (by decide) ?_
      exact ol_sub X [2, 3, 4, 5, 6] (L2 := [(0, .ref b), (1, .ref (ak 0)), (2, .ref (am 0)), (3, .ref ao), (4, .int i)]) rfl (hκ _ k132 s135 f132 (by omega))
    · refine ol_aload_n X dL_law_1095 rfl 5 rfl ?_
      refine ol_iconst X (v := 0) dL_law_1096 (by decide) ?_
      refine ol_lald X dL_law_1097 ?_
      refine ol_iload X dL_law_1098 0 rfl ?_
      refine ol_i2l X dL_law_1100 ?_
      refine ol_lcmp X dL_law_1101 ?_
      refine ol_if_eq X (tgt := 1107) dL_law_1102 (by decide) (fun q138 => ?_) (fun q138 => ?_)
      · refine ol_goto X (tgt := 1548) dL_law_1107 (by decide) ?_
        exact ol_sub X [2, 3, 4, 5, 6] (L2 := [(0, .ref b), (1, .ref (ak 0)), (2, .ref (am 0)), (3, .ref ao), (4, .int i)]) rfl (hκ _ k132 s135 f132 (by omega))
      · refine ol_iconst X (v := 0) dL_law_1105 (by decide) ?_
        exact ol_ret X (by omega) dL_law_1106
  · refine ol_iconst X (v := 0) dL_law_1088 (by decide) ?_
    exact ol_ret X (by omega) dL_law_1089
def FLc_1110 (xs : Nat → Int32) (N : Nat) (κ : ST → ST → (Nat → Int64) → Option Int32) (i : Int32) (sk sm : ST) (f : Nat → Int64) : Option Int32 := gdL (oz_in (i + 1) N) (bw Int32.toInt64 [(1, 1)] f (FX0_stateOf (xs (i + 1).toNatClampNeg) sk) (fun r140 k140 f140 => gdL (oz_in (i + 1) N) (bM (FX1_stateOf (xs (i + 1).toNatClampNeg) sm) (fun r142 s142 => bM (FX1_thrown s142) (fun r143 s143 => (if r143 = r140 then (if r140 = 0 then (if lg_cmp (f140 0) r142.toInt64 = 0 then κ k140 s143 f140 else some 0) else κ k140 s143 f140) else some 0))))))
set_option maxHeartbeats 4000000 in
set_option maxRecDepth 100000 in
theorem lc_1110 (X : oL_E p l e s m b below meth c N xs D cI cZ cJ ak am ao A GL) (hst9 : l.stackTraces = false) (κ : ST → ST → (Nat → Int64) → Option Int32) (i : Int32) (K0 : Nat) (hK0 : K0 ≤ 1024) (hκ : ∀ (k : Nat) (sk sm : ST) (f : Nat → Int64), k ≤ K0 → GL k 1548 [(0, .ref b), (1, .ref (ak 0)), (2, .ref (am 0)), (3, .ref ao), (4, .int i)] [] sk sm f (κ sk sm f)) (k : Nat) (hk9 : k + 2 ≤ K0) : GL k 1110 [(0, .ref b), (1, .ref (ak 0)), (2, .ref (am 0)), (3, .ref ao), (4, .int i)] [] sk sm f (FLc_1110 xs N κ i sk sm f) := by
  unfold FLc_1110
  refine ol_aload_n X dL_law_1110 rfl 1 rfl ?_
  refine ol_aload_n X dL_law_1111 rfl 0 rfl ?_
  refine ol_iload X dL_law_1112 4 rfl ?_
  refine ol_iconst X (v := 1) dL_law_1114 (by decide) ?_
  refine ol_iadd X dL_law_1115 ?_
  refine ol_sld X dL_law_1116 (fun g139 => ?_)
  refine ol_aload_n X dL_law_1117 rfl 3 rfl ?_
  refine ol_callW X hst9 (As := [.ref (ak 0), .int (xs (i + 1).toNatClampNeg), .ref ao]) (S := []) (mL_stateOf l hst9 D cI cZ cJ ak ao (xs (i + 1).toNatClampNeg)) gL_law_L_stateOf rfl rfl rfl hL_stateOf ⟨by decide, by decide⟩ rfl rfl (Nat.le_of_ble_eq_true rfl) dL_law_1118 (by omega) (fun r140 k140 f140 => ?_)
  refine ol_istore X (L2 := [(5, .int r140), (0, .ref b), (1, .ref (ak 0)), (2, .ref (am 0)), (3, .ref ao), (4, .int i)]) dL_law_1121 (by decide) rfl ?_
  refine ol_aload_n X dL_law_1123 rfl 3 rfl ?_
  refine ol_aload_n X dL_law_1124 rfl 1 rfl ?_
  refine ol_iload X dL_law_1125 5 rfl ?_
  refine ol_iconst X (v := 1) dL_law_1127 (by decide) ?_
  refine ol_iadd X dL_law_1128 ?_
  refine ol_sld X dL_law_1129 (fun g141 => ?_)
  refine ol_callM X (As := [.int (xs (i + 1).toNatClampNeg)]) (S := []) (mX1_stateOf l hst9 D cI cZ am (xs (i + 1).toNatClampNeg)) gL_law_X1_stateOf rfl rfl rfl hX1_stateOf ⟨by decide, by decide⟩ rfl rfl (Nat.le_of_ble_eq_true rfl) dL_law_1130 (by omega) (fun r142 s142 => ?_)
  refine ol_istore X (L2 := [(6, .int r142), (5, .int r140), (0, .ref b), (1, .ref (ak 0)), (2, .ref (am 0)), (3, .ref ao), (4, .int i)]) dL_law_1133 (by decide) rfl ?_
  refine ol_aload_n X dL_law_1135 rfl 4 rfl ?_
  refine ol_callM X (As := []) (S := []) (mX1_thrown l hst9 D cI cZ am) gL_law_X1_thrown rfl rfl rfl hX1_thrown ⟨by decide, by decide⟩ rfl rfl (Nat.le_of_ble_eq_true rfl) dL_law_1136 (by omega) (fun r143 s143 => ?_)
  refine ol_iload X dL_law_1139 1 rfl ?_
  refine ol_icmp_eq X (tgt := 1146) dL_law_1141 (by decide) (fun q144 => ?_) (fun q144 => ?_)
  · refine ol_iload X dL_law_1146 1 rfl ?_
    refine ol_if_ne X (tgt := 1163) dL_law_1148 (by decide) (fun q145 => ?_) (fun q145 => ?_)
    · refine ol_goto X (tgt := 1548) dL_law_1163 (by decide) ?_
      exact ol_sub X [2, 3, 4, 5, 6] (L2 := [(0, .ref b), (1, .ref (ak 0)), (2, .ref (am 0)), (3, .ref ao), (4, .int i)]) rfl (hκ _ k140 s143 f140 (by omega))
    · refine ol_aload_n X dL_law_1151 rfl 5 rfl ?_
      refine ol_iconst X (v := 0) dL_law_1152 (by decide) ?_
      refine ol_lald X dL_law_1153 ?_
      refine ol_iload X dL_law_1154 0 rfl ?_
      refine ol_i2l X dL_law_1156 ?_
      refine ol_lcmp X dL_law_1157 ?_
      refine ol_if_eq X (tgt := 1163) dL_law_1158 (by decide) (fun q146 => ?_) (fun q146 => ?_)
      · refine ol_goto X (tgt := 1548) dL_law_1163 (by decide) ?_
        exact ol_sub X [2, 3, 4, 5, 6] (L2 := [(0, .ref b), (1, .ref (ak 0)), (2, .ref (am 0)), (3, .ref ao), (4, .int i)]) rfl (hκ _ k140 s143 f140 (by omega))
      · refine ol_iconst X (v := 0) dL_law_1161 (by decide) ?_
        exact ol_ret X (by omega) dL_law_1162
  · refine ol_iconst X (v := 0) dL_law_1144 (by decide) ?_
    exact ol_ret X (by omega) dL_law_1145
def FLc_1166 (xs : Nat → Int32) (N : Nat) (κ : ST → ST → (Nat → Int64) → Option Int32) (i : Int32) (sk sm : ST) (f : Nat → Int64) : Option Int32 := gdL (oz_in (i + 1) N) (bw Int32.toInt64 [(1, 1)] f (FX0_purse (xs (i + 1).toNatClampNeg) sk) (fun r148 k148 f148 => gdL (oz_in (i + 1) N) (bM (FX1_purse (xs (i + 1).toNatClampNeg) sm) (fun r150 s150 => bM (FX1_thrown s150) (fun r151 s151 => (if r151 = r148 then (if r148 = 0 then (if lg_cmp (f148 0) r150.toInt64 = 0 then κ k148 s151 f148 else some 0) else κ k148 s151 f148) else some 0))))))
set_option maxHeartbeats 4000000 in
set_option maxRecDepth 100000 in
theorem lc_1166 (X : oL_E p l e s m b below meth c N xs D cI cZ cJ ak am ao A GL) (hst9 : l.stackTraces = false) (κ : ST → ST → (Nat → Int64) → Option Int32) (i : Int32) (K0 : Nat) (hK0 : K0 ≤ 1024) (hκ : ∀ (k : Nat) (sk sm : ST) (f : Nat → Int64), k ≤ K0 → GL k 1548 [(0, .ref b), (1, .ref (ak 0)), (2, .ref (am 0)), (3, .ref ao), (4, .int i)] [] sk sm f (κ sk sm f)) (k : Nat) (hk9 : k + 2 ≤ K0) : GL k 1166 [(0, .ref b), (1, .ref (ak 0)), (2, .ref (am 0)), (3, .ref ao), (4, .int i)] [] sk sm f (FLc_1166 xs N κ i sk sm f) := by
  unfold FLc_1166
  refine ol_aload_n X dL_law_1166 rfl 1 rfl ?_
  refine ol_aload_n X dL_law_1167 rfl 0 rfl ?_
  refine ol_iload X dL_law_1168 4 rfl ?_
  refine ol_iconst X (v := 1) dL_law_1170 (by decide) ?_
  refine ol_iadd X dL_law_1171 ?_
  refine ol_sld X dL_law_1172 (fun g147 => ?_)
  refine ol_aload_n X dL_law_1173 rfl 3 rfl ?_
  refine ol_callW X hst9 (As := [.ref (ak 0), .int (xs (i + 1).toNatClampNeg), .ref ao]) (S := []) (mL_purse l hst9 D cI cZ cJ ak ao (xs (i + 1).toNatClampNeg)) gL_law_L_purse rfl rfl rfl hL_purse ⟨by decide, by decide⟩ rfl rfl (Nat.le_of_ble_eq_true rfl) dL_law_1174 (by omega) (fun r148 k148 f148 => ?_)
  refine ol_istore X (L2 := [(5, .int r148), (0, .ref b), (1, .ref (ak 0)), (2, .ref (am 0)), (3, .ref ao), (4, .int i)]) dL_law_1177 (by decide) rfl ?_
  refine ol_aload_n X dL_law_1179 rfl 3 rfl ?_
  refine ol_aload_n X dL_law_1180 rfl 1 rfl ?_
  refine ol_iload X dL_law_1181 5 rfl ?_
  refine ol_iconst X (v := 1) dL_law_1183 (by decide) ?_
  refine ol_iadd X dL_law_1184 ?_
  refine ol_sld X dL_law_1185 (fun g149 => ?_)
  refine ol_callM X (As := [.int (xs (i + 1).toNatClampNeg)]) (S := []) (mX1_purse l hst9 D cI cZ am (xs (i + 1).toNatClampNeg)) gL_law_X1_purse rfl rfl rfl hX1_purse ⟨by decide, by decide⟩ rfl rfl (Nat.le_of_ble_eq_true rfl) dL_law_1186 (by omega) (fun r150 s150 => ?_)
  refine ol_istore X (L2 := [(6, .int r150), (5, .int r148), (0, .ref b), (1, .ref (ak 0)), (2, .ref (am 0)), (3, .ref ao), (4, .int i)]) dL_law_1189 (by decide) rfl ?_
  refine ol_aload_n X dL_law_1191 rfl 4 rfl ?_
  refine ol_callM X (As := []) (S := []) (mX1_thrown l hst9 D cI cZ am) gL_law_X1_thrown rfl rfl rfl hX1_thrown ⟨by decide, by decide⟩ rfl rfl (Nat.le_of_ble_eq_true rfl) dL_law_1192 (by omega) (fun r151 s151 => ?_)
  refine ol_iload X dL_law_1195 1 rfl ?_
  refine ol_icmp_eq X (tgt := 1202) dL_law_1197 (by decide) (fun q152 => ?_) (fun q152 => ?_)
  · refine ol_iload X dL_law_1202 1 rfl ?_
    refine ol_if_ne X (tgt := 1219) dL_law_1204 (by decide) (fun q153 => ?_) (fun q153 => ?_)
    · refine ol_goto X (tgt := 1548) dL_law_1219 (by decide) ?_
      exact ol_sub X [2, 3, 4, 5, 6] (L2 := [(0, .ref b), (1, .ref (ak 0)), (2, .ref (am 0)), (3, .ref ao), (4, .int i)]) rfl (hκ _ k148 s151 f148 (by omega))
    · refine ol_aload_n X dL_law_1207 rfl 5 rfl ?_
      refine ol_iconst X (v := 0) dL_law_1208 (by decide) ?_
      refine ol_lald X dL_law_1209 ?_
      refine ol_iload X dL_law_1210 0 rfl ?_
      refine ol_i2l X dL_law_1212 ?_
      refine ol_lcmp X dL_law_1213 ?_
      refine ol_if_eq X (tgt := 1219) dL_law_1214 (by decide) (fun q154 => ?_) (fun q154 => ?_)
      · refine ol_goto X (tgt := 1548) dL_law_1219 (by decide) ?_
        exact ol_sub X [2, 3, 4, 5, 6] (L2 := [(0, .ref b), (1, .ref (ak 0)), (2, .ref (am 0)), (3, .ref ao), (4, .int i)]) rfl (hκ _ k148 s151 f148 (by omega))
      · refine ol_iconst X (v := 0) dL_law_1217 (by decide) ?_
        exact ol_ret X (by omega) dL_law_1218
  · refine ol_iconst X (v := 0) dL_law_1200 (by decide) ?_
    exact ol_ret X (by omega) dL_law_1201
def FLc_1222 (xs : Nat → Int32) (N : Nat) (κ : ST → ST → (Nat → Int64) → Option Int32) (i : Int32) (sk sm : ST) (f : Nat → Int64) : Option Int32 := gdL (oz_in (i + 1) N) (bw Int32.toInt64 [(1, 1)] f (FX0_faults (xs (i + 1).toNatClampNeg) sk) (fun r156 k156 f156 => gdL (oz_in (i + 1) N) (bM (FX1_faults (xs (i + 1).toNatClampNeg) sm) (fun r158 s158 => bM (FX1_thrown s158) (fun r159 s159 => (if r159 = r156 then (if r156 = 0 then (if lg_cmp (f156 0) r158.toInt64 = 0 then κ k156 s159 f156 else some 0) else κ k156 s159 f156) else some 0))))))
set_option maxHeartbeats 4000000 in
set_option maxRecDepth 100000 in
theorem lc_1222 (X : oL_E p l e s m b below meth c N xs D cI cZ cJ ak am ao A GL) (hst9 : l.stackTraces = false) (κ : ST → ST → (Nat → Int64) → Option Int32) (i : Int32) (K0 : Nat) (hK0 : K0 ≤ 1024) (hκ : ∀ (k : Nat) (sk sm : ST) (f : Nat → Int64), k ≤ K0 → GL k 1548 [(0, .ref b), (1, .ref (ak 0)), (2, .ref (am 0)), (3, .ref ao), (4, .int i)] [] sk sm f (κ sk sm f)) (k : Nat) (hk9 : k + 2 ≤ K0) : GL k 1222 [(0, .ref b), (1, .ref (ak 0)), (2, .ref (am 0)), (3, .ref ao), (4, .int i)] [] sk sm f (FLc_1222 xs N κ i sk sm f) := by
  unfold FLc_1222
  refine ol_aload_n X dL_law_1222 rfl 1 rfl ?_
  refine ol_aload_n X dL_law_1223 rfl 0 rfl ?_
  refine ol_iload X dL_law_1224 4 rfl ?_
  refine ol_iconst X (v := 1) dL_law_1226 (by decide) ?_
  refine ol_iadd X dL_law_1227 ?_
  refine ol_sld X dL_law_1228 (fun g155 => ?_)
  refine ol_aload_n X dL_law_1229 rfl 3 rfl ?_
  refine ol_callW X hst9 (As := [.ref (ak 0), .int (xs (i + 1).toNatClampNeg), .ref ao]) (S := []) (mL_faults l hst9 D cI cZ cJ ak ao (xs (i + 1).toNatClampNeg)) gL_law_L_faults rfl rfl rfl hL_faults ⟨by decide, by decide⟩ rfl rfl (Nat.le_of_ble_eq_true rfl) dL_law_1230 (by omega) (fun r156 k156 f156 => ?_)
  refine ol_istore X (L2 := [(5, .int r156), (0, .ref b), (1, .ref (ak 0)), (2, .ref (am 0)), (3, .ref ao), (4, .int i)]) dL_law_1233 (by decide) rfl ?_
  refine ol_aload_n X dL_law_1235 rfl 3 rfl ?_
  refine ol_aload_n X dL_law_1236 rfl 1 rfl ?_
  refine ol_iload X dL_law_1237 5 rfl ?_
  refine ol_iconst X (v := 1) dL_law_1239 (by decide) ?_
  refine ol_iadd X dL_law_1240 ?_
  refine ol_sld X dL_law_1241 (fun g157 => ?_)
  refine ol_callM X (As := [.int (xs (i + 1).toNatClampNeg)]) (S := []) (mX1_faults l hst9 D cI cZ am (xs (i + 1).toNatClampNeg)) gL_law_X1_faults rfl rfl rfl hX1_faults ⟨by decide, by decide⟩ rfl rfl (Nat.le_of_ble_eq_true rfl) dL_law_1242 (by omega) (fun r158 s158 => ?_)
  refine ol_istore X (L2 := [(6, .int r158), (5, .int r156), (0, .ref b), (1, .ref (ak 0)), (2, .ref (am 0)), (3, .ref ao), (4, .int i)]) dL_law_1245 (by decide) rfl ?_
  refine ol_aload_n X dL_law_1247 rfl 4 rfl ?_
  refine ol_callM X (As := []) (S := []) (mX1_thrown l hst9 D cI cZ am) gL_law_X1_thrown rfl rfl rfl hX1_thrown ⟨by decide, by decide⟩ rfl rfl (Nat.le_of_ble_eq_true rfl) dL_law_1248 (by omega) (fun r159 s159 => ?_)
  refine ol_iload X dL_law_1251 1 rfl ?_
  refine ol_icmp_eq X (tgt := 1258) dL_law_1253 (by decide) (fun q160 => ?_) (fun q160 => ?_)
  · refine ol_iload X dL_law_1258 1 rfl ?_
    refine ol_if_ne X (tgt := 1275) dL_law_1260 (by decide) (fun q161 => ?_) (fun q161 => ?_)
    · refine ol_goto X (tgt := 1548) dL_law_1275 (by decide) ?_
      exact ol_sub X [2, 3, 4, 5, 6] (L2 := [(0, .ref b), (1, .ref (ak 0)), (2, .ref (am 0)), (3, .ref ao), (4, .int i)]) rfl (hκ _ k156 s159 f156 (by omega))
    · refine ol_aload_n X dL_law_1263 rfl 5 rfl ?_
      refine ol_iconst X (v := 0) dL_law_1264 (by decide) ?_
      refine ol_lald X dL_law_1265 ?_
      refine ol_iload X dL_law_1266 0 rfl ?_
      refine ol_i2l X dL_law_1268 ?_
      refine ol_lcmp X dL_law_1269 ?_
      refine ol_if_eq X (tgt := 1275) dL_law_1270 (by decide) (fun q162 => ?_) (fun q162 => ?_)
      · refine ol_goto X (tgt := 1548) dL_law_1275 (by decide) ?_
        exact ol_sub X [2, 3, 4, 5, 6] (L2 := [(0, .ref b), (1, .ref (ak 0)), (2, .ref (am 0)), (3, .ref ao), (4, .int i)]) rfl (hκ _ k156 s159 f156 (by omega))
      · refine ol_iconst X (v := 0) dL_law_1273 (by decide) ?_
        exact ol_ret X (by omega) dL_law_1274
  · refine ol_iconst X (v := 0) dL_law_1256 (by decide) ?_
    exact ol_ret X (by omega) dL_law_1257
def FLc_1278 (xs : Nat → Int32) (N : Nat) (κ : ST → ST → (Nat → Int64) → Option Int32) (i : Int32) (sk sm : ST) (f : Nat → Int64) : Option Int32 := bM (FX0_loans sk) (fun r163 s163 => bM (FX1_loans sm) (fun r164 s164 => (if r163 = r164 then κ s163 s164 f else some 0)))
set_option maxHeartbeats 4000000 in
set_option maxRecDepth 100000 in
theorem lc_1278 (X : oL_E p l e s m b below meth c N xs D cI cZ cJ ak am ao A GL) (hst9 : l.stackTraces = false) (κ : ST → ST → (Nat → Int64) → Option Int32) (i : Int32) (K0 : Nat) (hK0 : K0 ≤ 1024) (hκ : ∀ (k : Nat) (sk sm : ST) (f : Nat → Int64), k ≤ K0 → GL k 1548 [(0, .ref b), (1, .ref (ak 0)), (2, .ref (am 0)), (3, .ref ao), (4, .int i)] [] sk sm f (κ sk sm f)) (k : Nat) (hk9 : k + 2 ≤ K0) : GL k 1278 [(0, .ref b), (1, .ref (ak 0)), (2, .ref (am 0)), (3, .ref ao), (4, .int i)] [] sk sm f (FLc_1278 xs N κ i sk sm f) := by
  unfold FLc_1278
  refine ol_aload_n X dL_law_1278 rfl 1 rfl ?_
  refine ol_callK X (As := []) (S := []) (mX0_loans l hst9 D cI cZ ak) gL_law_X0_loans rfl rfl rfl hX0_loans ⟨by decide, by decide⟩ rfl rfl (Nat.le_of_ble_eq_true rfl) dL_law_1279 (by omega) (fun r163 s163 => ?_)
  refine ol_aload_n X dL_law_1282 rfl 2 rfl ?_
  refine ol_callM X (As := []) (S := [.int r163]) (mX1_loans l hst9 D cI cZ am) gL_law_X1_loans rfl rfl rfl hX1_loans ⟨by decide, by decide⟩ rfl rfl (Nat.le_of_ble_eq_true rfl) dL_law_1283 (by omega) (fun r164 s164 => ?_)
  refine ol_icmp_eq X (tgt := 1548) dL_law_1286 (by decide) (fun q165 => ?_) (fun q165 => ?_)
  · exact ol_sub X [0, 1, 2, 3, 4] (L2 := [(0, .ref b), (1, .ref (ak 0)), (2, .ref (am 0)), (3, .ref ao), (4, .int i)]) rfl (hκ _ s163 s164 f (by omega))
  · refine ol_iconst X (v := 0) dL_law_1289 (by decide) ?_
    exact ol_ret X (by omega) dL_law_1290
def FLc_1291 (xs : Nat → Int32) (N : Nat) (κ : ST → ST → (Nat → Int64) → Option Int32) (i : Int32) (sk sm : ST) (f : Nat → Int64) : Option Int32 := gdL (oz_in (i + 1) N) (bw ow_bit [(1, 1)] f (FX0_lasts (xs (i + 1).toNatClampNeg) sk) (fun r167 k167 f167 => gdL (oz_in (i + 1) N) (bM (FX1_lasts (xs (i + 1).toNatClampNeg) sm) (fun r169 s169 => bM (FX1_thrown s169) (fun r170 s170 => (if r170 = r167 then (if r167 = 0 then (if r169 = 0 then (if lg_cmp (f167 0) 0 = 0 then κ k167 s170 f167 else some 0) else (if lg_cmp (f167 0) 1 = 0 then κ k167 s170 f167 else some 0)) else κ k167 s170 f167) else some 0))))))
set_option maxHeartbeats 4000000 in
set_option maxRecDepth 100000 in
theorem lc_1291 (X : oL_E p l e s m b below meth c N xs D cI cZ cJ ak am ao A GL) (hst9 : l.stackTraces = false) (κ : ST → ST → (Nat → Int64) → Option Int32) (i : Int32) (K0 : Nat) (hK0 : K0 ≤ 1024) (hκ : ∀ (k : Nat) (sk sm : ST) (f : Nat → Int64), k ≤ K0 → GL k 1548 [(0, .ref b), (1, .ref (ak 0)), (2, .ref (am 0)), (3, .ref ao), (4, .int i)] [] sk sm f (κ sk sm f)) (k : Nat) (hk9 : k + 2 ≤ K0) : GL k 1291 [(0, .ref b), (1, .ref (ak 0)), (2, .ref (am 0)), (3, .ref ao), (4, .int i)] [] sk sm f (FLc_1291 xs N κ i sk sm f) := by
  unfold FLc_1291
  refine ol_aload_n X dL_law_1291 rfl 1 rfl ?_
  refine ol_aload_n X dL_law_1292 rfl 0 rfl ?_
  refine ol_iload X dL_law_1293 4 rfl ?_
  refine ol_iconst X (v := 1) dL_law_1295 (by decide) ?_
  refine ol_iadd X dL_law_1296 ?_
  refine ol_sld X dL_law_1297 (fun g166 => ?_)
  refine ol_aload_n X dL_law_1298 rfl 3 rfl ?_
  refine ol_callW X hst9 (As := [.ref (ak 0), .int (xs (i + 1).toNatClampNeg), .ref ao]) (S := []) (mL_lasts l hst9 D cI cZ cJ ak ao (xs (i + 1).toNatClampNeg)) gL_law_L_lasts rfl rfl rfl hL_lasts ⟨by decide, by decide⟩ rfl rfl (Nat.le_of_ble_eq_true rfl) dL_law_1299 (by omega) (fun r167 k167 f167 => ?_)
  refine ol_istore X (L2 := [(5, .int r167), (0, .ref b), (1, .ref (ak 0)), (2, .ref (am 0)), (3, .ref ao), (4, .int i)]) dL_law_1302 (by decide) rfl ?_
  refine ol_aload_n X dL_law_1304 rfl 3 rfl ?_
  refine ol_aload_n X dL_law_1305 rfl 1 rfl ?_
  refine ol_iload X dL_law_1306 5 rfl ?_
  refine ol_iconst X (v := 1) dL_law_1308 (by decide) ?_
  refine ol_iadd X dL_law_1309 ?_
  refine ol_sld X dL_law_1310 (fun g168 => ?_)
  refine ol_callM X (As := [.int (xs (i + 1).toNatClampNeg)]) (S := []) (mX1_lasts l hst9 D cI cZ am (xs (i + 1).toNatClampNeg)) gL_law_X1_lasts rfl rfl rfl hX1_lasts ⟨by decide, by decide⟩ rfl rfl (Nat.le_of_ble_eq_true rfl) dL_law_1311 (by omega) (fun r169 s169 => ?_)
  refine ol_istore X (L2 := [(6, .int r169), (5, .int r167), (0, .ref b), (1, .ref (ak 0)), (2, .ref (am 0)), (3, .ref ao), (4, .int i)]) dL_law_1314 (by decide) rfl ?_
  refine ol_aload_n X dL_law_1316 rfl 4 rfl ?_
  refine ol_callM X (As := []) (S := []) (mX1_thrown l hst9 D cI cZ am) gL_law_X1_thrown rfl rfl rfl hX1_thrown ⟨by decide, by decide⟩ rfl rfl (Nat.le_of_ble_eq_true rfl) dL_law_1317 (by omega) (fun r170 s170 => ?_)
  refine ol_iload X dL_law_1320 1 rfl ?_
  refine ol_icmp_eq X (tgt := 1327) dL_law_1322 (by decide) (fun q171 => ?_) (fun q171 => ?_)
  · refine ol_iload X dL_law_1327 1 rfl ?_
    refine ol_if_ne X (tgt := 1351) dL_law_1329 (by decide) (fun q172 => ?_) (fun q172 => ?_)
    · refine ol_goto X (tgt := 1548) dL_law_1351 (by decide) ?_
      exact ol_sub X [2, 3, 4, 5, 6] (L2 := [(0, .ref b), (1, .ref (ak 0)), (2, .ref (am 0)), (3, .ref ao), (4, .int i)]) rfl (hκ _ k167 s170 f167 (by omega))
    · refine ol_aload_n X dL_law_1332 rfl 5 rfl ?_
      refine ol_iconst X (v := 0) dL_law_1333 (by decide) ?_
      refine ol_lald X dL_law_1334 ?_
      refine ol_iload X dL_law_1335 0 rfl ?_
      refine ol_if_eq X (tgt := 1344) dL_law_1337 (by decide) (fun q173 => ?_) (fun q173 => ?_)
      · refine ol_lconst X (v := 0) dL_law_1344 (by decide) ?_
        refine ol_lcmp X dL_law_1345 ?_
        refine ol_if_eq X (tgt := 1351) dL_law_1346 (by decide) (fun q174 => ?_) (fun q174 => ?_)
        · refine ol_goto X (tgt := 1548) dL_law_1351 (by decide) ?_
          exact ol_sub X [2, 3, 4, 5, 6] (L2 := [(0, .ref b), (1, .ref (ak 0)), (2, .ref (am 0)), (3, .ref ao), (4, .int i)]) rfl (hκ _ k167 s170 f167 (by omega))
        · refine ol_iconst X (v := 0) dL_law_1349 (by decide) ?_
          exact ol_ret X (by omega) dL_law_1350
      · refine ol_lconst X (v := 1) dL_law_1340 (by decide) ?_
        refine ol_goto X (tgt := 1345) dL_law_1341 (by decide) ?_
        refine ol_lcmp X dL_law_1345 ?_
        refine ol_if_eq X (tgt := 1351) dL_law_1346 (by decide) (fun q175 => ?_) (fun q175 => ?_)
        · refine ol_goto X (tgt := 1548) dL_law_1351 (by decide) ?_
          exact ol_sub X [2, 3, 4, 5, 6] (L2 := [(0, .ref b), (1, .ref (ak 0)), (2, .ref (am 0)), (3, .ref ao), (4, .int i)]) rfl (hκ _ k167 s170 f167 (by omega))
        · refine ol_iconst X (v := 0) dL_law_1349 (by decide) ?_
          exact ol_ret X (by omega) dL_law_1350
  · refine ol_iconst X (v := 0) dL_law_1325 (by decide) ?_
    exact ol_ret X (by omega) dL_law_1326
def FLc_1354 (xs : Nat → Int32) (N : Nat) (κ : ST → ST → (Nat → Int64) → Option Int32) (i : Int32) (sk sm : ST) (f : Nat → Int64) : Option Int32 := gdL (oz_in (i + 1) N) (bw Int32.toInt64 [(1, 1)] f (FX0_partiesOf (xs (i + 1).toNatClampNeg) sk) (fun r177 k177 f177 => gdL (oz_in (i + 1) N) (bM (FX1_partiesOf (xs (i + 1).toNatClampNeg) sm) (fun r179 s179 => bM (FX1_thrown s179) (fun r180 s180 => (if r180 = r177 then (if r177 = 0 then (if lg_cmp (f177 0) r179.toInt64 = 0 then κ k177 s180 f177 else some 0) else κ k177 s180 f177) else some 0))))))
set_option maxHeartbeats 4000000 in
set_option maxRecDepth 100000 in
theorem lc_1354 (X : oL_E p l e s m b below meth c N xs D cI cZ cJ ak am ao A GL) (hst9 : l.stackTraces = false) (κ : ST → ST → (Nat → Int64) → Option Int32) (i : Int32) (K0 : Nat) (hK0 : K0 ≤ 1024) (hκ : ∀ (k : Nat) (sk sm : ST) (f : Nat → Int64), k ≤ K0 → GL k 1548 [(0, .ref b), (1, .ref (ak 0)), (2, .ref (am 0)), (3, .ref ao), (4, .int i)] [] sk sm f (κ sk sm f)) (k : Nat) (hk9 : k + 2 ≤ K0) : GL k 1354 [(0, .ref b), (1, .ref (ak 0)), (2, .ref (am 0)), (3, .ref ao), (4, .int i)] [] sk sm f (FLc_1354 xs N κ i sk sm f) := by
  unfold FLc_1354
  refine ol_aload_n X dL_law_1354 rfl 1 rfl ?_
  refine ol_aload_n X dL_law_1355 rfl 0 rfl ?_
  refine ol_iload X dL_law_1356 4 rfl ?_
  refine ol_iconst X (v := 1) dL_law_1358 (by decide) ?_
  refine ol_iadd X dL_law_1359 ?_
  refine ol_sld X dL_law_1360 (fun g176 => ?_)
  refine ol_aload_n X dL_law_1361 rfl 3 rfl ?_
  refine ol_callW X hst9 (As := [.ref (ak 0), .int (xs (i + 1).toNatClampNeg), .ref ao]) (S := []) (mL_partiesOf l hst9 D cI cZ cJ ak ao (xs (i + 1).toNatClampNeg)) gL_law_L_partiesOf rfl rfl rfl hL_partiesOf ⟨by decide, by decide⟩ rfl rfl (Nat.le_of_ble_eq_true rfl) dL_law_1362 (by omega) (fun r177 k177 f177 => ?_)
  refine ol_istore X (L2 := [(5, .int r177), (0, .ref b), (1, .ref (ak 0)), (2, .ref (am 0)), (3, .ref ao), (4, .int i)]) dL_law_1365 (by decide) rfl ?_
  refine ol_aload_n X dL_law_1367 rfl 3 rfl ?_
  refine ol_aload_n X dL_law_1368 rfl 1 rfl ?_
  refine ol_iload X dL_law_1369 5 rfl ?_
  refine ol_iconst X (v := 1) dL_law_1371 (by decide) ?_
  refine ol_iadd X dL_law_1372 ?_
  refine ol_sld X dL_law_1373 (fun g178 => ?_)
  refine ol_callM X (As := [.int (xs (i + 1).toNatClampNeg)]) (S := []) (mX1_partiesOf l hst9 D cI cZ am (xs (i + 1).toNatClampNeg)) gL_law_X1_partiesOf rfl rfl rfl hX1_partiesOf ⟨by decide, by decide⟩ rfl rfl (Nat.le_of_ble_eq_true rfl) dL_law_1374 (by omega) (fun r179 s179 => ?_)
  refine ol_istore X (L2 := [(6, .int r179), (5, .int r177), (0, .ref b), (1, .ref (ak 0)), (2, .ref (am 0)), (3, .ref ao), (4, .int i)]) dL_law_1377 (by decide) rfl ?_
  refine ol_aload_n X dL_law_1379 rfl 4 rfl ?_
  refine ol_callM X (As := []) (S := []) (mX1_thrown l hst9 D cI cZ am) gL_law_X1_thrown rfl rfl rfl hX1_thrown ⟨by decide, by decide⟩ rfl rfl (Nat.le_of_ble_eq_true rfl) dL_law_1380 (by omega) (fun r180 s180 => ?_)
  refine ol_iload X dL_law_1383 1 rfl ?_
  refine ol_icmp_eq X (tgt := 1390) dL_law_1385 (by decide) (fun q181 => ?_) (fun q181 => ?_)
  · refine ol_iload X dL_law_1390 1 rfl ?_
    refine ol_if_ne X (tgt := 1407) dL_law_1392 (by decide) (fun q182 => ?_) (fun q182 => ?_)
    · refine ol_goto X (tgt := 1548) dL_law_1407 (by decide) ?_
      exact ol_sub X [2, 3, 4, 5, 6] (L2 := [(0, .ref b), (1, .ref (ak 0)), (2, .ref (am 0)), (3, .ref ao), (4, .int i)]) rfl (hκ _ k177 s180 f177 (by omega))
    · refine ol_aload_n X dL_law_1395 rfl 5 rfl ?_
      refine ol_iconst X (v := 0) dL_law_1396 (by decide) ?_
      refine ol_lald X dL_law_1397 ?_
      refine ol_iload X dL_law_1398 0 rfl ?_
      refine ol_i2l X dL_law_1400 ?_
      refine ol_lcmp X dL_law_1401 ?_
      refine ol_if_eq X (tgt := 1407) dL_law_1402 (by decide) (fun q183 => ?_) (fun q183 => ?_)
      · refine ol_goto X (tgt := 1548) dL_law_1407 (by decide) ?_
        exact ol_sub X [2, 3, 4, 5, 6] (L2 := [(0, .ref b), (1, .ref (ak 0)), (2, .ref (am 0)), (3, .ref ao), (4, .int i)]) rfl (hκ _ k177 s180 f177 (by omega))
      · refine ol_iconst X (v := 0) dL_law_1405 (by decide) ?_
        exact ol_ret X (by omega) dL_law_1406
  · refine ol_iconst X (v := 0) dL_law_1388 (by decide) ?_
    exact ol_ret X (by omega) dL_law_1389
def FLc_1410 (xs : Nat → Int32) (N : Nat) (κ : ST → ST → (Nat → Int64) → Option Int32) (i : Int32) (sk sm : ST) (f : Nat → Int64) : Option Int32 := gdL (oz_in (i + 1) N) (bw Int32.toInt64 [(1, 1)] f (FX0_interest (xs (i + 1).toNatClampNeg) sk) (fun r185 k185 f185 => gdL (oz_in (i + 1) N) (bM (FX1_interest (xs (i + 1).toNatClampNeg) sm) (fun r187 s187 => bM (FX1_thrown s187) (fun r188 s188 => (if r188 = r185 then (if r185 = 0 then (if lg_cmp (f185 0) r187.toInt64 = 0 then κ k185 s188 f185 else some 0) else κ k185 s188 f185) else some 0))))))
set_option maxHeartbeats 4000000 in
set_option maxRecDepth 100000 in
theorem lc_1410 (X : oL_E p l e s m b below meth c N xs D cI cZ cJ ak am ao A GL) (hst9 : l.stackTraces = false) (κ : ST → ST → (Nat → Int64) → Option Int32) (i : Int32) (K0 : Nat) (hK0 : K0 ≤ 1024) (hκ : ∀ (k : Nat) (sk sm : ST) (f : Nat → Int64), k ≤ K0 → GL k 1548 [(0, .ref b), (1, .ref (ak 0)), (2, .ref (am 0)), (3, .ref ao), (4, .int i)] [] sk sm f (κ sk sm f)) (k : Nat) (hk9 : k + 2 ≤ K0) : GL k 1410 [(0, .ref b), (1, .ref (ak 0)), (2, .ref (am 0)), (3, .ref ao), (4, .int i)] [] sk sm f (FLc_1410 xs N κ i sk sm f) := by
  unfold FLc_1410
  refine ol_aload_n X dL_law_1410 rfl 1 rfl ?_
  refine ol_aload_n X dL_law_1411 rfl 0 rfl ?_
  refine ol_iload X dL_law_1412 4 rfl ?_
  refine ol_iconst X (v := 1) dL_law_1414 (by decide) ?_
  refine ol_iadd X dL_law_1415 ?_
  refine ol_sld X dL_law_1416 (fun g184 => ?_)
  refine ol_aload_n X dL_law_1417 rfl 3 rfl ?_
  refine ol_callW X hst9 (As := [.ref (ak 0), .int (xs (i + 1).toNatClampNeg), .ref ao]) (S := []) (mL_interest l hst9 D cI cZ cJ ak ao (xs (i + 1).toNatClampNeg)) gL_law_L_interest rfl rfl rfl hL_interest ⟨by decide, by decide⟩ rfl rfl (Nat.le_of_ble_eq_true rfl) dL_law_1418 (by omega) (fun r185 k185 f185 => ?_)
  refine ol_istore X (L2 := [(5, .int r185), (0, .ref b), (1, .ref (ak 0)), (2, .ref (am 0)), (3, .ref ao), (4, .int i)]) dL_law_1421 (by decide) rfl ?_
  refine ol_aload_n X dL_law_1423 rfl 3 rfl ?_
  refine ol_aload_n X dL_law_1424 rfl 1 rfl ?_
  refine ol_iload X dL_law_1425 5 rfl ?_
  refine ol_iconst X (v := 1) dL_law_1427 (by decide) ?_
  refine ol_iadd X dL_law_1428 ?_
  refine ol_sld X dL_law_1429 (fun g186 => ?_)
  refine ol_callM X (As := [.int (xs (i + 1).toNatClampNeg)]) (S := []) (mX1_interest l hst9 D cI cZ am (xs (i + 1).toNatClampNeg)) gL_law_X1_interest rfl rfl rfl hX1_interest ⟨by decide, by decide⟩ rfl rfl (Nat.le_of_ble_eq_true rfl) dL_law_1430 (by omega) (fun r187 s187 => ?_)
  refine ol_istore X (L2 := [(6, .int r187), (5, .int r185), (0, .ref b), (1, .ref (ak 0)), (2, .ref (am 0)), (3, .ref ao), (4, .int i)]) dL_law_1433 (by decide) rfl ?_
  refine ol_aload_n X dL_law_1435 rfl 4 rfl ?_
  refine ol_callM X (As := []) (S := []) (mX1_thrown l hst9 D cI cZ am) gL_law_X1_thrown rfl rfl rfl hX1_thrown ⟨by decide, by decide⟩ rfl rfl (Nat.le_of_ble_eq_true rfl) dL_law_1436 (by omega) (fun r188 s188 => ?_)
  refine ol_iload X dL_law_1439 1 rfl ?_
  refine ol_icmp_eq X (tgt := 1446) dL_law_1441 (by decide) (fun q189 => ?_) (fun q189 => ?_)
  · refine ol_iload X dL_law_1446 1 rfl ?_
    refine ol_if_ne X (tgt := 1463) dL_law_1448 (by decide) (fun q190 => ?_) (fun q190 => ?_)
    · refine ol_goto X (tgt := 1548) dL_law_1463 (by decide) ?_
      exact ol_sub X [2, 3, 4, 5, 6] (L2 := [(0, .ref b), (1, .ref (ak 0)), (2, .ref (am 0)), (3, .ref ao), (4, .int i)]) rfl (hκ _ k185 s188 f185 (by omega))
    · refine ol_aload_n X dL_law_1451 rfl 5 rfl ?_
      refine ol_iconst X (v := 0) dL_law_1452 (by decide) ?_
      refine ol_lald X dL_law_1453 ?_
      refine ol_iload X dL_law_1454 0 rfl ?_
      refine ol_i2l X dL_law_1456 ?_
      refine ol_lcmp X dL_law_1457 ?_
      refine ol_if_eq X (tgt := 1463) dL_law_1458 (by decide) (fun q191 => ?_) (fun q191 => ?_)
      · refine ol_goto X (tgt := 1548) dL_law_1463 (by decide) ?_
        exact ol_sub X [2, 3, 4, 5, 6] (L2 := [(0, .ref b), (1, .ref (ak 0)), (2, .ref (am 0)), (3, .ref ao), (4, .int i)]) rfl (hκ _ k185 s188 f185 (by omega))
      · refine ol_iconst X (v := 0) dL_law_1461 (by decide) ?_
        exact ol_ret X (by omega) dL_law_1462
  · refine ol_iconst X (v := 0) dL_law_1444 (by decide) ?_
    exact ol_ret X (by omega) dL_law_1445
def FLc_1466 (xs : Nat → Int32) (N : Nat) (κ : ST → ST → (Nat → Int64) → Option Int32) (i : Int32) (sk sm : ST) (f : Nat → Int64) : Option Int32 := bM (FX0_head sk) (fun r192 s192 => bM (FX1_head sm) (fun r193 s193 => (if r192 = r193 then κ s192 s193 f else some 0)))
set_option maxHeartbeats 4000000 in
set_option maxRecDepth 100000 in
theorem lc_1466 (X : oL_E p l e s m b below meth c N xs D cI cZ cJ ak am ao A GL) (hst9 : l.stackTraces = false) (κ : ST → ST → (Nat → Int64) → Option Int32) (i : Int32) (K0 : Nat) (hK0 : K0 ≤ 1024) (hκ : ∀ (k : Nat) (sk sm : ST) (f : Nat → Int64), k ≤ K0 → GL k 1548 [(0, .ref b), (1, .ref (ak 0)), (2, .ref (am 0)), (3, .ref ao), (4, .int i)] [] sk sm f (κ sk sm f)) (k : Nat) (hk9 : k + 2 ≤ K0) : GL k 1466 [(0, .ref b), (1, .ref (ak 0)), (2, .ref (am 0)), (3, .ref ao), (4, .int i)] [] sk sm f (FLc_1466 xs N κ i sk sm f) := by
  unfold FLc_1466
  refine ol_aload_n X dL_law_1466 rfl 1 rfl ?_
  refine ol_callK X (As := []) (S := []) (mX0_head l hst9 D cI cZ ak) gL_law_X0_head rfl rfl rfl hX0_head ⟨by decide, by decide⟩ rfl rfl (Nat.le_of_ble_eq_true rfl) dL_law_1467 (by omega) (fun r192 s192 => ?_)
  refine ol_aload_n X dL_law_1470 rfl 2 rfl ?_
  refine ol_callM X (As := []) (S := [.int r192]) (mX1_head l hst9 D cI cZ am) gL_law_X1_head rfl rfl rfl hX1_head ⟨by decide, by decide⟩ rfl rfl (Nat.le_of_ble_eq_true rfl) dL_law_1471 (by omega) (fun r193 s193 => ?_)
  refine ol_icmp_eq X (tgt := 1548) dL_law_1474 (by decide) (fun q194 => ?_) (fun q194 => ?_)
  · exact ol_sub X [0, 1, 2, 3, 4] (L2 := [(0, .ref b), (1, .ref (ak 0)), (2, .ref (am 0)), (3, .ref ao), (4, .int i)]) rfl (hκ _ s192 s193 f (by omega))
  · refine ol_iconst X (v := 0) dL_law_1477 (by decide) ?_
    exact ol_ret X (by omega) dL_law_1478
def FLc_1479 (xs : Nat → Int32) (N : Nat) (κ : ST → ST → (Nat → Int64) → Option Int32) (i : Int32) (sk sm : ST) (f : Nat → Int64) : Option Int32 := bM (FX0_requests sk) (fun r195 s195 => bM (FX1_requests sm) (fun r196 s196 => (if r195 = r196 then κ s195 s196 f else some 0)))
set_option maxHeartbeats 4000000 in
set_option maxRecDepth 100000 in
theorem lc_1479 (X : oL_E p l e s m b below meth c N xs D cI cZ cJ ak am ao A GL) (hst9 : l.stackTraces = false) (κ : ST → ST → (Nat → Int64) → Option Int32) (i : Int32) (K0 : Nat) (hK0 : K0 ≤ 1024) (hκ : ∀ (k : Nat) (sk sm : ST) (f : Nat → Int64), k ≤ K0 → GL k 1548 [(0, .ref b), (1, .ref (ak 0)), (2, .ref (am 0)), (3, .ref ao), (4, .int i)] [] sk sm f (κ sk sm f)) (k : Nat) (hk9 : k + 2 ≤ K0) : GL k 1479 [(0, .ref b), (1, .ref (ak 0)), (2, .ref (am 0)), (3, .ref ao), (4, .int i)] [] sk sm f (FLc_1479 xs N κ i sk sm f) := by
  unfold FLc_1479
  refine ol_aload_n X dL_law_1479 rfl 1 rfl ?_
  refine ol_callK X (As := []) (S := []) (mX0_requests l hst9 D cI cZ ak) gL_law_X0_requests rfl rfl rfl hX0_requests ⟨by decide, by decide⟩ rfl rfl (Nat.le_of_ble_eq_true rfl) dL_law_1480 (by omega) (fun r195 s195 => ?_)
  refine ol_aload_n X dL_law_1483 rfl 2 rfl ?_
  refine ol_callM X (As := []) (S := [.int r195]) (mX1_requests l hst9 D cI cZ am) gL_law_X1_requests rfl rfl rfl hX1_requests ⟨by decide, by decide⟩ rfl rfl (Nat.le_of_ble_eq_true rfl) dL_law_1484 (by omega) (fun r196 s196 => ?_)
  refine ol_icmp_eq X (tgt := 1548) dL_law_1487 (by decide) (fun q197 => ?_) (fun q197 => ?_)
  · exact ol_sub X [0, 1, 2, 3, 4] (L2 := [(0, .ref b), (1, .ref (ak 0)), (2, .ref (am 0)), (3, .ref ao), (4, .int i)]) rfl (hκ _ s195 s196 f (by omega))
  · refine ol_iconst X (v := 0) dL_law_1490 (by decide) ?_
    exact ol_ret X (by omega) dL_law_1491
def FLc_1492 (xs : Nat → Int32) (N : Nat) (κ : ST → ST → (Nat → Int64) → Option Int32) (i : Int32) (sk sm : ST) (f : Nat → Int64) : Option Int32 := gdL (oz_in (i + 1) N) (bw Int32.toInt64 [(1, 1)] f (FX0_requestAt (xs (i + 1).toNatClampNeg) sk) (fun r199 k199 f199 => gdL (oz_in (i + 1) N) (bM (FX1_requestAt (xs (i + 1).toNatClampNeg) sm) (fun r201 s201 => bM (FX1_thrown s201) (fun r202 s202 => (if r202 = r199 then (if r199 = 0 then (if lg_cmp (f199 0) r201.toInt64 = 0 then κ k199 s202 f199 else some 0) else κ k199 s202 f199) else some 0))))))
set_option maxHeartbeats 4000000 in
set_option maxRecDepth 100000 in
theorem lc_1492 (X : oL_E p l e s m b below meth c N xs D cI cZ cJ ak am ao A GL) (hst9 : l.stackTraces = false) (κ : ST → ST → (Nat → Int64) → Option Int32) (i : Int32) (K0 : Nat) (hK0 : K0 ≤ 1024) (hκ : ∀ (k : Nat) (sk sm : ST) (f : Nat → Int64), k ≤ K0 → GL k 1548 [(0, .ref b), (1, .ref (ak 0)), (2, .ref (am 0)), (3, .ref ao), (4, .int i)] [] sk sm f (κ sk sm f)) (k : Nat) (hk9 : k + 2 ≤ K0) : GL k 1492 [(0, .ref b), (1, .ref (ak 0)), (2, .ref (am 0)), (3, .ref ao), (4, .int i)] [] sk sm f (FLc_1492 xs N κ i sk sm f) := by
  unfold FLc_1492
  refine ol_aload_n X dL_law_1492 rfl 1 rfl ?_
  refine ol_aload_n X dL_law_1493 rfl 0 rfl ?_
  refine ol_iload X dL_law_1494 4 rfl ?_
  refine ol_iconst X (v := 1) dL_law_1496 (by decide) ?_
  refine ol_iadd X dL_law_1497 ?_
  refine ol_sld X dL_law_1498 (fun g198 => ?_)
  refine ol_aload_n X dL_law_1499 rfl 3 rfl ?_
  refine ol_callW X hst9 (As := [.ref (ak 0), .int (xs (i + 1).toNatClampNeg), .ref ao]) (S := []) (mL_requestAt l hst9 D cI cZ cJ ak ao (xs (i + 1).toNatClampNeg)) gL_law_L_requestAt rfl rfl rfl hL_requestAt ⟨by decide, by decide⟩ rfl rfl (Nat.le_of_ble_eq_true rfl) dL_law_1500 (by omega) (fun r199 k199 f199 => ?_)
  refine ol_istore X (L2 := [(5, .int r199), (0, .ref b), (1, .ref (ak 0)), (2, .ref (am 0)), (3, .ref ao), (4, .int i)]) dL_law_1503 (by decide) rfl ?_
  refine ol_aload_n X dL_law_1505 rfl 3 rfl ?_
  refine ol_aload_n X dL_law_1506 rfl 1 rfl ?_
  refine ol_iload X dL_law_1507 5 rfl ?_
  refine ol_iconst X (v := 1) dL_law_1509 (by decide) ?_
  refine ol_iadd X dL_law_1510 ?_
  refine ol_sld X dL_law_1511 (fun g200 => ?_)
  refine ol_callM X (As := [.int (xs (i + 1).toNatClampNeg)]) (S := []) (mX1_requestAt l hst9 D cI cZ am (xs (i + 1).toNatClampNeg)) gL_law_X1_requestAt rfl rfl rfl hX1_requestAt ⟨by decide, by decide⟩ rfl rfl (Nat.le_of_ble_eq_true rfl) dL_law_1512 (by omega) (fun r201 s201 => ?_)
  refine ol_istore X (L2 := [(6, .int r201), (5, .int r199), (0, .ref b), (1, .ref (ak 0)), (2, .ref (am 0)), (3, .ref ao), (4, .int i)]) dL_law_1515 (by decide) rfl ?_
  refine ol_aload_n X dL_law_1517 rfl 4 rfl ?_
  refine ol_callM X (As := []) (S := []) (mX1_thrown l hst9 D cI cZ am) gL_law_X1_thrown rfl rfl rfl hX1_thrown ⟨by decide, by decide⟩ rfl rfl (Nat.le_of_ble_eq_true rfl) dL_law_1518 (by omega) (fun r202 s202 => ?_)
  refine ol_iload X dL_law_1521 1 rfl ?_
  refine ol_icmp_eq X (tgt := 1528) dL_law_1523 (by decide) (fun q203 => ?_) (fun q203 => ?_)
  · refine ol_iload X dL_law_1528 1 rfl ?_
    refine ol_if_ne X (tgt := 1545) dL_law_1530 (by decide) (fun q204 => ?_) (fun q204 => ?_)
    · refine ol_goto X (tgt := 1548) dL_law_1545 (by decide) ?_
      exact ol_sub X [2, 3, 4, 5, 6] (L2 := [(0, .ref b), (1, .ref (ak 0)), (2, .ref (am 0)), (3, .ref ao), (4, .int i)]) rfl (hκ _ k199 s202 f199 (by omega))
    · refine ol_aload_n X dL_law_1533 rfl 5 rfl ?_
      refine ol_iconst X (v := 0) dL_law_1534 (by decide) ?_
      refine ol_lald X dL_law_1535 ?_
      refine ol_iload X dL_law_1536 0 rfl ?_
      refine ol_i2l X dL_law_1538 ?_
      refine ol_lcmp X dL_law_1539 ?_
      refine ol_if_eq X (tgt := 1545) dL_law_1540 (by decide) (fun q205 => ?_) (fun q205 => ?_)
      · refine ol_goto X (tgt := 1548) dL_law_1545 (by decide) ?_
        exact ol_sub X [2, 3, 4, 5, 6] (L2 := [(0, .ref b), (1, .ref (ak 0)), (2, .ref (am 0)), (3, .ref ao), (4, .int i)]) rfl (hκ _ k199 s202 f199 (by omega))
      · refine ol_iconst X (v := 0) dL_law_1543 (by decide) ?_
        exact ol_ret X (by omega) dL_law_1544
  · refine ol_iconst X (v := 0) dL_law_1526 (by decide) ?_
    exact ol_ret X (by omega) dL_law_1527
def FL_sw (xs : Nat → Int32) (N : Nat) (κ : ST → ST → (Nat → Int64) → Option Int32) (i x : Int32) (sk sm : ST) (f : Nat → Int64) : Option Int32 := if x = 0 then FLc_164 xs N κ i sk sm f else if x = 1 then FLc_232 xs N κ i sk sm f else if x = 2 then FLc_288 xs N κ i sk sm f else if x = 3 then FLc_344 xs N κ i sk sm f else if x = 4 then FLc_400 xs N κ i sk sm f else if x = 5 then FLc_456 xs N κ i sk sm f else if x = 6 then FLc_524 xs N κ i sk sm f else if x = 7 then FLc_580 xs N κ i sk sm f else if x = 8 then FLc_636 xs N κ i sk sm f else if x = 9 then FLc_649 xs N κ i sk sm f else if x = 10 then FLc_705 xs N κ i sk sm f else if x = 11 then FLc_761 xs N κ i sk sm f else if x = 12 then FLc_817 xs N κ i sk sm f else if x = 13 then FLc_873 xs N κ i sk sm f else if x = 14 then FLc_929 xs N κ i sk sm f else if x = 15 then FLc_942 xs N κ i sk sm f else if x = 16 then FLc_998 xs N κ i sk sm f else if x = 17 then FLc_1054 xs N κ i sk sm f else if x = 18 then FLc_1110 xs N κ i sk sm f else if x = 19 then FLc_1166 xs N κ i sk sm f else if x = 20 then FLc_1222 xs N κ i sk sm f else if x = 21 then FLc_1278 xs N κ i sk sm f else if x = 22 then FLc_1291 xs N κ i sk sm f else if x = 23 then FLc_1354 xs N κ i sk sm f else if x = 24 then FLc_1410 xs N κ i sk sm f else if x = 25 then FLc_1466 xs N κ i sk sm f else if x = 26 then FLc_1479 xs N κ i sk sm f else if x = 27 then FLc_1492 xs N κ i sk sm f else κ sk sm f
def FL_loop (xs : Nat → Int32) (N : Nat) : Nat → Int32 → ST → ST → (Nat → Int64) → Option Int32
  | 0, _, _, _, _ => none
  | n + 1, i, sk, sm, f => if Int32.ofNat N - 3 < i then some 1 else gdL (oz_in i N) (FL_sw xs N (fun sk sm f => FL_loop xs N n (i + 3) sk sm f) i (xs i.toNatClampNeg &&& 31) sk sm f)
set_option maxHeartbeats 4000000 in
set_option maxRecDepth 100000 in
theorem lc_sw (X : oL_E p l e s m b below meth c N xs D cI cZ cJ ak am ao A GL) (hst9 : l.stackTraces = false) (κ : ST → ST → (Nat → Int64) → Option Int32) (i x : Int32) (K0 : Nat) (hK0 : K0 ≤ 1024) (hκ : ∀ (k : Nat) (sk sm : ST) (f : Nat → Int64), k ≤ K0 → GL k 1548 [(0, .ref b), (1, .ref (ak 0)), (2, .ref (am 0)), (3, .ref ao), (4, .int i)] [] sk sm f (κ sk sm f)) (k : Nat) (hk9 : k + 2 ≤ K0) : GL k 39 [(0, .ref b), (1, .ref (ak 0)), (2, .ref (am 0)), (3, .ref ao), (4, .int i)] [.int x] sk sm f (FL_sw xs N κ i x sk sm f) := by
  unfold FL_sw
  refine ol_case X (v := 0) (off := 125) (tgt := 164) dL_law_39 (by decide) (by decide) (by decide) (by decide) (fun _ => lc_164 X hst9 κ i K0 hK0 hκ k hk9) (fun c0 => ?_)
  refine ol_case X (v := 1) (off := 193) (tgt := 232) dL_law_39 (by decide) (by decide) (by decide) (by decide) (fun _ => lc_232 X hst9 κ i K0 hK0 hκ k hk9) (fun c1 => ?_)
  refine ol_case X (v := 2) (off := 249) (tgt := 288) dL_law_39 (by decide) (by decide) (by decide) (by decide) (fun _ => lc_288 X hst9 κ i K0 hK0 hκ k hk9) (fun c2 => ?_)
  refine ol_case X (v := 3) (off := 305) (tgt := 344) dL_law_39 (by decide) (by decide) (by decide) (by decide) (fun _ => lc_344 X hst9 κ i K0 hK0 hκ k hk9) (fun c3 => ?_)
  refine ol_case X (v := 4) (off := 361) (tgt := 400) dL_law_39 (by decide) (by decide) (by decide) (by decide) (fun _ => lc_400 X hst9 κ i K0 hK0 hκ k hk9) (fun c4 => ?_)
  refine ol_case X (v := 5) (off := 417) (tgt := 456) dL_law_39 (by decide) (by decide) (by decide) (by decide) (fun _ => lc_456 X hst9 κ i K0 hK0 hκ k hk9) (fun c5 => ?_)
  refine ol_case X (v := 6) (off := 485) (tgt := 524) dL_law_39 (by decide) (by decide) (by decide) (by decide) (fun _ => lc_524 X hst9 κ i K0 hK0 hκ k hk9) (fun c6 => ?_)
  refine ol_case X (v := 7) (off := 541) (tgt := 580) dL_law_39 (by decide) (by decide) (by decide) (by decide) (fun _ => lc_580 X hst9 κ i K0 hK0 hκ k hk9) (fun c7 => ?_)
  refine ol_case X (v := 8) (off := 597) (tgt := 636) dL_law_39 (by decide) (by decide) (by decide) (by decide) (fun _ => lc_636 X hst9 κ i K0 hK0 hκ k hk9) (fun c8 => ?_)
  refine ol_case X (v := 9) (off := 610) (tgt := 649) dL_law_39 (by decide) (by decide) (by decide) (by decide) (fun _ => lc_649 X hst9 κ i K0 hK0 hκ k hk9) (fun c9 => ?_)
  refine ol_case X (v := 10) (off := 666) (tgt := 705) dL_law_39 (by decide) (by decide) (by decide) (by decide) (fun _ => lc_705 X hst9 κ i K0 hK0 hκ k hk9) (fun c10 => ?_)
  refine ol_case X (v := 11) (off := 722) (tgt := 761) dL_law_39 (by decide) (by decide) (by decide) (by decide) (fun _ => lc_761 X hst9 κ i K0 hK0 hκ k hk9) (fun c11 => ?_)
  refine ol_case X (v := 12) (off := 778) (tgt := 817) dL_law_39 (by decide) (by decide) (by decide) (by decide) (fun _ => lc_817 X hst9 κ i K0 hK0 hκ k hk9) (fun c12 => ?_)
  refine ol_case X (v := 13) (off := 834) (tgt := 873) dL_law_39 (by decide) (by decide) (by decide) (by decide) (fun _ => lc_873 X hst9 κ i K0 hK0 hκ k hk9) (fun c13 => ?_)
  refine ol_case X (v := 14) (off := 890) (tgt := 929) dL_law_39 (by decide) (by decide) (by decide) (by decide) (fun _ => lc_929 X hst9 κ i K0 hK0 hκ k hk9) (fun c14 => ?_)
  refine ol_case X (v := 15) (off := 903) (tgt := 942) dL_law_39 (by decide) (by decide) (by decide) (by decide) (fun _ => lc_942 X hst9 κ i K0 hK0 hκ k hk9) (fun c15 => ?_)
  refine ol_case X (v := 16) (off := 959) (tgt := 998) dL_law_39 (by decide) (by decide) (by decide) (by decide) (fun _ => lc_998 X hst9 κ i K0 hK0 hκ k hk9) (fun c16 => ?_)
  refine ol_case X (v := 17) (off := 1015) (tgt := 1054) dL_law_39 (by decide) (by decide) (by decide) (by decide) (fun _ => lc_1054 X hst9 κ i K0 hK0 hκ k hk9) (fun c17 => ?_)
  refine ol_case X (v := 18) (off := 1071) (tgt := 1110) dL_law_39 (by decide) (by decide) (by decide) (by decide) (fun _ => lc_1110 X hst9 κ i K0 hK0 hκ k hk9) (fun c18 => ?_)
  refine ol_case X (v := 19) (off := 1127) (tgt := 1166) dL_law_39 (by decide) (by decide) (by decide) (by decide) (fun _ => lc_1166 X hst9 κ i K0 hK0 hκ k hk9) (fun c19 => ?_)
  refine ol_case X (v := 20) (off := 1183) (tgt := 1222) dL_law_39 (by decide) (by decide) (by decide) (by decide) (fun _ => lc_1222 X hst9 κ i K0 hK0 hκ k hk9) (fun c20 => ?_)
  refine ol_case X (v := 21) (off := 1239) (tgt := 1278) dL_law_39 (by decide) (by decide) (by decide) (by decide) (fun _ => lc_1278 X hst9 κ i K0 hK0 hκ k hk9) (fun c21 => ?_)
  refine ol_case X (v := 22) (off := 1252) (tgt := 1291) dL_law_39 (by decide) (by decide) (by decide) (by decide) (fun _ => lc_1291 X hst9 κ i K0 hK0 hκ k hk9) (fun c22 => ?_)
  refine ol_case X (v := 23) (off := 1315) (tgt := 1354) dL_law_39 (by decide) (by decide) (by decide) (by decide) (fun _ => lc_1354 X hst9 κ i K0 hK0 hκ k hk9) (fun c23 => ?_)
  refine ol_case X (v := 24) (off := 1371) (tgt := 1410) dL_law_39 (by decide) (by decide) (by decide) (by decide) (fun _ => lc_1410 X hst9 κ i K0 hK0 hκ k hk9) (fun c24 => ?_)
  refine ol_case X (v := 25) (off := 1427) (tgt := 1466) dL_law_39 (by decide) (by decide) (by decide) (by decide) (fun _ => lc_1466 X hst9 κ i K0 hK0 hκ k hk9) (fun c25 => ?_)
  refine ol_case X (v := 26) (off := 1440) (tgt := 1479) dL_law_39 (by decide) (by decide) (by decide) (by decide) (fun _ => lc_1479 X hst9 κ i K0 hK0 hκ k hk9) (fun c26 => ?_)
  refine ol_case X (v := 27) (off := 1453) (tgt := 1492) dL_law_39 (by decide) (by decide) (by decide) (by decide) (fun _ => lc_1492 X hst9 κ i K0 hK0 hκ k hk9) (fun c27 => ?_)
  refine ol_dflt X (tgt := 1548) dL_law_39 ?_ (by decide) (hκ k sk sm f (by omega))
  have z0 : x.toInt ≠ 0 := fun h => c0 (Int32.toInt_inj.mp (by rw [h]; rfl))
  have z1 : x.toInt ≠ 1 := fun h => c1 (Int32.toInt_inj.mp (by rw [h]; rfl))
  have z2 : x.toInt ≠ 2 := fun h => c2 (Int32.toInt_inj.mp (by rw [h]; rfl))
  have z3 : x.toInt ≠ 3 := fun h => c3 (Int32.toInt_inj.mp (by rw [h]; rfl))
  have z4 : x.toInt ≠ 4 := fun h => c4 (Int32.toInt_inj.mp (by rw [h]; rfl))
  have z5 : x.toInt ≠ 5 := fun h => c5 (Int32.toInt_inj.mp (by rw [h]; rfl))
  have z6 : x.toInt ≠ 6 := fun h => c6 (Int32.toInt_inj.mp (by rw [h]; rfl))
  have z7 : x.toInt ≠ 7 := fun h => c7 (Int32.toInt_inj.mp (by rw [h]; rfl))
  have z8 : x.toInt ≠ 8 := fun h => c8 (Int32.toInt_inj.mp (by rw [h]; rfl))
  have z9 : x.toInt ≠ 9 := fun h => c9 (Int32.toInt_inj.mp (by rw [h]; rfl))
  have z10 : x.toInt ≠ 10 := fun h => c10 (Int32.toInt_inj.mp (by rw [h]; rfl))
  have z11 : x.toInt ≠ 11 := fun h => c11 (Int32.toInt_inj.mp (by rw [h]; rfl))
  have z12 : x.toInt ≠ 12 := fun h => c12 (Int32.toInt_inj.mp (by rw [h]; rfl))
  have z13 : x.toInt ≠ 13 := fun h => c13 (Int32.toInt_inj.mp (by rw [h]; rfl))
  have z14 : x.toInt ≠ 14 := fun h => c14 (Int32.toInt_inj.mp (by rw [h]; rfl))
  have z15 : x.toInt ≠ 15 := fun h => c15 (Int32.toInt_inj.mp (by rw [h]; rfl))
  have z16 : x.toInt ≠ 16 := fun h => c16 (Int32.toInt_inj.mp (by rw [h]; rfl))
  have z17 : x.toInt ≠ 17 := fun h => c17 (Int32.toInt_inj.mp (by rw [h]; rfl))
  have z18 : x.toInt ≠ 18 := fun h => c18 (Int32.toInt_inj.mp (by rw [h]; rfl))
  have z19 : x.toInt ≠ 19 := fun h => c19 (Int32.toInt_inj.mp (by rw [h]; rfl))
  have z20 : x.toInt ≠ 20 := fun h => c20 (Int32.toInt_inj.mp (by rw [h]; rfl))
  have z21 : x.toInt ≠ 21 := fun h => c21 (Int32.toInt_inj.mp (by rw [h]; rfl))
  have z22 : x.toInt ≠ 22 := fun h => c22 (Int32.toInt_inj.mp (by rw [h]; rfl))
  have z23 : x.toInt ≠ 23 := fun h => c23 (Int32.toInt_inj.mp (by rw [h]; rfl))
  have z24 : x.toInt ≠ 24 := fun h => c24 (Int32.toInt_inj.mp (by rw [h]; rfl))
  have z25 : x.toInt ≠ 25 := fun h => c25 (Int32.toInt_inj.mp (by rw [h]; rfl))
  have z26 : x.toInt ≠ 26 := fun h => c26 (Int32.toInt_inj.mp (by rw [h]; rfl))
  have z27 : x.toInt ≠ 27 := fun h => c27 (Int32.toInt_inj.mp (by rw [h]; rfl))
  omega
/-- the loop, from its head: at most two throwables a round -/
theorem lc_loop (X : oL_E p l e s m b below meth c N xs D cI cZ cJ ak am ao A GL) (hst9 : l.stackTraces = false) (hN9 : N ≤ 1536) : ∀ (n k j : Nat) (i : Int32) (sk sm : ST) (f : Nat → Int64), i = nI (3 * j) → k ≤ 2 * j → 3 * j ≤ N → GL k 23 [(0, .ref b), (1, .ref (ak 0)), (2, .ref (am 0)), (3, .ref ao), (4, .int i)] [] sk sm f (FL_loop xs N n i sk sm f) := by
  intro n
  induction n with
  | zero => intros; exact ol_none X
  | succ n ih =>
    intro k j i sk sm f hi hk hj
    rw [FL_loop]
    refine ol_iload X dL_law_23 4 rfl ?_
    refine ol_aload_n X dL_law_25 rfl 0 rfl ?_
    refine ol_slen X dL_law_26 ?_
    refine ol_iconst X (v := 3) dL_law_27 (by decide) ?_
    refine ol_isub X dL_law_28 ?_
    refine ol_icmp_gt X (tgt := 1554) dL_law_29 (by decide) (fun q1 => ?_) (fun q1 => ?_)
    · refine ol_iconst X (v := 1) dL_law_1554 (by decide) ?_
      exact ol_ret X (by omega) dL_law_1555
    · have hi2 : i.toInt = ((3 * j : Nat) : Int) := by rw [hi]; exact nI_toInt (by omega)
      have hle : i ≤ Int32.ofNat N - 3 := Int32.not_lt.mp q1
      have hN3 : (Int32.ofNat N - 3).toInt = (N : Int) - 3 := by
        exact pk_sub_toInt (a := N) (b := 3) (by omega) (by omega)
      have hjj : 3 * j + 3 ≤ N := by
        have := Int32.le_iff_toInt_le.mp hle
        rw [hN3, hi2] at this
        omega
      refine ol_aload_n X dL_law_32 rfl 0 rfl ?_
      refine ol_iload X dL_law_33 4 rfl ?_
      refine ol_sld X dL_law_35 (fun g1 => ?_)
      refine ol_bipush X (v := 31) dL_law_36 (by decide) ?_
      refine ol_iand X dL_law_38 ?_
      refine lc_sw X hst9 (fun sk sm f => FL_loop xs N n (i + 3) sk sm f) i (xs i.toNatClampNeg &&& 31) (2 * (j + 1)) (by omega) (fun k sk sm f hk2 => ?_) k (by omega)
      refine ol_iinc X (q := 4) (v := i + 3) (L2 := [(4, .int (i + 3)), (0, .ref b), (1, .ref (ak 0)), (2, .ref (am 0)), (3, .ref ao)]) dL_law_1548 rfl rfl (by decide) rfl ?_
      refine ol_goto X (tgt := 23) dL_law_1551 (by decide) ?_
      refine ol_sub X [1, 2, 3, 4, 0] (L2 := [(0, .ref b), (1, .ref (ak 0)), (2, .ref (am 0)), (3, .ref ao), (4, .int (i + 3))]) rfl ?_
      exact ih k (j + 1) (i + 3) sk sm f (by rw [hi, show 3 * (j + 1) = 3 * j + 3 by omega, ← nI_add]; rfl) hk2 (by omega)
end OLC

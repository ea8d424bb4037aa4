theorem ok_arrI {args : Array Value} {s : State} (h : (Cond.arrayClass .int).before args s = true) : ∃ cA : ClassId, ArrOfT s cA .int ∧ va_RA s cA .int := by
  obtain ⟨cA, kA, comp, hfind, hk, hkind⟩ := Cond.arrayClass_spec h
  exact ⟨cA, fun n z => ⟨fun k h => (by cases h), kA, hk, comp, hkind⟩, hfind⟩
theorem ok_arrZ {args : Array Value} {s : State} (h : (Cond.arrayClass .boolean).before args s = true) : ∃ cA : ClassId, ArrOfT s cA .boolean ∧ va_RA s cA .boolean := by
  obtain ⟨cA, kA, comp, hfind, hk, hkind⟩ := Cond.arrayClass_spec h
  exact ⟨cA, fun n z => ⟨fun k h => (by cases h), kA, hk, comp, hkind⟩, hfind⟩
theorem ok_arrJ {args : Array Value} {s : State} (h : (Cond.arrayClass .long).before args s = true) : ∃ cA : ClassId, ArrOfT s cA .long ∧ va_RA s cA .long := by
  obtain ⟨cA, kA, comp, hfind, hk, hkind⟩ := Cond.arrayClass_spec h
  exact ⟨cA, fun n z => ⟨fun k h => (by cases h), kA, hk, comp, hkind⟩, hfind⟩
theorem st_tI : Cond.arrayClass .int ∈ lw_tbl := by decide +kernel
theorem st_tZ : Cond.arrayClass .boolean ∈ lw_tbl := by decide +kernel
theorem st_tJ : Cond.arrayClass .long ∈ lw_tbl := by decide +kernel
theorem st_ks : ∀ q ∈ oz_KSX0, Cond.stringRef RX0 q.1 q.2 ∈ lw_tbl ∧ Cond.exactly (.string RX0 q.1) "java/lang/String" ∈ flatC (Jvm.Cond.and given_1 narrow_1) := by decide +kernel
theorem st_bx : ∀ w ∈ oz_BX, w ∈ lw_tbl := by decide +kernel
theorem st_nc1 : Cond.not (.castable "java/lang/IllegalStateException" "java/lang/IndexOutOfBoundsException") ∈ flatC (Jvm.Cond.and given_1 narrow_1) := by decide +kernel
theorem st_nc2 : Cond.not (.castable "java/lang/IllegalArgumentException" "java/lang/IndexOutOfBoundsException") ∈ flatC (Jvm.Cond.and given_1 narrow_1) := by decide +kernel
theorem st_nc3 : Cond.not (.castable "java/lang/IllegalStateException" "java/lang/IllegalArgumentException") ∈ flatC (Jvm.Cond.and given_1 narrow_1) := by decide +kernel
theorem st_r1 : Cond.isRef (.static Bundle.tN "UNASSIGNED_STACK" Bundle.steD) ∈ flatC (Jvm.Cond.and given_1 narrow_1) := by decide +kernel
theorem st_r2 : Cond.isRef (.static Bundle.tN "SUPPRESSED_SENTINEL" Bundle.listD) ∈ flatC (Jvm.Cond.and given_1 narrow_1) := by decide +kernel
theorem st_l1 : Cond.laysStatic Bundle.tN "UNASSIGNED_STACK" Bundle.steD ∈ lw_tbl := by decide +kernel
theorem st_l2 : Cond.laysStatic Bundle.tN "SUPPRESSED_SENTINEL" Bundle.listD ∈ lw_tbl := by decide +kernel
theorem st_i : Cond.initialized Bundle.tN ∈ lw_tbl := by decide +kernel
theorem st_k0 : Cond.instantiable RX0 19 ∈ lw_tbl := by decide +kernel
theorem st_k1 : Cond.instantiable RX1 19 ∈ lw_tbl := by decide +kernel
theorem st_z0 : Cond.initialized RX0 ∈ lw_tbl := by decide +kernel
theorem st_z1 : Cond.initialized RX1 ∈ lw_tbl := by decide +kernel
theorem st_c0 : Cond.classLink RL 8 RX0 ∈ lw_tbl := by decide +kernel
theorem st_c1 : Cond.classLink RL 88 RX1 ∈ lw_tbl := by decide +kernel
theorem st_m0 : Cond.methodLink RL 87 yX0_init ∈ lw_tbl := by decide +kernel
theorem st_m1 : Cond.methodLink RL 90 yX1_init ∈ lw_tbl := by decide +kernel
theorem st_n0 : Cond.instanceMethod yX0_init ∈ lw_tbl := by decide +kernel
theorem st_n1 : Cond.instanceMethod yX1_init ∈ lw_tbl := by decide +kernel
set_option maxHeartbeats 4000000 in
set_option maxRecDepth 100000 in
/-- THE LAW, from its entry -/
theorem whole_start {p : Program} {e : Env} {s : State} {m : MethodId} {below : List Frame} {meth : Method} {c : Code} (l : Launch) (hflags : l.flags = flags0) {b L : Nat} {xs : Nat → Int32} (hL : L ≤ 1536) (C0 : lw_At p s m meth c b L xs) : W p l e room_1 s m #[Value.ref b] below meth c s.heap [] 0 0 (lw_Z below #[Value.ref b] s) (entryFrame m ([Value.ref b] : List Value).toArray 7) := by
  obtain ⟨hx, hb, hr, hml, hown, hts0, hX, hbl, hlocks, hgv⟩ := id C0
  have hst9 : l.stackTraces = false := by unfold Launch.stackTraces; rw [hflags]; decide
  have hts : ∀ w ∈ wsL_law, w.before #[Value.ref b] s = true := fun w h => hts0 w (wsL_law_in w h)
  have hfl := flat_of_before _ hgv
  have hA : ∀ q : Nat, s.heap.size ≤ q → (fun q : Nat => s.heap.size ≤ q) q := fun _ h => h
  obtain ⟨c0, iS0, hKn0⟩ := u_known (C := RX0) (T := TX0) (N := 19) (n := 19) hts0 inX0 (hts0 _ st_k0)
  obtain ⟨c1, iS1, hKn1⟩ := u_known (C := RX1) (T := TX1) (N := 19) (n := 19) hts0 inX1 (hts0 _ st_k1)
  obtain ⟨cI, hI1, hI2⟩ := ok_arrI (hts0 _ st_tI)
  obtain ⟨cZ, hZ1, hZ2⟩ := ok_arrZ (hts0 _ st_tZ)
  obtain ⟨cJ, hJ1, hJ2⟩ := ok_arrJ (hts0 _ st_tJ)
  obtain ⟨D, hKc⟩ : ∃ D : va_G, ∀ (k : Nat) (q : vw_C), vwCl[k]? = some q → u_Kn s q.1 q.2.1 q.2.2 (D.1 k) (D.2 k) := by
    refine ⟨(fun k => if k = 0 then c0 else c1, fun k => if k = 0 then iS0 else iS1), ?_⟩
    intro k q hq
    match k, hq with
    | 0, hq => cases hq; exact hKn0
    | 1, hq => cases hq; exact hKn1
    | k + 2, hq => simp [vwCl] at hq
  have hK : va_K D vwCl [(cI, .int), (cZ, .boolean), (cJ, .long)] s := by
    refine ⟨hKc, fun k q h => ?_⟩
    match k, h with
    | 0, h => cases h; exact ⟨hI1, hI2⟩
    | 1, h => cases h; exact ⟨hZ1, hZ2⟩
    | 2, h => cases h; exact ⟨hJ1, hJ2⟩
    | k + 3, h => simp at h
  have hKS : ∀ q ∈ oz_KSX0, ∃ sa, vk_R RX0 q.1 q.2 sa s := by
    intro q hq
    obtain ⟨h1, h2⟩ := st_ks q hq
    obtain ⟨a, c, cell, k, q1, -⟩ := Cond.exactly_spec (hfl _ h2)
    exact ⟨a, vk_R.of (hts0 _ h1) q1⟩
  have hBX : ∀ w ∈ oz_BX, va_Nw w s := fun w h => va_Nw.of (oz_BX_on w h) (hts0 w (st_bx w h))
  have hNC : ow_NC s := ⟨va_Nc.of (hfl _ st_nc1), va_Nc.of (hfl _ st_nc2), va_Nc.of (hfl _ st_nc3)⟩
  have hU : vx_Zq Bundle.tN "UNASSIGNED_STACK" Bundle.steD (fun q : Nat => s.heap.size ≤ q) s s.heap := vx_Zqof (hts0 _ st_l1) (hts0 _ st_i) (hfl _ st_r1) (fun a h => Nat.not_le.mpr h)
  have hN : vx_Zq Bundle.tN "SUPPRESSED_SENTINEL" Bundle.listD (fun q : Nat => s.heap.size ≤ q) s s.heap := vx_Zqof (hts0 _ st_l2) (hts0 _ st_i) (hfl _ st_r2) (fun a h => Nat.not_le.mpr h)
  have hS : va_S (fun q : Nat => s.heap.size ≤ q) s.heap s.heap [] := va_S.rf
  have hP : va_P D vwCl [] s.heap := fun k q h => by simp at h
  have hD : va_D (fun q : Nat => s.heap.size ≤ q) [] := ⟨fun i j p q h => by simp at h, fun k q h => by simp at h⟩
  have hl := lv_entry ([.ref b]) (n := 7) (Nat.le_of_ble_eq_true rfl)
  rw [lg_entry_eq]
  generalize (lg_sl ([.ref b]) ++ List.replicate (7 - (lg_sl ([.ref b])).length) Slot.unset).toArray = ls at hl ⊢
  have hl : lv_has ls 7 [(0, .ref b)] := hl
  -- the class's object
  refine va_new (ci := 0) (fs := ok_fsX0) (C := RX0) (T := TX0) (N := 19) (cc := cL_law) hx hb hts0 inX0 tyX0 tyX0_ok hown (hts0 _ st_c0) (hts0 _ st_k0) (hts0 _ st_z0) hK hP hD hS hA rfl (fun j hj => by rcases (show j = 0 ∨ j = 1 ∨ j = 2 ∨ j = 3 ∨ j = 4 ∨ j = 5 ∨ j = 6 ∨ j = 7 ∨ j = 8 ∨ j = 9 ∨ j = 10 ∨ j = 11 ∨ j = 12 ∨ j = 13 ∨ j = 14 ∨ j = 15 ∨ j = 16 ∨ j = 17 ∨ j = 18 by omega) with rfl | rfl | rfl | rfl | rfl | rfl | rfl | rfl | rfl | rfl | rfl | rfl | rfl | rfl | rfl | rfl | rfl | rfl | rfl <;> rfl) (Nat.le_of_ble_eq_true rfl) (Nat.le_of_ble_eq_true rfl) dL_law_0 (fun h0 H hP hD hS => ?_)
  have hP : va_P D vwCl [(h0, .inr (0, ok_fsX0))] H := hP
  have hD : va_D (fun q : Nat => s.heap.size ≤ q) [(h0, .inr (0, ok_fsX0))] := hD
  refine lv_dup hx hb dL_law_3 rfl ?_
  have hAA : ∀ q, va_A [(h0, Sum.inr (0, ok_fsX0))] H.size q → s.heap.size ≤ q := fun q h => h.elim (fun ⟨j, e1, hj⟩ => hD.2 j _ hj) (fun h => Nat.le_trans hS.1 h)
  refine va_callv (va_runI (As := []) (rest := [.ref h0]) ⟨hx, hb, hml, hown, hts⟩ (iX0 l D cI cZ h0 H.size) (cwI 0 hts gL_law_X0_init rfl rfl rfl (hts0 _ st_z0) (hts0 _ st_m0) (hts0 _ st_n0) rfl (by decide +kernel) ⟨by decide, by decide⟩) ⟨fun a U g mk q => ?_, fun U hU2 hW2 => ⟨rfl, by rw [hU2], by rw [hU2]; exact hP, va_K.moved hW2.alike (hK.sub [0, 1] rfl), hD.weaken (fun _ _ _ _ => trivial)⟩⟩ rfl rfl hl.1 rfl (lv_room (Nat.le_of_ble_eq_true rfl)) dL_law_4 ⟨by decide, by decide⟩) hS (fun q _ h => hAA q h) hAA (fun ak t H1 locs1 ht hvm hw hB hz1 hk1 hS => ?_)
  · obtain ⟨q0, q1, qP, qK, qD⟩ := q
    exact ⟨q0, q1, qP, va_K.moved (u := U) (U := U.calling g mk a) (Vm.Alike.refl U.vm) qK, qD⟩
  obtain ⟨hPk, hDk⟩ := hB
  rw [ht] at hPk
  subst hw
  have hDk : va_D (fun q : Nat => s.heap.size ≤ q) (oz_wd 0 cI cZ ak oz_lyX0 ok_stX0) := hDk.weaken (fun k q _ h => hAA q.1 h)
  clear hP hD hAA
  refine lv_astore_n (lv' := [(1, .ref (ak 0)), (0, .ref b)]) hx hb dL_law_7 rfl hl (by decide) rfl (fun ls hl => ?_)
  -- the reference's object
  refine va_new (ci := 1) (fs := ok_fsX1) (C := RX1) (T := TX1) (N := 19) (cc := cL_law) hx hb hts0 inX1 tyX1 tyX1_ok hown (hts0 _ st_c1) (hts0 _ st_k1) (hts0 _ st_z1) hK hPk hDk hS hA rfl (fun j hj => by rcases (show j = 0 ∨ j = 1 ∨ j = 2 ∨ j = 3 ∨ j = 4 ∨ j = 5 ∨ j = 6 ∨ j = 7 ∨ j = 8 ∨ j = 9 ∨ j = 10 ∨ j = 11 ∨ j = 12 ∨ j = 13 ∨ j = 14 ∨ j = 15 ∨ j = 16 ∨ j = 17 ∨ j = 18 by omega) with rfl | rfl | rfl | rfl | rfl | rfl | rfl | rfl | rfl | rfl | rfl | rfl | rfl | rfl | rfl | rfl | rfl | rfl | rfl <;> rfl) (by decide) (by decide) dL_law_8 (fun h1 H hP hD hS => ?_)
  refine lv_dup hx hb dL_law_11 rfl ?_
  have hPn := ow_P_r hP
  have hDn := ow_D_r hD
  have hAA : ∀ q, va_A [(h1, Sum.inr (1, ok_fsX1))] H.size q → s.heap.size ≤ q := fun q h => h.elim (fun ⟨j, e1, hj⟩ => hDn.2 j _ hj) (fun h => Nat.le_trans hS.1 h)
  have hDsw : va_D (fun q : Nat => s.heap.size ≤ q) ([(h1, Sum.inr (1, ok_fsX1))] ++ oz_wd 0 cI cZ ak oz_lyX0 ok_stX0) := hD.sub [15, 0, 1, 2, 3, 4, 5, 6, 7, 8, 9, 10, 11, 12, 13, 14] (by decide) rfl
  refine va_callv (va_runI (As := []) (rest := [.ref h1]) ⟨hx, hb, hml, hown, hts⟩ (iX1 l D cI cZ h1 H.size) (cwI 0 hts gL_law_X1_init rfl rfl rfl (hts0 _ st_z1) (hts0 _ st_m1) (hts0 _ st_n1) rfl (by decide +kernel) ⟨by decide, by decide⟩) ⟨fun a U g mk q => ?_, fun U hU2 hW2 => ⟨rfl, by rw [hU2], by rw [hU2]; exact hPn, va_K.moved hW2.alike (hK.sub [0, 1] rfl), hDn.weaken (fun _ _ _ _ => trivial)⟩⟩ rfl rfl hl.1 rfl (lv_room (Nat.le_of_ble_eq_true rfl)) dL_law_12 ⟨by decide, by decide⟩) hS (fun q _ h => hAA q h) hAA (fun am t H1 locs1 ht hvm hw hB hz1 hk1 hS => ?_)
  · obtain ⟨q0, q1, qP, qK, qD⟩ := q
    exact ⟨q0, q1, qP, va_K.moved (u := U) (U := U.calling g mk a) (Vm.Alike.refl U.vm) qK, qD⟩
  obtain ⟨hPm, hDm⟩ := hB
  rw [ht] at hPm
  subst hw
  have hPk := ow_keep hDsw (ow_P_l hP) hk1
  have hDm2 : va_D (fun q : Nat => s.heap.size ≤ q) (oz_wd 0 cI cZ ak oz_lyX0 ok_stX0 ++ oz_wd 1 cI cZ am oz_lyX1 ok_stX1) := by
    refine va_D.app (ow_D_l hD) (hDm.weaken (fun k q _ h => hAA q.1 h)) (fun i j x y hx hy hxy => ?_)
    have hlt : x.1 < H.size := vx_lt (ow_P_l hP) hx
    have h9 := hDm.2 j y hy
    rw [← hxy] at h9
    rcases h9 with ⟨k, e2, hk⟩ | h9
    · exact ow_apart hDsw hx hk
    · omega
  clear hP hD hAA hDsw hPn hDn
  refine lv_astore_n (lv' := [(2, .ref (am 0)), (1, .ref (ak 0)), (0, .ref b)]) hx hb dL_law_15 rfl hl (by decide) rfl (fun ls hl => ?_)
  refine lv_iconst (v := 1) hx hb dL_law_16 (by decide) ?_
  refine va_newa (atype := .long) (ty := .long) (N' := 1) (a0 := (1, .inr (.inl (fun _ => 0)))) hx hb (hts0 _ st_tJ) rfl hK (va_P.app hPk hPm) hDm2 hS hA (fun _ => rfl) (by decide) rfl (Nat.le_of_ble_eq_true rfl) (by decide) (by decide) dL_law_17 (fun ao cJ2 H2 hK2 hP hD hS => ?_)
  obtain rfl := ok_same (i := 2) (j := 3) hK2 rfl rfl (fun _ h => by cases h)
  refine lv_astore_n (lv' := [(3, .ref ao), (2, .ref (am 0)), (1, .ref (ak 0)), (0, .ref b)]) hx hb dL_law_19 rfl hl (by decide) rfl (fun ls hl => ?_)
  refine lv_iconst (v := 0) hx hb dL_law_20 (by decide) ?_
  refine lv_istore (lv' := [(4, .int 0), (3, .ref ao), (2, .ref (am 0)), (1, .ref (ak 0)), (0, .ref b)]) hx hb dL_law_21 hl (by decide) rfl (fun ls hl => ?_)
  have hD1 : va_D (fun q : Nat => s.heap.size ≤ q) (oz_wd 0 cI cZ ak oz_lyX0 ok_stX0 ++ (oz_wd 1 cI cZ am oz_lyX1 ok_stX1 ++ ow_out cJ ao (fun _ => 0))) := by rw [← List.append_assoc]; exact hD
  have hDf1 : ∀ sk sm f, va_D (fun q : Nat => s.heap.size ≤ q) (oz_wd 0 cI cZ ak oz_lyX0 sk ++ (oz_wd 1 cI cZ am oz_lyX1 sm ++ ow_out cJ ao f)) := fun sk sm f => oz_D_cong (by simp only [List.map_append, oz_wd_fst 0 cI cZ ak oz_lyX0 ok_stX0 sk, oz_wd_fst 1 cI cZ am oz_lyX1 ok_stX1 sm]; rfl) hD1
  have hDf2 : ∀ sk sm f, va_D (fun q : Nat => s.heap.size ≤ q) (oz_wd 1 cI cZ am oz_lyX1 sm ++ (oz_wd 0 cI cZ ak oz_lyX0 sk ++ ow_out cJ ao f)) := fun sk sm f => (hDf1 sk sm f).sub [15, 16, 17, 18, 19, 20, 21, 22, 23, 24, 25, 26, 27, 28, 0, 1, 2, 3, 4, 5, 6, 7, 8, 9, 10, 11, 12, 13, 14, 29] (by decide) rfl
  have hDf3 : ∀ sk sm f, va_D (fun q : Nat => s.heap.size ≤ q) (ow_ww cI cZ cJ ak ao sk f ++ oz_wd 1 cI cZ am oz_lyX1 sm) := fun sk sm f => (hDf1 sk sm f).sub [0, 1, 2, 3, 4, 5, 6, 7, 8, 9, 10, 11, 12, 13, 14, 29, 15, 16, 17, 18, 19, 20, 21, 22, 23, 24, 25, 26, 27, 28] (by decide) rfl
  have X : oL_E p l e s m b below meth c L xs D cI cZ cJ ak am ao (fun q : Nat => s.heap.size ≤ q) _ := ⟨rfl, ⟨hx, hb, hml, hown, hts⟩, hK, hDf1, hDf2, hDf3, hA, fun q h => h, hKS, hBX, hNC, hU, hN, hX, hbl, hL, hr, hlocks⟩
  have K := lc_loop X hst9 hL 514 0 0 0 ok_stX0 ok_stX1 (fun _ => 0) rfl (Nat.le_refl _) (Nat.zero_le _)
  exact K (pure_main xs L hL) H2 locs1 ls (ow_P_l (ow_P_l hP)) (ow_P_r (ow_P_l hP)) (ow_P_r hP) hS (lv_sub hl [4, 3, 2, 1, 0] rfl)

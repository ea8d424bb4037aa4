/-! THE LAW FROM ITS ENTRY, IN A ROOM THAT IS LARGE ENOUGH -/
theorem ok_arrI {args : Array Value} {s : State} (h : (Cond.arrayClass .int).before args s = true) : ∃ cA : ClassId, ArrOfT s cA .int ∧ va_RA s cA .int := by
  obtain ⟨cA, kA, comp, hfind, hk, hkind⟩ := Cond.arrayClass_spec h
  exact ⟨cA, fun n z => ⟨fun k h => (by cases h), kA, hk, comp, hkind⟩, hfind⟩
theorem ok_arrZ {args : Array Value} {s : State} (h : (Cond.arrayClass .boolean).before args s = true) : ∃ cA : ClassId, ArrOfT s cA .boolean ∧ va_RA s cA .boolean := by
  obtain ⟨cA, kA, comp, hfind, hk, hkind⟩ := Cond.arrayClass_spec h
  exact ⟨cA, fun n z => ⟨fun k h => (by cases h), kA, hk, comp, hkind⟩, hfind⟩
theorem st_tI : Cond.arrayClass .int ∈ lw_tbl := by decide +kernel
theorem st_tZ : Cond.arrayClass .boolean ∈ lw_tbl := by decide +kernel
theorem st_ks : ∀ q ∈ oz_KSX0, Cond.stringRef RX0 q.1 q.2 ∈ lw_tbl ∧ Cond.exactly (.string RX0 q.1) "java/lang/String" ∈ flatC (Jvm.Cond.and given_1 narrow_1) := by decide +kernel
theorem st_bx : ∀ w ∈ oz_BX, w ∈ lw_tbl := by decide +kernel
theorem st_nc1 : Cond.not (.castable "java/lang/IllegalStateException" "java/lang/IndexOutOfBoundsException") ∈ flatC (Jvm.Cond.and given_1 narrow_1) := by decide +kernel
theorem st_nc2 : Cond.not (.castable "java/lang/IllegalArgumentException" "java/lang/IndexOutOfBoundsException") ∈ flatC (Jvm.Cond.and given_1 narrow_1) := by decide +kernel
theorem st_nc3 : Cond.not (.castable "java/lang/IllegalStateException" "java/lang/IllegalArgumentException") ∈ flatC (Jvm.Cond.and given_1 narrow_1) := by decide +kernel
theorem st_r1 : Cond.isRef (.static Bundle.tN "UNASSIGNED_STACK" Bundle.steD) ∈ flatC (Jvm.Cond.and given_1 narrow_1) := by decide +kernel
theorem st_r2 : Cond.isRef (.static Bundle.tN "SUPPRESSED_SENTINEL" Bundle.listD) ∈ flatC (Jvm.Cond.and given_1 narrow_1) := by decide +kernel
theorem st_l1 : Cond.laysStatic Bundle.tN "UNASSIGNED_STACK" Bundle.steD ∈ lw_tbl := by decide +kernel
theorem st_l2 : Cond.laysStatic Bundle.tN "SUPPRESSED_SENTINEL" Bundle.listD ∈ lw_tbl := by decide +kernel
theorem st_i : Cond.initialized Bundle.tN ∈ lw_tbl := by decide +kernel
theorem st_k0 : Cond.instantiable RX0 19 ∈ lw_tbl := by decide +kernel
theorem st_z0 : Cond.initialized RX0 ∈ lw_tbl := by decide +kernel
theorem st_c0 : Cond.classLink RL 10 RX0 ∈ lw_tbl := by decide +kernel
theorem st_m0 : Cond.methodLink RL 151 yX0_init ∈ lw_tbl := by decide +kernel
theorem st_n0 : Cond.instanceMethod yX0_init ∈ lw_tbl := by decide +kernel
theorem oz_fl_ad {ad ad2 : Nat → Nat} (st : ST) : ∀ (ly : LY) (j : Nat), (∀ k, k ≤ j + ly.length → ad k = ad2 k) → oz_fl ad st j ly = oz_fl ad2 st j ly
  | [], _, _ => rfl
  | (0, _) :: r, j, h => by simp only [oz_fl]; rw [oz_fl_ad st r (j + 1) (fun k q => h k (by simp only [List.length_cons]; omega))]
  | (_ + 1, _) :: r, j, h => by
    simp only [oz_fl]
    rw [oz_fl_ad st r (j + 1) (fun k q => h k (by simp only [List.length_cons]; omega)), h (j + 1) (by simp only [List.length_cons]; omega)]
theorem oz_al_ad (cI cZ : ClassId) {ad ad2 : Nat → Nat} (st : ST) : ∀ (ly : LY) (j : Nat), (∀ k, k ≤ j + ly.length → ad k = ad2 k) → oz_al cI cZ ad st j ly = oz_al cI cZ ad2 st j ly
  | [], _, _ => rfl
  | (0, _) :: r, j, h => by simp only [oz_al]; exact oz_al_ad cI cZ st r (j + 1) (fun k q => h k (by simp only [List.length_cons]; omega))
  | (_ + 1, _) :: r, j, h => by
    simp only [oz_al]
    rw [oz_al_ad cI cZ st r (j + 1) (fun k q => h k (by simp only [List.length_cons]; omega)), h (j + 1) (by simp only [List.length_cons]; omega)]
theorem oz_wd_ad (ci : Nat) (cI cZ : ClassId) {ad ad2 : Nat → Nat} (ly : LY) (st : ST) (h : ∀ k, k ≤ ly.length → ad k = ad2 k) : oz_wd ci cI cZ ad ly st = oz_wd ci cI cZ ad2 ly st := by
  unfold oz_wd
  rw [oz_fl_ad st ly 0 (fun k q => h k (by omega)), oz_al_ad cI cZ st ly 0 (fun k q => h k (by omega)), h 0 (Nat.zero_le _)]
theorem ow_P_l {D : va_G} {cl : List vw_C} {a b : va_W} {H : Heap} (h : va_P D cl (a ++ b) H) : va_P D cl a H := fun k q hk => h k q (by rw [List.getElem?_append_left (List.getElem?_eq_some_iff.mp hk).1]; exact hk)
/-- what is come to: the law has ended, and the heap has 453 cells more at the least -/
def nl_Z (below : List Frame) (s : State) : State → Prop := fun t => ∃ o, t.status = .running ∧ Ended t below o ∧ s.heap.size + 453 ≤ t.heap.size
theorem nl_mono {p : Program} {l : Launch} {e : Env} {R : Room} {s : State} {m : MethodId} {args : Array Value} {below : List Frame} {meth : Method} {c : Code} {H : Heap} {locs : List Loc} {cells slots : Nat} {Q Q2 : State → Prop} {g : JFrame} (h : ∀ t, Q t → Q2 t) (k : W p l e R s m args below meth c H locs cells slots Q g) : W p l e R s m args below meth c H locs cells slots Q2 g := fun T hT X => (k T hT X).elim fun t q => ⟨t, q.1, h t q.2⟩
def nl_At (p : Program) (s : State) (m : MethodId) (meth : Method) (c : Code) (b L : Nat) (xs : Nat → Int32) : Prop :=
  p.tables.exec = Jvm.exec ∧ c.code = code ∧ meth.sig.returnType = ret ∧ c.maxLocals = 14 ∧ s.vm.findClass RL = some m.cls ∧ (∀ w ∈ lw_tbl, w.before #[Value.ref b] s = true) ∧ va_X b L xs s s.heap ∧ b < s.heap.size ∧ meth.locks = false ∧ (Jvm.Cond.and given_1 narrow_1).before #[Value.ref b] s = true ∧ (∀ x ∈ c.exceptionTable.toList, False)
set_option maxHeartbeats 4000000 in
set_option maxRecDepth 100000 in
theorem nl_start {p : Program} {e : Env} {s : State} {m : MethodId} {below : List Frame} {meth : Method} {c : Code} (l : Launch) (hflags : l.flags = flags0) {b : Nat} {xs : Nat → Int32} (hxs : ∀ i : Int32, oz_in i 110 = true → xs i.toNatClampNeg = 9) (C0 : nl_At p s m meth c b 110 xs) : W p l e lawR s m #[Value.ref b] below meth c s.heap [] 0 0 (nl_Z below s) (entryFrame m ([Value.ref b] : List Value).toArray 14) := by
  obtain ⟨hx, hb, hr, hml, hown, hts0, hX, hbl, hlocks, hgv, hex⟩ := id C0
  have htab : c.exceptionTable.toList = ([] : List (Nat × Nat × Nat × Nat)).map (fun h => { startPc := h.1, endPc := h.2.1, handlerPc := h.2.2.1, catchType := h.2.2.2 }) := List.eq_nil_iff_forall_not_mem.mpr (fun x h => hex x h)
  have hst9 : l.stackTraces = false := by unfold Launch.stackTraces; rw [hflags]; decide
  have hts : ∀ w ∈ wsL_law, w.before #[Value.ref b] s = true := fun w h => hts0 w (wsL_law_in w h)
  have hfl := flat_of_before _ hgv
  have hA : ∀ q : Nat, s.heap.size ≤ q → (fun q : Nat => s.heap.size ≤ q) q := fun _ h => h
  obtain ⟨c0, iS0, hKn0⟩ := u_known (C := RX0) (T := TX0) (N := 19) (n := 19) hts0 inX0 (hts0 _ st_k0)
  obtain ⟨cI, hI1, hI2⟩ := ok_arrI (hts0 _ st_tI)
  obtain ⟨cZ, hZ1, hZ2⟩ := ok_arrZ (hts0 _ st_tZ)
  obtain ⟨D, hKc⟩ : ∃ D : va_G, ∀ (k : Nat) (q : vw_C), vwCl[k]? = some q → u_Kn s q.1 q.2.1 q.2.2 (D.1 k) (D.2 k) := by
    refine ⟨(fun _ => c0, fun _ => iS0), ?_⟩
    intro k q hq
    match k, hq with
    | 0, hq => cases hq; exact hKn0
    | k + 1, hq => simp [vwCl] at hq
  have hK : va_K D vwCl [(cI, .int), (cZ, .boolean)] s := by
    refine ⟨hKc, fun k q h => ?_⟩
    match k, h with
    | 0, h => cases h; exact ⟨hI1, hI2⟩
    | 1, h => cases h; exact ⟨hZ1, hZ2⟩
    | k + 2, h => simp at h
  have hKS : ∀ q ∈ oz_KSX0, ∃ sa, vk_R RX0 q.1 q.2 sa s := by
    intro q hq
    obtain ⟨h1, h2⟩ := st_ks q hq
    obtain ⟨a, c, cell, k, q1, -⟩ := Cond.exactly_spec (hfl _ h2)
    exact ⟨a, vk_R.of (hts0 _ h1) q1⟩
  have hBX : ∀ w ∈ oz_BX, va_Nw w s := fun w h => va_Nw.of (oz_BX_on w h) (hts0 w (st_bx w h))
  have hNC : ow_NC s := ⟨va_Nc.of (hfl _ st_nc1), va_Nc.of (hfl _ st_nc2), va_Nc.of (hfl _ st_nc3)⟩
  have hU : vx_Zq Bundle.tN "UNASSIGNED_STACK" Bundle.steD (fun q : Nat => s.heap.size ≤ q) s s.heap := vx_Zqof (hts0 _ st_l1) (hts0 _ st_i) (hfl _ st_r1) (fun a h => Nat.not_le.mpr h)
  have hN : vx_Zq Bundle.tN "SUPPRESSED_SENTINEL" Bundle.listD (fun q : Nat => s.heap.size ≤ q) s s.heap := vx_Zqof (hts0 _ st_l2) (hts0 _ st_i) (hfl _ st_r2) (fun a h => Nat.not_le.mpr h)
  have hS : va_S (fun q : Nat => s.heap.size ≤ q) s.heap s.heap [] := va_S.rf
  have hP : va_P D vwCl [] s.heap := fun k q h => by simp at h
  have hD : va_D (fun q : Nat => s.heap.size ≤ q) [] := ⟨fun i j p q h => by simp at h, fun k q h => by simp at h⟩
  have hl := lv_entry ([.ref b]) (n := 14) (Nat.le_of_ble_eq_true rfl)
  rw [lg_entry_eq]
  generalize (lg_sl ([.ref b]) ++ List.replicate (14 - (lg_sl ([.ref b])).length) Slot.unset).toArray = ls at hl ⊢
  have hl : lv_has ls 14 [(0, .ref b)] := hl
  refine va_new (ci := 0) (fs := ok_fsX0) (C := RX0) (T := TX0) (N := 19) (cc := cL_law) hx hb hts0 inX0 tyX0 tyX0_ok hown (hts0 _ st_c0) (hts0 _ st_k0) (hts0 _ st_z0) hK hP hD hS hA rfl (fun j hj => by rcases (show j = 0 ∨ j = 1 ∨ j = 2 ∨ j = 3 ∨ j = 4 ∨ j = 5 ∨ j = 6 ∨ j = 7 ∨ j = 8 ∨ j = 9 ∨ j = 10 ∨ j = 11 ∨ j = 12 ∨ j = 13 ∨ j = 14 ∨ j = 15 ∨ j = 16 ∨ j = 17 ∨ j = 18 by omega) with rfl | rfl | rfl | rfl | rfl | rfl | rfl | rfl | rfl | rfl | rfl | rfl | rfl | rfl | rfl | rfl | rfl | rfl | rfl <;> rfl) (Nat.le_of_ble_eq_true rfl) (Nat.le_of_ble_eq_true rfl) dL_law_0 (fun h0 H hP hD hS => ?_)
  have hP : va_P D vwCl [(h0, .inr (0, ok_fsX0))] H := hP
  have hD : va_D (fun q : Nat => s.heap.size ≤ q) [(h0, .inr (0, ok_fsX0))] := hD
  refine lv_dup hx hb dL_law_3 rfl ?_
  have hAA : ∀ q, va_A [(h0, Sum.inr (0, ok_fsX0))] H.size q → s.heap.size ≤ q := fun q h => h.elim (fun ⟨j, e1, hj⟩ => hD.2 j _ hj) (fun h => Nat.le_trans hS.1 h)
  refine va_callv (va_runI (As := []) (rest := [.ref h0]) ⟨hx, hb, hml, hown, hts⟩ (iX0 l D cI cZ h0 H.size) (cwI 0 hts gL_law_X0_init rfl rfl rfl (hts0 _ st_z0) (hts0 _ st_m0) (hts0 _ st_n0) rfl (by decide +kernel) ⟨by decide, by decide⟩) ⟨fun a U g mk q => ?_, fun U hU2 hW2 => ⟨rfl, by rw [hU2], by rw [hU2]; exact hP, va_K.moved hW2.alike (hK.sub [0, 1] rfl), hD.weaken (fun _ _ _ _ => trivial)⟩⟩ rfl rfl hl.1 rfl (lv_room (Nat.le_of_ble_eq_true rfl)) dL_law_4 ⟨by decide, by decide⟩) hS (fun q _ h => hAA q h) hAA (fun ak t H1 locs1 ht hvm hw hB hz1 hk1 hS => ?_)
  · obtain ⟨q0, q1, qP, qK, qD⟩ := q
    exact ⟨q0, q1, qP, va_K.moved (u := U) (U := U.calling g mk a) (Vm.Alike.refl U.vm) qK, qD⟩
  obtain ⟨hPk, hDk⟩ := hB
  rw [ht] at hPk
  subst hw
  have hDk : va_D (fun q : Nat => s.heap.size ≤ q) (oz_wd 0 cI cZ ak oz_lyX0 ok_stX0) := hDk.weaken (fun k q _ h => hAA q.1 h)
  clear hP hD hAA
  refine lv_astore_n (lv' := [(1, .ref (ak 0)), (0, .ref b)]) hx hb dL_law_7 rfl hl (by decide) rfl (fun ls hl => ?_)
  refine lv_bipush (v := 48) hx hb dL_law_8 (by decide) ?_
  refine va_newa (atype := .int) (ty := .int) (N' := 48) (a0 := (48, .inl (fun _ => 0))) hx hb (hts0 _ st_tI) rfl hK hPk hDk hS hA (fun _ => rfl) (by decide) rfl (Nat.le_of_ble_eq_true rfl) (by decide) (by decide) dL_law_10 (fun aw cI2 H2 hK2 hP2 hD2 hS => ?_)
  have hPk2 := ow_P_l hP2
  refine lv_astore_n (lv' := [(2, .ref aw), (1, .ref (ak 0)), (0, .ref b)]) hx hb dL_law_12 rfl hl (by decide) rfl (fun ls hl => ?_)
  refine lv_bipush (v := 10) hx hb dL_law_13 (by decide) ?_
  refine va_newa (atype := .int) (ty := .int) (N' := 10) (a0 := (10, .inl (fun _ => 0))) hx hb (hts0 _ st_tI) rfl hK hPk2 hDk hS hA (fun _ => rfl) (by decide) rfl (Nat.le_of_ble_eq_true rfl) (by decide) (by decide) dL_law_15 (fun ag cI3 H3 hK3 hP3 hD3 hS => ?_)
  refine lv_astore_n (lv' := [(3, .ref ag), (2, .ref aw), (1, .ref (ak 0)), (0, .ref b)]) hx hb dL_law_17 rfl hl (by decide) rfl (fun ls hl => ?_)
  refine lv_iconst (v := 1) hx hb dL_law_18 (by decide) ?_
  refine lv_istore (lv' := [(4, .int 1), (3, .ref ag), (2, .ref aw), (1, .ref (ak 0)), (0, .ref b)]) hx hb dL_law_19 hl (by decide) rfl (fun ls hl => ?_)
  obtain ⟨ad, had⟩ : ∃ ad : Nat → Nat, ad = fun k => if k = 99 then s.heap.size else ak k := ⟨_, rfl⟩
  have h99 : ad 99 = s.heap.size := by rw [had]; rfl
  have h0 : ad 0 = ak 0 := by rw [had]; rfl
  have hwd : oz_wd 0 cI cZ ad oz_lyX0 FX = oz_wd 0 cI cZ ak oz_lyX0 ok_stX0 := by
    rw [← FX_eq]
    refine oz_wd_ad 0 cI cZ oz_lyX0 ok_stX0 (fun k hk => ?_)
    have hk2 : k ≤ 19 := hk
    rw [had]
    show (if k = 99 then s.heap.size else ak k) = ak k
    rw [if_neg (by omega)]
  have hPf : oz_P D cI cZ 0 ad oz_lyX0 0 H3 := by
    refine ⟨by rw [hwd]; exact ow_P_l hP3, ?_⟩
    show ad 99 + (0 : Int32).toNatClampNeg ≤ H3.size
    rw [h99]
    exact hS.1
  refine W.widen (k := 80) (n := 6 * 80) (by decide) (by decide) ?_
  refine nl_mono (Q := vx_MQ below (oz_Qi D cI cZ 0 ad oz_lyX0 (0, 1, 453) (fun q : Nat => s.heap.size ≤ q)) (oz_XC D cI cZ 0 ad oz_lyX0 (0, 1, 453) (fun q : Nat => s.heap.size ≤ q)) #[.ref b] s 6067 (6 * 6067) (fun q : Nat => s.heap.size ≤ q)) (fun t hq => ?_) ?_
  · obtain ⟨o, hrun, hend, hq⟩ := hq
    refine ⟨o, hrun, hend, ?_⟩
    rcases hq with ⟨⟨⟨r, u, -, hp, hB⟩, -⟩, -⟩ | ⟨q, -, E, ce, L, hx9, -⟩
    · have hu : u = 453 := by cases hp; rfl
      have h9 := hB.2
      rw [hu] at h9
      unfold gh at h9
      rw [h99] at h9
      exact h9
    · obtain ⟨u, ⟨hp1, hp2, -⟩, -⟩ := hx9
      exact absurd (congrArg (fun z => z.1) hp1) hp2
  · have X : oz_E p l e lawR s m #[.ref b] below meth c (vx_MQ below (oz_Qi D cI cZ 0 ad oz_lyX0 (0, 1, 453) (fun q : Nat => s.heap.size ≤ q)) (oz_XC D cI cZ 0 ad oz_lyX0 (0, 1, 453) (fun q : Nat => s.heap.size ≤ q)) #[.ref b] s 6067 (6 * 6067) (fun q : Nat => s.heap.size ≤ q)) cL_law 14 wsL_law RX0 RL D cI cZ 0 TX0 19 oz_KSX0 oz_lyX0 ad (fun q : Nat => s.heap.size ≤ q) (0, 1, 453) [] _ := ⟨rfl, ⟨hx, hb, hml, hown, hts⟩, hK, by rw [hwd]; exact hDk, hA, oz_CX0, hKS, hBX, hNC, hU, hN, hst9, hlocks, htab⟩
    have hscr : oz_scr s b xs (fun q : Nat => s.heap.size ≤ q) := ⟨hX, hbl, Nat.not_le.mpr hbl, hxs⟩
    have K := mL_lawG hst9 hr X hscr 0
    exact K ev_law H3 _ ls hPf hS (by rw [h0]; exact lv_sub hl [3, 4] rfl)

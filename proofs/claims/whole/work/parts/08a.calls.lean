/-! CALLS FROM A WIDER WORLD: the object's world and a rest that stays; the law's wrappers -/
theorem ow_P_l {D : va_G} {cl : List vw_C} {a b : va_W} {H : Heap} (h : va_P D cl (a ++ b) H) : va_P D cl a H := fun k q hk => h k q (by rw [List.getElem?_append_left (List.getElem?_eq_some_iff.mp hk).1]; exact hk)
theorem ow_P_r {D : va_G} {cl : List vw_C} {a b : va_W} {H : Heap} (h : va_P D cl (a ++ b) H) : va_P D cl b H := fun k q hk => h (a.length + k) q (by rw [List.getElem?_append_right (by omega), Nat.add_sub_cancel_left]; exact hk)
theorem ow_D_l {A : Nat → Prop} {a b : va_W} (h : va_D A (a ++ b)) : va_D A a := by
  have g : ∀ (k : Nat) (q : Nat × va_E), a[k]? = some q → (a ++ b)[k]? = some q := fun k q hk => by rw [List.getElem?_append_left (List.getElem?_eq_some_iff.mp hk).1]; exact hk
  exact ⟨fun i j p q hi hj => h.1 i j p q (g i p hi) (g j q hj), fun k q hk => h.2 k q (g k q hk)⟩
theorem ow_D_r {A : Nat → Prop} {a b : va_W} (h : va_D A (a ++ b)) : va_D A b := by
  have g : ∀ (k : Nat) (q : Nat × va_E), b[k]? = some q → (a ++ b)[a.length + k]? = some q := fun k q hk => by rw [List.getElem?_append_right (by omega), Nat.add_sub_cancel_left]; exact hk
  exact ⟨fun i j p q hi hj hpq => by have := h.1 (a.length + i) (a.length + j) p q (g i p hi) (g j q hj) hpq; omega, fun k q hk => h.2 _ q (g k q hk)⟩
theorem ow_apart {A : Nat → Prop} {a b : va_W} (h : va_D A (a ++ b)) {k : Nat} {q : Nat × va_E} (hb : b[k]? = some q) {j : Nat} {e : va_E} (ha : a[j]? = some (q.1, e)) : False := by
  have hj := (List.getElem?_eq_some_iff.mp ha).1
  have h1 := h.1 j (a.length + k) (q.1, e) q (by rw [List.getElem?_append_left hj]; exact ha) (by rw [List.getElem?_append_right (by omega), Nat.add_sub_cancel_left]; exact hb) rfl
  omega
theorem ow_keep {A : Nat → Prop} {D : va_G} {cl : List vw_C} {a b : va_W} {H H1 : Heap} (hD : va_D A (a ++ b)) (hb : va_P D cl b H) (hk : ∀ q : Nat, q < H.size → ¬ va_A a H.size q → H1[q]? = H[q]?) : va_P D cl b H1 :=
  fun k q hq => (hb k q hq).kept (hk q.1 (vx_lt hb hq) (fun h => h.elim (fun ⟨_, _, h2⟩ => ow_apart hD hq h2) (fun h => by have := vx_lt hb hq; omega)))
section OW
variable {p : Program} {l : Launch} {e : Env} {R : Room} {s : State} {m : MethodId} {args : Array Value} {below : List Frame} {meth : Method} {c : Code} {H : Heap} {locs : List Loc} {cells slots : Nat} {Q : State → Prop}
variable {cc : ByteArray} {pc nL : Nat} {ls : Array Slot} {Ts : List Cond} {own cls : String} {D : va_G} {cI cZ cJ : ClassId} {ci : Nat} {T : u_T} {N : Nat} {KS : KSt} {ly : LY} {ad : Nat → Nat} {A : Nat → Prop} {wr : va_W} {st st2 : ST}
/-- a method of an object is called; it answers, or it throws -/
theorem ow_call (hx : p.tables.exec = Jvm.exec) (hb : c.code = cc) (hml : c.maxLocals = nL) (hown : s.vm.findClass own = some m.cls) (hts : ∀ w ∈ Ts, w.before args s = true)
    (hK : va_K D vwCl [(cI, .int), (cZ, .boolean)] s) (hC : oz_C cls ci T N ly) (hD : va_D A (oz_wd ci cI cZ ad ly st ++ wr)) (hA : ∀ q, s.heap.size ≤ q → A q)
    (hKS : ∀ q ∈ KS, ∃ sa, vk_R cls q.1 q.2 sa s) (hBX : ∀ w ∈ oz_BX, va_Nw w s) (hU : vx_Zq Bundle.tN "UNASSIGNED_STACK" Bundle.steD A s s.heap) (hN : vx_Zq Bundle.tN "SUPPRESSED_SENTINEL" Bundle.listD A s s.heap)
    (hP : va_P D vwCl (oz_wd ci cI cZ ad ly st) H) (hPr : va_P D vwCl wr H) (hS : va_S A s.heap H locs) (hlz : ls.size = nL)
    {kc : Nat} {y : MethodName} {ws ws' : List Cond} {rm : Room} {bytes : ByteArray} {maxL index n : Nat} {ret : Option FieldType} {As rest S0 : List Value} {fo : ST → Option Res} {en : Nat} {v : Int32}
    (hM : oz_MI l y ws rm D cI cZ cls ci KS ad ly kc (.ref (ad 0) :: As) fo) (g : GoodIn Ts (wsV own index cls y ws)) (hw : ws = Cond.code y bytes maxL ret :: ws') (hrc : rm.cells = kc) (hrs : rm.slots = 6 * kc)
    (hd : y.cls = cls ∧ y.cls ≠ "java/lang/invoke/MethodHandle" ∧ y.cls ≠ "java/lang/invoke/VarHandle" ∧ (parseMethodDescriptor y.desc).map (fun d => d.parameters.length) = some n) (hR : rm.frames + 1 ≤ R.frames ∧ 8 + (maxL + 11) + rm.locals ≤ R.locals)
    (hn : As.length = n) (hst : S0 = As.reverse ++ .ref (ad 0) :: rest) (hW : (rest.map fun v => v.category).sum ≤ 8) (d : decode cc pc = .ok (.invokevirtual index, 3)) (hf : cells + kc ≤ R.cells ∧ slots + 6 * kc ≤ R.slots)
    (hfo : fo st = some (en, v, st2))
    (kx : en ≠ 0 → ∀ (ce : Cell) (q : Nat) (H1 : Heap) (locs1 : List Loc), va_P D vwCl (oz_wd ci cI cZ ad ly st2) H1 → va_P D vwCl wr H1 → va_S A s.heap H1 locs1 → H1[q]? = some ce → ce.vm = .none → s.vm.findClass (oz_exn en) = some ce.cls → vx_W p l e R s m args below meth c H1 locs1 (cells + kc) (slots + 6 * kc) Q (F0 m pc ls rest) q)
    (kk : en = 0 → ∀ (H1 : Heap) (locs1 : List Loc), va_P D vwCl (oz_wd ci cI cZ ad ly st2) H1 → va_P D vwCl wr H1 → va_S A s.heap H1 locs1 → W p l e R s m args below meth c H1 locs1 (cells + kc) (slots + 6 * kc) Q (F0 m (pc + 3) ls (.int v :: rest))) : W p l e R s m args below meth c H locs cells slots Q (F0 m pc ls S0) := by
  have hDk : va_D A (oz_wd ci cI cZ ad ly st) := ow_D_l hD
  have hAA : ∀ q, va_A (oz_wd ci cI cZ ad ly st) H.size q → A q := fun q h => h.elim (fun ⟨j, e1, hj⟩ => hDk.2 j _ hj) (fun h => hA q (Nat.le_trans hS.1 h))
  have cw := cwV n hts g hw hrc hrs hd hR
  refine vx_calli (vx_runV (As := As) (rest := rest) ⟨hx, hb, hml, hown, hts⟩ (hM H.size st _ hfo) cw ⟨oz_Pre_blind, va_recv hK hP (q0 := 0) hC.1 (oz_wd_obj ci cI cZ ad ly st), fun U hU2 hW2 => ?_⟩ rfl hn hlz hst (lv_room hW) d hf) hS (fun q _ h => hAA q h) hAA (fun q _ h => hAA q h) (fun E ce q9 u t H1 locs1 ht hvm hp hB hz hkeep hS1 hq9 hcv hcl => ?_) (fun r u t H1 locs1 ht hvm hp hB hz hkeep hS1 => ?_)
  · refine ⟨rfl, by rw [hU2], by rw [hU2]; exact hP, va_K.moved hW2.alike hK, hDk.weaken (fun _ _ _ _ => trivial), fun q hq => (hKS q hq).elim fun sa h => ⟨sa, vk_R.warm hW2 h⟩, oz_BX_warm hW2 hBX, ?_, ?_⟩
    · rw [hU2]; exact ((vx_Zq.moved hW2.alike hU).kept hS.2.1).narrow hAA
    · rw [hU2]; exact ((vx_Zq.moved hW2.alike hN).kept hS.2.1).narrow hAA
  · obtain ⟨hp1, hp2⟩ := hp
    obtain ⟨hE, hB⟩ := hB
    cases hp1
    unfold oz_B at hB
    rw [ht] at hB
    rw [hE] at hcl
    exact kx hp2 ce q9 H1 locs1 hB (ow_keep hD hPr hkeep) hS1 hq9 hcv hcl
  · cases hp
    unfold oz_B at hB
    rw [ht] at hB
    exact kk rfl H1 locs1 hB (ow_keep hD hPr hkeep) hS1
end OW
/-- the law's row of one long -/
abbrev ow_out (cJ : ClassId) (ao : Nat) (f : Nat → Int64) : va_W := [(ao, .inl (cJ, 1, .inr (.inl f)))]
abbrev ow_ww (cI cZ cJ : ClassId) (ad : Nat → Nat) (ao : Nat) (st : ST) (f : Nat → Int64) : va_W := oz_wd 0 cI cZ ad oz_lyX0 st ++ ow_out cJ ao f
def ow_NC (U : State) : Prop := va_Nc "java/lang/IllegalStateException" "java/lang/IndexOutOfBoundsException" U ∧ va_Nc "java/lang/IllegalArgumentException" "java/lang/IndexOutOfBoundsException" U ∧ va_Nc "java/lang/IllegalStateException" "java/lang/IllegalArgumentException" U
def ow_Pre (D : va_G) (cI cZ cJ : ClassId) (ad : Nat → Nat) (ao : Nat) (sz : Nat) (st : ST) (f : Nat → Int64) (U : State) : Prop :=
  U.heap.size = sz ∧ va_P D vwCl (ow_ww cI cZ cJ ad ao st f) U.heap ∧ va_K D vwCl [(cI, .int), (cZ, .boolean), (cJ, .long)] U ∧ va_D (fun _ => True) (ow_ww cI cZ cJ ad ao st f) ∧ (∀ q ∈ oz_KSX0, ∃ sa, vk_R RX0 q.1 q.2 sa U) ∧ (∀ w ∈ oz_BX, va_Nw w U) ∧ ow_NC U ∧
  vx_Zq Bundle.tN "UNASSIGNED_STACK" Bundle.steD (va_A (ow_ww cI cZ cJ ad ao st f) sz) U U.heap ∧ vx_Zq Bundle.tN "SUPPRESSED_SENTINEL" Bundle.listD (va_A (ow_ww cI cZ cJ ad ao st f) sz) U U.heap
theorem ow_NC_moved {u U : State} (hvm : u.vm.Alike U.vm) (h : ow_NC u) : ow_NC U := ⟨h.1.moved hvm, h.2.1.moved hvm, h.2.2.moved hvm⟩
theorem ow_Pre_blind {D : va_G} {cI cZ cJ : ClassId} {ad : Nat → Nat} {ao sz : Nat} {st : ST} {f : Nat → Int64} {av : List Value} : FrameBlind (va_Pc av (ow_Pre D cI cZ cJ ad ao sz st f)) := by
  intro a U g mk q
  obtain ⟨q0, q1, q2, q3, q4, q5, q6, q9, q7, q8⟩ := q
  exact ⟨q0, q1, q2, va_K.moved (u := U) (U := U.calling g mk a) (Vm.Alike.refl U.vm) q3, q4, fun x hx => (q5 x hx).elim fun sa h => ⟨sa, vk_R.same (u := U) rfl h⟩, fun x hx => va_Nw.same (u := U) (U := U.calling g mk a) (oz_BX_on x hx) rfl (q6 x hx), ow_NC_moved (u := U) (U := U.calling g mk a) (Vm.Alike.refl U.vm) q9, vx_Zq.moved (u := U) (Vm.Alike.refl U.vm) q7, vx_Zq.moved (u := U) (Vm.Alike.refl U.vm) q8⟩
/-- which number the wrapper answers for which throwable -/
def oz_code : List (Nat × Int32) → Nat → Option Int32
  | [], _ => none
  | (a, c) :: r, e => if e = a then some c else oz_code r e
theorem oz_code1 {a : Nat} {c : Int32} {e : Nat} {r : Int32} (h : oz_code [(a, c)] e = some r) : e = a ∧ r = c := by
  by_cases h1 : e = a
  · simp [oz_code, h1] at h; exact ⟨h1, h.symm⟩
  · simp [oz_code, h1] at h
theorem oz_code2 {a b : Nat} {c d : Int32} {e : Nat} {r : Int32} (h : oz_code [(a, c), (b, d)] e = some r) : (e = a ∧ r = c) ∨ (e = b ∧ r = d) := by
  by_cases h1 : e = a
  · simp [oz_code, h1] at h; exact Or.inl ⟨h1, h.symm⟩
  · by_cases h2 : e = b
    · have h3 : ¬ b = a := fun q => h1 (h2.trans q)
      simp [oz_code, h2, h3] at h; exact Or.inr ⟨h2, h.symm⟩
    · simp [oz_code, h1, h2] at h
/-- what a wrapper answers: the number, the object's state, the row -/
def ow_r (cv : Int32 → Int64) (hs : List (Nat × Int32)) (f : Nat → Int64) (r : Res) : Option (Int32 × ST × (Nat → Int64)) :=
  if r.1 = 0 then some (0, r.2.2, vp_updL f 0 (cv r.2.1)) else match oz_code hs r.1 with
    | none => none
    | some c => some (c, r.2.2, f)
def ow_MW (l : Launch) (y : MethodName) (ws : List Cond) (rm : Room) (D : va_G) (cI cZ cJ : ClassId) (ad : Nat → Nat) (ao : Nat) (kc : Nat) (av : List Value) (cv : Int32 → Int64) (hs : List (Nat × Int32)) (fo : ST → Option Res) : Prop :=
  ∀ (sz : Nat) (st : ST) (f : Nat → Int64) (r0 : Res) (x : Int32 × ST × (Nat → Int64)), fo st = some r0 → ow_r cv hs f r0 = some x → vx_Met l y ws rm (va_Pc av (ow_Pre D cI cZ cJ ad ao sz st f))
    (va_Qi (fun r u => (r, u) = x) (fun (u : ST × (Nat → Int64)) t => va_P D vwCl (ow_ww cI cZ cJ ad ao u.1 u.2) t.heap) (va_A (ow_ww cI cZ cJ ad ao st f) sz)) (vx_X (fun _ : Unit => False) (fun _ _ _ => True) (va_A (ow_ww cI cZ cJ ad ao st f) sz)) kc (6 * kc) (va_A (ow_ww cI cZ cJ ad ao st f) sz)
theorem ow_ww_fst (cI cZ cJ : ClassId) (ad : Nat → Nat) (ao : Nat) (st st2 : ST) (f f2 : Nat → Int64) : (ow_ww cI cZ cJ ad ao st f).map Prod.fst = (ow_ww cI cZ cJ ad ao st2 f2).map Prod.fst := by
  unfold ow_ww ow_out
  rw [List.map_append, List.map_append, oz_wd_fst 0 cI cZ ad oz_lyX0 st st2]
  rfl
/-- what the walk of a wrapper's body may use -/
def ow_E (p : Program) (l : Launch) (s : State) (m : MethodId) (args : Array Value) (meth : Method) (c : Code) (cc : ByteArray) (nL : Nat) (Ts : List Cond) (D : va_G) (cI cZ cJ : ClassId) (ad : Nat → Nat) (ao : Nat) (A : Nat → Prop) (hh : List (Nat × Nat × Nat × Nat)) : Prop :=
  CallFix p m c cc nL s args Ts RL ∧ va_K D vwCl [(cI, .int), (cZ, .boolean), (cJ, .long)] s ∧ (∀ st f, va_D A (ow_ww cI cZ cJ ad ao st f)) ∧ (∀ q, s.heap.size ≤ q → A q) ∧ (∀ q ∈ oz_KSX0, ∃ sa, vk_R RX0 q.1 q.2 sa s) ∧ (∀ w ∈ oz_BX, va_Nw w s) ∧ ow_NC s ∧ vx_Zq Bundle.tN "UNASSIGNED_STACK" Bundle.steD A s s.heap ∧ vx_Zq Bundle.tN "SUPPRESSED_SENTINEL" Bundle.listD A s s.heap ∧ meth.sig.returnType = some .int ∧ meth.locks = false ∧ c.exceptionTable.toList = hh.map (fun h => { startPc := h.1, endPc := h.2.1, handlerPc := h.2.2.1, catchType := h.2.2.2 })
theorem ow_of {l : Launch} {y : MethodName} {ws ws' : List Cond} {rm : Room} {D : va_G} {cI cZ cJ : ClassId} {ad : Nat → Nat} {ao kc : Nat} {av : List Value} {cv : Int32 → Int64} {hs : List (Nat × Int32)} {fo : ST → Option Res} {bytes : ByteArray} {maxL : Nat} {hh : List (Nat × Nat × Nat × Nat)} (hy : plainName y.cls = true) (hw : ws = Cond.codeWith y bytes maxL (some .int) hh :: ws') (hcls : y.cls = RL) (hlen : (lg_sl av).length ≤ maxL)
    (body : ∀ (p : Program) (e : Env) (s : State) (m : MethodId) (below : List Frame) (meth : Method) (c : Code) (st : ST) (f : Nat → Int64) (A : Nat → Prop) (r0 : Res) (x : Int32 × ST × (Nat → Int64)) (ls : Array Slot), ow_E p l s m av.toArray meth c bytes maxL ws D cI cZ cJ ad ao A hh → fo st = some r0 → ow_r cv hs f r0 = some x →
      va_P D vwCl (oz_wd 0 cI cZ ad oz_lyX0 st) s.heap → va_P D vwCl (ow_out cJ ao f) s.heap → lv_has ls maxL (lv_args 0 av) → va_S A s.heap s.heap [] →
      W p l e rm s m av.toArray below meth c s.heap [] 0 0 (vx_MQ below (va_Qi (fun r u => (r, u) = x) (fun (u : ST × (Nat → Int64)) t => va_P D vwCl (ow_ww cI cZ cJ ad ao u.1 u.2) t.heap) A) (vx_X (fun _ : Unit => False) (fun _ _ _ => True) A) av.toArray s kc (6 * kc) A) (F0 m 0 ls [])) : ow_MW l y ws rm D cI cZ cJ ad ao kc av cv hs fo := by
  intro sz st f r0 x hfo hr0
  refine vx_ofWH (cc := bytes) (maxL := maxL) (ret := some .int) (hh := hh) hy hw ?_
  intro p e s m args below meth c s₁ B hml hv
  obtain ⟨rfl, hsz, hP, hK, hD0, hKS, hBX, hNC, hU, hN⟩ := hv
  have hts := atoms_spec (ws := ws) B.pre
  have hown : s.vm.findClass RL = some m.cls := by rw [← hcls]; exact findClass_of_methodNamed B.named
  have htab : c.exceptionTable.toList = hh.map (fun h => { startPc := h.1, endPc := h.2.1, handlerPc := h.2.2.1, catchType := h.2.2.2 }) := by
    have h9 := vx_table (x := y) B (hts (Cond.codeWith y bytes maxL (some .int) hh) (by rw [hw]; exact List.mem_cons_self))
    exact h9
  subst hsz
  generalize hAe : va_A (ow_ww cI cZ cJ ad ao st f) s.heap.size = A at hU hN ⊢
  have hD : ∀ st2 f2, va_D A (ow_ww cI cZ cJ ad ao st2 f2) := fun st2 f2 => by
    rw [← hAe]
    exact oz_D_cong (ow_ww_fst cI cZ cJ ad ao st st2 f f2) (hD0.self (sz := s.heap.size))
  have hA : ∀ q : Nat, s.heap.size ≤ q → A q := fun q h => by rw [← hAe]; exact Or.inr h
  have hl := lv_entry av (n := maxL) hlen
  rw [lg_entry_eq]
  generalize (lg_sl av ++ List.replicate (maxL - (lg_sl av).length) Slot.unset).toArray = ls at hl ⊢
  exact body p e s m below meth c st f A r0 x ls ⟨⟨B.exec, B.bytes, hml, hown, hts⟩, hK, hD, hA, hKS, hBX, hNC, hU, hN, B.returns, B.notSynchronized, htab⟩ hfo hr0 (ow_P_l hP) (ow_P_r hP) hl va_S.rf
/-- a wrapper's end: its number, the row as it is -/
theorem ow_ret {p : Program} {l : Launch} {e : Env} {R : Room} {s : State} {m : MethodId} {args : Array Value} {below : List Frame} {meth : Method} {c : Code} {H : Heap} {locs : List Loc} {cc : ByteArray} {nL : Nat} {Ts : List Cond} {D : va_G} {cI cZ cJ : ClassId} {ad : Nat → Nat} {ao : Nat} {A : Nat → Prop} {hh : List (Nat × Nat × Nat × Nat)} {kc : Nat} {x : Int32 × ST × (Nat → Int64)} {v : Int32} {st : ST} {f : Nat → Int64} {pc k n : Nat} {ls : Array Slot}
    (X : ow_E p l s m args meth c cc nL Ts D cI cZ cJ ad ao A hh) (hx : (v, st, f) = x) (hP : va_P D vwCl (oz_wd 0 cI cZ ad oz_lyX0 st) H) (hPo : va_P D vwCl (ow_out cJ ao f) H) (hS : va_S A s.heap H locs) (hk : k ≤ kc) (hn : n ≤ 6 * kc) (d : decode cc pc = .ok (.ireturn, 1)) :
    W p l e R s m args below meth c H locs k n (vx_MQ below (va_Qi (fun r u => (r, u) = x) (fun (u : ST × (Nat → Int64)) t => va_P D vwCl (ow_ww cI cZ cJ ad ao u.1 u.2) t.heap) A) (vx_X (fun _ : Unit => False) (fun _ _ _ => True) A) args s kc (6 * kc) A) (F0 m pc ls [.int v]) := by
  obtain ⟨⟨h1, h2, h3, h4, h5⟩, hK, hD, hA, hKS, hBX, hNC, hU, hN, hr, hlk, htab⟩ := X
  refine W.widen (k := kc) (n := 6 * kc) hk hn (vx_ret ?_)
  refine W.iret h1 h2 hr (fun t ht hW => ⟨⟨v, (st, f), rfl, hx, ?_⟩, hS.F ht⟩) hS.2.2 d hlk
  show va_P D vwCl (ow_ww cI cZ cJ ad ao st f) t.heap
  rw [ht]
  exact va_P.app hP hPo
theorem ow_r_thrown {cv : Int32 → Int64} {hs : List (Nat × Int32)} {f : Nat → Int64} {en : Nat} {v : Int32} {st : ST} {x : Int32 × ST × (Nat → Int64)} (he : en ≠ 0) (h : ow_r cv hs f (en, v, st) = some x) : ∃ c, oz_code hs en = some c ∧ (c, st, f) = x := by
  simp only [ow_r, if_neg he] at h
  cases hc : oz_code hs en with
  | none => rw [hc] at h; cases h
  | some c => rw [hc] at h; exact ⟨c, rfl, Option.some.inj h⟩
theorem ow_r_back {cv : Int32 → Int64} {hs : List (Nat × Int32)} {f : Nat → Int64} {v : Int32} {st : ST} {x : Int32 × ST × (Nat → Int64)} (h : ow_r cv hs f (0, v, st) = some x) : (0, st, vp_updL f 0 (cv v)) = x := Option.some.inj h
theorem ow_in0 : vp_in 0 1 := by unfold vp_in; decide
def ow_bit (v : Int32) : Int64 := if v = 0 then 0 else 1

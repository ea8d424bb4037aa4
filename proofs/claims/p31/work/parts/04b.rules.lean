section VY
variable {p : Program} {l : Launch} {e : Env} {R : Room} {s : State} {m : MethodId} {args : Array Value} {below : List Frame} {meth : Method} {c : Code} {H : Heap} {locs : List Loc} {cells slots : Nat} {Q : State → Prop}
variable {mc ms : Nat} {free : Addr → Prop} {A0 A1 : Nat → Prop} {H0 : Heap} {a : Array Value} {ls : Array Slot} {st0 rest : List Value}
variable {Qc : Array Value → State → Outcome → State → Prop} {XC : String → State → State → Prop}
/-- as vx_throwS, and the heap has a cell more -/
theorem vy_throwS {cc : ByteArray} {pc : Nat} (hexec : p.tables.exec = Jvm.exec) (hb : c.code = cc) (hl : l.stackTraces = false) {own cls text : String} {names : List String} {ik is ic mc ms sa : Nat} {A : Nat → Prop}
    (hown : s.vm.findClass own = some m.cls) (hcls : Bundle.fit cls = true) (hnames : ∀ n ∈ names, Bundle.fit n = true)
    (hk : (Cond.classLink own ik cls).before args s = true) (hini : (Cond.initialized cls).before args s = true) (hstr : vk_R own is text sa s) (hat : ∀ w ∈ vx_atS own ic cls names, w.before args s = true)
    (hgood : ∀ w ∈ Cond.classLink own ik cls :: Cond.initialized cls :: vx_atS own ic cls names, vx_ot w = true)
    (hU : vx_Zq Bundle.tN "UNASSIGNED_STACK" Bundle.steD A s s.heap) (hN : vx_Zq Bundle.tN "SUPPRESSED_SENTINEL" Bundle.listD A s s.heap) (hS : va_S A s.heap H locs) (hsize : ls.size = c.maxLocals)
    (d0 : decode cc pc = .ok (.new ik, 3)) (d3 : decode cc (pc + 3) = .ok (.dup, 1)) (d4 : decode cc (pc + 4) = .ok (.ldc is, 2)) (d6 : decode cc (pc + 6) = .ok (.invokespecial ic, 3)) (d9 : decode cc (pc + 9) = .ok (.athrow, 1))
    (hout : ∀ x ∈ c.exceptionTable.toList, covers x (pc + 9) = false)
    (hRframes : names.length + 3 < R.frames) (hRlocals : (rest.map fun v => v.category).sum + (13 * (names.length + 1) + 43) ≤ R.locals) (hRcells : cells + 1 ≤ R.cells) (hRslots : slots + 6 ≤ R.slots) (hlocks : meth.locks = false)
    (hx : ∀ t : State, s.vm.Alike t.vm → H.size + 1 ≤ t.heap.size → (∀ q : Nat, q < H.size → t.heap[q]? = H[q]?) → XC cls s t)
    (hf : ∀ z ∈ locs, free z.base) (hc : cells + 1 ≤ mc) (hs : slots + 6 ≤ ms) :
    W p l e R s m args below meth c H locs cells slots (vx_MQ below Qc XC args s mc ms free) (F0 m pc ls rest) := by
  intro T hT X
  have htr : e.platform.stackTraces = false := (show e.platform.stackTraces = l.stackTraces by rw [X.admits.platform]).trans hl
  have Y := vx_rebase X (R' := { frames := R.frames, locals := R.locals, cells := 1, slots := 6 }) (Nat.le_refl _) (Nat.le_refl _) hRcells hRslots
  obtain ⟨s', hA⟩ : ∃ z, z = (T.setVm s.vm).setFrames (.invoking m args :: below) := ⟨_, rfl⟩
  rw [← hA] at Y
  have hvm : s'.vm = s.vm := by rw [hA]; rfl
  have hhp : s'.heap = H := by rw [hA]; exact hT
  have hW0 : s.WarmedH s'.vm := by rw [hvm]; exact State.WarmedH.refl s
  have hat' : ∀ w ∈ vx_atS own ic cls names, w.before args s' = true := fun w hw => vx_ot_at hW0 hvm.symm (hgood w (List.mem_cons_of_mem _ (List.mem_cons_of_mem _ hw))) (hat w hw)
  have hk' : (Cond.classLink own ik cls).before args s' = true := vx_ot_at hW0 hvm.symm (hgood _ List.mem_cons_self) hk
  have hini' : (Cond.initialized cls).before args s' = true := vx_ot_at hW0 hvm.symm (hgood _ (List.mem_cons_of_mem _ List.mem_cons_self)) hini
  have hU' : vx_Zq Bundle.tN "UNASSIGNED_STACK" Bundle.steD A s' s'.heap := by rw [hhp]; exact vx_Zq.moved hW0.alike (hU.kept hS.2.1)
  have hN' : vx_Zq Bundle.tN "SUPPRESSED_SENTINEL" Bundle.listD A s' s'.heap := by rw [hhp]; exact vx_Zq.moved hW0.alike (hN.kept hS.2.1)
  have h : ∀ w ∈ Bundle.ownAtoms own ic cls names, w.before args s' = true := vx_own hat' (vx_isRefq hU'.1) (vx_isRefq hN'.1) hU'.2.word hN'.2.word
  have hown' : s'.vm.findClass own = some m.cls := by rw [hvm]; exact hown
  have hins : (Cond.instantiable cls 6).before args s' = true := h _ (by simp [Bundle.ownAtoms])
  obtain ⟨vm₁, cX, kX, hfX, hkX, -, -, X₁, st1⟩ := Y.newCold hexec (own := own) (C := cls) (index := ik) (n := 6) hown' hk' hins hini'
    (g := F0 m pc ls rest) rfl (by rw [hb]; exact d0) (Nat.le_refl _) (Nat.le_refl _)
  generalize hT1 : (T.setVm vm₁).pushCell { cls := cX, slots := kX.instanceTypes.map defaultValue, vm := .none } = T1 at X₁ st1
  have hcat : (Value.ref T.heap.size).category = 1 := rfl
  have hcellA : T1.heap[T.heap.size]? = some (freshCell cX kX) := by rw [← hT1]; exact State.heap_pushCell_size _ _
  have d3' : decode c.code (pc + 3) = .ok (.dup, 1) := by rw [hb]; exact d3
  have d4' : decode c.code (pc + 4) = .ok (.ldc is, 2) := by rw [hb]; exact d4
  have hstr' : vk_R own is text sa s' := vk_R.warm hW0 hstr
  obtain ⟨U, hsteps, hrun, hend, hW, hsame, ce, hce, hO⟩ := X₁.ctorThrowS hexec htr (own := own) (cls := cls) (names := names) (ic := ic) hown' hcls hnames h (fun x hx => nomatch hx) hfX hkX hcellA (by rw [hhp, hT]; exact Nat.le_refl _) (msg := .ref sa) rfl
    (g := { method := m, pc := pc + 6, locals := ls, stack := .ref sa :: .ref T.heap.size :: .ref T.heap.size :: rest, locked := none }) rfl hsize rfl rfl (rest := rest) rfl
    (by rw [hb]; exact d6) (by rw [hb]; exact d9) hout hRframes (by simp only [List.map_cons, List.sum_cons, hcat]; omega) hlocks
  obtain ⟨f1, f2⟩ := vx_frame hsame
  rw [hhp] at f1 f2
  have hWs : s.WarmedH U.vm := State.WarmedH.trans hW0 hW
  have hcl : s.vm.findClass cls = some ce.cls := by
    have h9 := hO.cls
    rw [hvm] at h9
    exact h9
  have hall : s.sameButNew ({ U with vm := s.vm } : State) locs mc ms := by
    subst hA
    obtain ⟨e1, e2⟩ := hsame
    rw [State.setFrames_setFrames] at e1
    have h2 : (T.setVm s.vm).sameButNew ({ U with vm := s.vm } : State) [] (0 + 1) (0 + 6) := ⟨e1, e2⟩
    have h3 := X.same.trans h2
    rw [List.append_nil] at h3
    exact h3.mono hc hs
  refine ⟨U, ?_, .threw T.heap.size, hrun, hend, Or.inr ⟨T.heap.size, rfl, cls, ce, locs, hx U hWs.alike (by have h8 := (Array.getElem?_eq_some_iff.mp hce).1; rw [hT] at h8; exact h8) (fun q hq => f2 q hq (fun z hz => nomatch hz)), hce, hO.vm, hcl, hWs, hall, hf⟩⟩
  refine st1 _ ?_
  show Steps p.tables e below (T1.setTop { method := m, pc := pc + 3, locals := ls, stack := .ref T.heap.size :: rest, locked := none }) _
  jvm_step X₁.here [X₁.here.top, hexec, d3', Value.category]
  exact X₁.ldcString hexec (own := own) (text := text) (index := is) (a := sa) hown' hstr'.1 hstr'.2
    (g := { method := m, pc := pc + 4, locals := ls, stack := .ref T.heap.size :: .ref T.heap.size :: rest, locked := none }) rfl d4' _ hsteps
end VY
/-! THE OBJECT AS IT IS MADE: its rows, which no call of this walk changes -/
def FX : ST := fun a => match a with
  | 0 => fun b => if b = 18 then -1 else if b = 15 then 1 else 0
  | 2 => fun b => if b < 5 then 20 else 0
  | 5 => fun b => if b < 12 then -1 else 0
  | 6 => fun b => if b < 12 then -1 else 0
  | 7 => fun b => if b < 12 then -1 else 0
  | _ => fun _ => 0
abbrev RC : Type := Nat × Int32 × Int32
/-! THE ROAD OF ONE METHOD: G k pc L S st o: st is the count of throwables so far: ad 99 and that count are no more than the heap's cells. -/
def oz_exn (n : Nat) : String := if n = 1 then "java/lang/IndexOutOfBoundsException" else if n = 2 then "java/lang/IllegalStateException" else "java/lang/IllegalArgumentException"
def oz_in (i : Int32) (n : Nat) : Bool := decide (0 ≤ i.toInt ∧ i.toInt < n)
theorem oz_in_spec {i : Int32} {n : Nat} (h : oz_in i n = true) : vp_in i n := vp_in_iff.mpr (of_decide_eq_true h)
def gd (b : Bool) (o : Option RC) : Option RC := if b = true then o else none
/-- the answer of a call; what it throws is thrown on -/
def bnd (o : Option RC) (f : Int32 → Int32 → Option RC) : Option RC := match o with
  | none => none
  | some (e, v, st) => if e = 0 then f v st else some (e, 0, st)
/-- a long for an answer: 4 and its 64 bits stand in the place of the throwable's number -/
def bndL (o : Option RC) (f : Int64 → Int32 → Option RC) : Option RC := match o with
  | none => none
  | some (e, _, st) => if e < 4 then none else f (Int64.ofNat (e - 4)) st
def lgc (r : Int64) : Nat := 4 + r.toUInt64.toNat
theorem lgc_back (r : Int64) : Int64.ofNat (lgc r - 4) = r := by
  unfold lgc
  rw [Nat.add_sub_cancel_left]
  apply Int64.toBitVec_inj.mp
  simp
/-- one throwable more -/
def bump (st : Int32) : Int32 := st + 1
def gh (ad : Nat → Nat) (st : Int32) : Nat := ad 99 + st.toNatClampNeg
theorem gh_bump (ad : Nat → Nat) (st : Int32) : gh ad (bump st) ≤ gh ad st + 1 := by
  have h1 : (st + 1).toInt = (st.toInt + 1).bmod (2 ^ 32) := by rw [Int32.toInt_add]; rfl
  have h2 := st.toInt_lt
  have h3 := st.le_toInt
  have h4 : (st + 1).toNatClampNeg ≤ st.toNatClampNeg + 1 := by
    show (st + 1).toInt.toNat ≤ st.toInt.toNat + 1
    rw [h1, Int.bmod]
    split <;> omega
  show ad 99 + (st + 1).toNatClampNeg ≤ ad 99 + st.toNatClampNeg + 1
  omega
/-- the object's cells, and the count -/
def oz_P (D : va_G) (cI cZ : ClassId) (ci : Nat) (ad : Nat → Nat) (ly : LY) (st : Int32) (H : Heap) : Prop := va_P D vwCl (oz_wd ci cI cZ ad ly FX) H ∧ gh ad st ≤ H.size
def oz_names : List String := ["java/lang/RuntimeException", "java/lang/Exception"]
def oz_BX : List Cond := [.declares (Bundle.initS "java/lang/RuntimeException"), .declares (Bundle.initS "java/lang/Exception"), .declares (Bundle.initS "java/lang/Throwable"), .castable "java/lang/IndexOutOfBoundsException" "java/lang/IndexOutOfBoundsException", .castable "java/lang/IllegalStateException" "java/lang/IllegalStateException", .castable "java/lang/IllegalArgumentException" "java/lang/IllegalArgumentException"]
theorem oz_BX_on : ∀ w ∈ oz_BX, w.onTables = true := by decide +kernel
theorem oz_BX_all {P : Cond → Prop} (h : P (.declares (Bundle.initS "java/lang/RuntimeException")) ∧ P (.declares (Bundle.initS "java/lang/Exception")) ∧ P (.declares (Bundle.initS "java/lang/Throwable")) ∧ P (.castable "java/lang/IndexOutOfBoundsException" "java/lang/IndexOutOfBoundsException") ∧ P (.castable "java/lang/IllegalStateException" "java/lang/IllegalStateException") ∧ P (.castable "java/lang/IllegalArgumentException" "java/lang/IllegalArgumentException")) : ∀ w ∈ oz_BX, P w := by
  intro w hw
  simp only [oz_BX, List.mem_cons, List.not_mem_nil, or_false] at hw
  obtain ⟨h1, h2, h3, h4, h5, h6⟩ := h
  rcases hw with rfl | rfl | rfl | rfl | rfl | rfl <;> assumption
theorem oz_BX_warm {s U : State} (hW : s.WarmedH U.vm) (h : ∀ w ∈ oz_BX, va_Nw w s) : ∀ w ∈ oz_BX, va_Nw w U := by
  have g : ∀ {w}, w ∈ oz_BX → va_Nw w s := fun hw => h _ hw
  refine oz_BX_all ⟨va_Nw.warmD hW (g ?_), va_Nw.warmD hW (g ?_), va_Nw.warmD hW (g ?_), va_Nw.warmC hW (g ?_), va_Nw.warmC hW (g ?_), va_Nw.warmC hW (g ?_)⟩ <;> simp [oz_BX]
def ow_NC (U : State) : Prop := va_Nc "java/lang/IllegalStateException" "java/lang/IndexOutOfBoundsException" U ∧ va_Nc "java/lang/IllegalArgumentException" "java/lang/IndexOutOfBoundsException" U ∧ va_Nc "java/lang/IllegalStateException" "java/lang/IllegalArgumentException" U
theorem ow_NC_moved {u U : State} (hvm : u.vm.Alike U.vm) (h : ow_NC u) : ow_NC U := ⟨h.1.moved hvm, h.2.1.moved hvm, h.2.2.moved hvm⟩
abbrev KSt : Type := List (Nat × String)
/-- what a method's caller gives; own: the object's class -/
def oz_Pre (D : va_G) (cI cZ : ClassId) (own : String) (ci : Nat) (KS : KSt) (ad : Nat → Nat) (ly : LY) (sz : Nat) (st : Int32) (U : State) : Prop :=
  U.heap.size = sz ∧ oz_P D cI cZ ci ad ly st U.heap ∧ va_K D vwCl [(cI, .int), (cZ, .boolean)] U ∧ va_D (fun _ => True) (oz_wd ci cI cZ ad ly FX) ∧ (∀ q ∈ KS, ∃ sa, vk_R own q.1 q.2 sa U) ∧ (∀ w ∈ oz_BX, va_Nw w U) ∧ ow_NC U ∧
  vx_Zq Bundle.tN "UNASSIGNED_STACK" Bundle.steD (va_A (oz_wd ci cI cZ ad ly FX) sz) U U.heap ∧ vx_Zq Bundle.tN "SUPPRESSED_SENTINEL" Bundle.listD (va_A (oz_wd ci cI cZ ad ly FX) sz) U U.heap
theorem oz_Pre_blind {D : va_G} {cI cZ : ClassId} {own : String} {ci : Nat} {KS : KSt} {ad : Nat → Nat} {ly : LY} {sz : Nat} {st : Int32} {av : List Value} : FrameBlind (va_Pc av (oz_Pre D cI cZ own ci KS ad ly sz st)) := by
  intro a U g mk q
  obtain ⟨q0, q1, q2, q3, q4, q5, q6, q9, q7, q8⟩ := q
  exact ⟨q0, q1, q2, va_K.moved (u := U) (U := U.calling g mk a) (Vm.Alike.refl U.vm) q3, q4, fun x hx => (q5 x hx).elim fun sa h => ⟨sa, vk_R.same (u := U) rfl h⟩, fun x hx => va_Nw.same (u := U) (U := U.calling g mk a) (oz_BX_on x hx) rfl (q6 x hx), ow_NC_moved (u := U) (U := U.calling g mk a) (Vm.Alike.refl U.vm) q9, vx_Zq.moved (u := U) (Vm.Alike.refl U.vm) q7, vx_Zq.moved (u := U) (Vm.Alike.refl U.vm) q8⟩
def oz_B (D : va_G) (cI cZ : ClassId) (ci : Nat) (ad : Nat → Nat) (ly : LY) (u : Int32) (t : State) : Prop := oz_P D cI cZ ci ad ly u t.heap
def oz_XC (D : va_G) (cI cZ : ClassId) (ci : Nat) (ad : Nat → Nat) (ly : LY) (res : RC) (A : Nat → Prop) : String → State → State → Prop :=
  vx_X (fun u : Nat × Int32 => (u.1, 0, u.2) = res ∧ u.1 ≠ 0 ∧ u.1 < 4) (fun E u t => E = oz_exn u.1 ∧ oz_B D cI cZ ci ad ly u.2 t) A
def oz_Qi (D : va_G) (cI cZ : ClassId) (ci : Nat) (ad : Nat → Nat) (ly : LY) (res : RC) (A : Nat → Prop) : Array Value → State → Outcome → State → Prop :=
  va_Qi (fun r u => (0, r, u) = res) (oz_B D cI cZ ci ad ly) A
def oz_Ql (D : va_G) (cI cZ : ClassId) (ci : Nat) (ad : Nat → Nat) (ly : LY) (res : RC) (A : Nat → Prop) : Array Value → State → Outcome → State → Prop :=
  va_Ql (fun r u => (lgc r, 0, u) = res) (oz_B D cI cZ ci ad ly) A
/-- THE CONTRACT of a method with a number for an answer: what it answers, or throws, is o -/
def oz_MI (l : Launch) (y : MethodName) (ws : List Cond) (rm : Room) (D : va_G) (cI cZ : ClassId) (own : String) (ci : Nat) (KS : KSt) (ad : Nat → Nat) (ly : LY) (kc : Nat) (av : List Value) (o : Int32 → Option RC) : Prop :=
  ∀ (sz : Nat) (st : Int32) (res : RC), o st = some res → vx_Met l y ws rm (va_Pc av (oz_Pre D cI cZ own ci KS ad ly sz st)) (oz_Qi D cI cZ ci ad ly res (va_A (oz_wd ci cI cZ ad ly FX) sz)) (oz_XC D cI cZ ci ad ly res (va_A (oz_wd ci cI cZ ad ly FX) sz)) kc (6 * kc) (va_A (oz_wd ci cI cZ ad ly FX) sz)
/-- .. with a long for an answer -/
def oz_ML (l : Launch) (y : MethodName) (ws : List Cond) (rm : Room) (D : va_G) (cI cZ : ClassId) (own : String) (ci : Nat) (KS : KSt) (ad : Nat → Nat) (ly : LY) (kc : Nat) (av : List Value) (o : Int32 → Option RC) : Prop :=
  ∀ (sz : Nat) (st : Int32) (res : RC), o st = some res → vx_Met l y ws rm (va_Pc av (oz_Pre D cI cZ own ci KS ad ly sz st)) (oz_Ql D cI cZ ci ad ly res (va_A (oz_wd ci cI cZ ad ly FX) sz)) (oz_XC D cI cZ ci ad ly res (va_A (oz_wd ci cI cZ ad ly FX) sz)) kc (6 * kc) (va_A (oz_wd ci cI cZ ad ly FX) sz)
/-- what is known of a class -/
def oz_C (own : String) (ci : Nat) (T : u_T) (N : Nat) (ly : LY) : Prop :=
  vwCl[ci]? = some (own, T, N) ∧ ly.length = N ∧ (∀ k, k < N → (T k).1 = own) ∧ N < 99
section OZ
variable {p : Program} {l : Launch} {e : Env} {R : Room} {s : State} {m : MethodId} {args : Array Value} {below : List Frame} {meth : Method} {c : Code} {Q : State → Prop}
variable {cc : ByteArray} {nL : Nat} {Ts : List Cond} {own wn : String} {D : va_G} {cI cZ : ClassId} {ci : Nat} {T : u_T} {N : Nat} {KS : KSt} {ly : LY} {ad : Nat → Nat} {A : Nat → Prop} {res : RC} {hh : List (Nat × Nat × Nat × Nat)}
variable {G : Nat → Nat → List (Nat × Value) → List Value → Int32 → Option RC → Prop}
/-- wn: the class of the method that is walked; own: the object's -/
def oz_E (p : Program) (l : Launch) (e : Env) (R : Room) (s : State) (m : MethodId) (args : Array Value) (below : List Frame) (meth : Method) (c : Code) (Q : State → Prop) (cc : ByteArray) (nL : Nat) (Ts : List Cond) (own wn : String) (D : va_G) (cI cZ : ClassId) (ci : Nat) (T : u_T) (N : Nat) (KS : KSt) (ly : LY) (ad : Nat → Nat) (A : Nat → Prop) (res : RC) (hh : List (Nat × Nat × Nat × Nat)) (G : Nat → Nat → List (Nat × Value) → List Value → Int32 → Option RC → Prop) : Prop :=
  (G = fun k pc L S st o => o = some res → ∀ (H : Heap) (locs : List Loc) (ls : Array Slot), oz_P D cI cZ ci ad ly st H → va_S A s.heap H locs → lv_has ls nL L → W p l e R s m args below meth c H locs k (6 * k) Q (F0 m pc ls S)) ∧
  CallFix p m c cc nL s args Ts wn ∧ va_K D vwCl [(cI, .int), (cZ, .boolean)] s ∧ va_D A (oz_wd ci cI cZ ad ly FX) ∧ (∀ q, s.heap.size ≤ q → A q) ∧ oz_C own ci T N ly ∧
  (∀ q ∈ KS, ∃ sa, vk_R own q.1 q.2 sa s) ∧ (∀ w ∈ oz_BX, va_Nw w s) ∧ ow_NC s ∧ vx_Zq Bundle.tN "UNASSIGNED_STACK" Bundle.steD A s s.heap ∧ vx_Zq Bundle.tN "SUPPRESSED_SENTINEL" Bundle.listD A s s.heap ∧ l.stackTraces = false ∧ meth.locks = false ∧ c.exceptionTable.toList = hh.map (fun h => { startPc := h.1, endPc := h.2.1, handlerPc := h.2.2.1, catchType := h.2.2.2 })
variable {pc k : Nat} {L : List (Nat × Value)} {S : List Value} {st : Int32} {o o1 o2 : Option RC}
theorem oz_E.hts (X : oz_E p l e R s m args below meth c Q cc nL Ts own wn D cI cZ ci T N KS ly ad A res hh G) : ∀ w ∈ Ts, w.before args s = true := X.2.1.2.2.2.2
theorem oz_sub (X : oz_E p l e R s m args below meth c Q cc nL Ts own wn D cI cZ ci T N KS ly ad A res hh G) (ks : List Nat) {L2 : List (Nat × Value)} (h : lv_pick L ks = L2) (kk : G k pc L2 S st o) : G k pc L S st o := by
  obtain ⟨rfl, -⟩ := X
  intro ho H locs ls hP hS hl
  exact kk ho H locs ls hP hS (lv_sub hl ks h)

theorem oz_iconst (X : oz_E p l e R s m args below meth c Q cc nL Ts own wn D cI cZ ci T N KS ly ad A res hh G) {n : Int} {v : Int32} (d : decode cc pc = .ok (.iconst n, 1)) (hv : Int32.ofInt n = v) (kk : G k (pc + 1) L (.int v :: S) st o) : G k pc L (S) st o := by
  obtain ⟨rfl, ⟨hx, hb, -⟩, -⟩ := X
  intro ho H locs ls hP hS hl
  exact lv_iconst hx hb d hv (kk ho H locs ls hP hS hl)
theorem oz_bipush (X : oz_E p l e R s m args below meth c Q cc nL Ts own wn D cI cZ ci T N KS ly ad A res hh G) {n : Int} {v : Int32} (d : decode cc pc = .ok (.bipush n, 2)) (hv : (Int8.ofInt n).toInt32 = v) (kk : G k (pc + 2) L (.int v :: S) st o) : G k pc L (S) st o := by
  obtain ⟨rfl, ⟨hx, hb, -⟩, -⟩ := X
  intro ho H locs ls hP hS hl
  exact lv_bipush hx hb d hv (kk ho H locs ls hP hS hl)
theorem oz_sipush (X : oz_E p l e R s m args below meth c Q cc nL Ts own wn D cI cZ ci T N KS ly ad A res hh G) {n : Int} {v : Int32} (d : decode cc pc = .ok (.sipush n, 3)) (hv : (Int16.ofInt n).toInt32 = v) (kk : G k (pc + 3) L (.int v :: S) st o) : G k pc L (S) st o := by
  obtain ⟨rfl, ⟨hx, hb, -⟩, -⟩ := X
  intro ho H locs ls hP hS hl
  exact lv_sipush hx hb d hv (kk ho H locs ls hP hS hl)
theorem oz_iload_n (X : oz_E p l e R s m args below meth c Q cc nL Ts own wn D cI cZ ci T N KS ly ad A res hh G) {j : Fin 4} {i : Nat} {x : Int32} (d : decode cc pc = .ok (.iload_n j, 1)) (hi : (j : Nat) = i) (q : Nat) (hq : L[q]? = some (i, .int x)) (kk : G k (pc + 1) L (.int x :: S) st o) : G k pc L (S) st o := by
  obtain ⟨rfl, ⟨hx, hb, -⟩, -⟩ := X
  intro ho H locs ls hP hS hl
  exact lv_iload_n hx hb d hi (lv_at hl q hq) (kk ho H locs ls hP hS hl)
theorem oz_iload (X : oz_E p l e R s m args below meth c Q cc nL Ts own wn D cI cZ ci T N KS ly ad A res hh G) {i : Nat} {x : Int32} (d : decode cc pc = .ok (.iload i, 2)) (q : Nat) (hq : L[q]? = some (i, .int x)) (kk : G k (pc + 2) L (.int x :: S) st o) : G k pc L (S) st o := by
  obtain ⟨rfl, ⟨hx, hb, -⟩, -⟩ := X
  intro ho H locs ls hP hS hl
  exact lv_iload hx hb d (lv_at hl q hq) (kk ho H locs ls hP hS hl)
theorem oz_lload_n (X : oz_E p l e R s m args below meth c Q cc nL Ts own wn D cI cZ ci T N KS ly ad A res hh G) {j : Fin 4} {i : Nat} {x : Int64} (d : decode cc pc = .ok (.lload_n j, 1)) (hi : (j : Nat) = i) (q : Nat) (hq : L[q]? = some (i, .long x)) (kk : G k (pc + 1) L (.long x :: S) st o) : G k pc L (S) st o := by
  obtain ⟨rfl, ⟨hx, hb, -⟩, -⟩ := X
  intro ho H locs ls hP hS hl
  exact lv_lload_n hx hb d hi (lv_at hl q hq) (kk ho H locs ls hP hS hl)
theorem oz_lload (X : oz_E p l e R s m args below meth c Q cc nL Ts own wn D cI cZ ci T N KS ly ad A res hh G) {i : Nat} {x : Int64} (d : decode cc pc = .ok (.lload i, 2)) (q : Nat) (hq : L[q]? = some (i, .long x)) (kk : G k (pc + 2) L (.long x :: S) st o) : G k pc L (S) st o := by
  obtain ⟨rfl, ⟨hx, hb, -⟩, -⟩ := X
  intro ho H locs ls hP hS hl
  exact lv_lload hx hb d (lv_at hl q hq) (kk ho H locs ls hP hS hl)
theorem oz_aload_n (X : oz_E p l e R s m args below meth c Q cc nL Ts own wn D cI cZ ci T N KS ly ad A res hh G) {j : Fin 4} {i x : Nat} (d : decode cc pc = .ok (.aload_n j, 1)) (hi : (j : Nat) = i) (q : Nat) (hq : L[q]? = some (i, .ref x)) (kk : G k (pc + 1) L (.ref x :: S) st o) : G k pc L (S) st o := by
  obtain ⟨rfl, ⟨hx, hb, -⟩, -⟩ := X
  intro ho H locs ls hP hS hl
  exact lv_aload_n hx hb d hi (lv_at hl q hq) (kk ho H locs ls hP hS hl)
theorem oz_iadd (X : oz_E p l e R s m args below meth c Q cc nL Ts own wn D cI cZ ci T N KS ly ad A res hh G) {x y : Int32} (d : decode cc pc = .ok (.iadd, 1)) (kk : G k (pc + 1) L (.int (x + y) :: S) st o) : G k pc L (.int y :: .int x :: S) st o := by
  obtain ⟨rfl, ⟨hx, hb, -⟩, -⟩ := X
  intro ho H locs ls hP hS hl
  exact lv_iadd hx hb d (kk ho H locs ls hP hS hl)
theorem oz_isub (X : oz_E p l e R s m args below meth c Q cc nL Ts own wn D cI cZ ci T N KS ly ad A res hh G) {x y : Int32} (d : decode cc pc = .ok (.isub, 1)) (kk : G k (pc + 1) L (.int (x - y) :: S) st o) : G k pc L (.int y :: .int x :: S) st o := by
  obtain ⟨rfl, ⟨hx, hb, -⟩, -⟩ := X
  intro ho H locs ls hP hS hl
  exact lv_isub hx hb d (kk ho H locs ls hP hS hl)
theorem oz_imul (X : oz_E p l e R s m args below meth c Q cc nL Ts own wn D cI cZ ci T N KS ly ad A res hh G) {x y : Int32} (d : decode cc pc = .ok (.imul, 1)) (kk : G k (pc + 1) L (.int (x * y) :: S) st o) : G k pc L (.int y :: .int x :: S) st o := by
  obtain ⟨rfl, ⟨hx, hb, -⟩, -⟩ := X
  intro ho H locs ls hP hS hl
  exact lv_imul hx hb d (kk ho H locs ls hP hS hl)
theorem oz_ior (X : oz_E p l e R s m args below meth c Q cc nL Ts own wn D cI cZ ci T N KS ly ad A res hh G) {x y : Int32} (d : decode cc pc = .ok (.ior, 1)) (kk : G k (pc + 1) L (.int (x ||| y) :: S) st o) : G k pc L (.int y :: .int x :: S) st o := by
  obtain ⟨rfl, ⟨hx, hb, -⟩, -⟩ := X
  intro ho H locs ls hP hS hl
  exact lv_ior hx hb d (kk ho H locs ls hP hS hl)
theorem oz_iand (X : oz_E p l e R s m args below meth c Q cc nL Ts own wn D cI cZ ci T N KS ly ad A res hh G) {x y : Int32} (d : decode cc pc = .ok (.iand, 1)) (kk : G k (pc + 1) L (.int (x &&& y) :: S) st o) : G k pc L (.int y :: .int x :: S) st o := by
  obtain ⟨rfl, ⟨hx, hb, -⟩, -⟩ := X
  intro ho H locs ls hP hS hl
  exact lv_iand hx hb d (kk ho H locs ls hP hS hl)
theorem oz_idiv (X : oz_E p l e R s m args below meth c Q cc nL Ts own wn D cI cZ ci T N KS ly ad A res hh G) {x y : Int32} (d : decode cc pc = .ok (.idiv, 1)) (hne : ¬ y = 0) (kk : G k (pc + 1) L (.int (x / y) :: S) st o) : G k pc L (.int y :: .int x :: S) st o := by
  obtain ⟨rfl, ⟨hx, hb, -⟩, -⟩ := X
  intro ho H locs ls hP hS hl
  exact lv_idiv hx hb d hne (kk ho H locs ls hP hS hl)
theorem oz_irem (X : oz_E p l e R s m args below meth c Q cc nL Ts own wn D cI cZ ci T N KS ly ad A res hh G) {x y : Int32} (d : decode cc pc = .ok (.irem, 1)) (hne : ¬ y = 0) (kk : G k (pc + 1) L (.int (x - x / y * y) :: S) st o) : G k pc L (.int y :: .int x :: S) st o := by
  obtain ⟨rfl, ⟨hx, hb, -⟩, -⟩ := X
  intro ho H locs ls hP hS hl
  exact lv_irem hx hb d hne (kk ho H locs ls hP hS hl)
theorem oz_ladd (X : oz_E p l e R s m args below meth c Q cc nL Ts own wn D cI cZ ci T N KS ly ad A res hh G) {x y : Int64} (d : decode cc pc = .ok (.ladd, 1)) (kk : G k (pc + 1) L (.long (x + y) :: S) st o) : G k pc L (.long y :: .long x :: S) st o := by
  obtain ⟨rfl, ⟨hx, hb, -⟩, -⟩ := X
  intro ho H locs ls hP hS hl
  exact lv_ladd hx hb d (kk ho H locs ls hP hS hl)
theorem oz_lmul (X : oz_E p l e R s m args below meth c Q cc nL Ts own wn D cI cZ ci T N KS ly ad A res hh G) {x y : Int64} (d : decode cc pc = .ok (.lmul, 1)) (kk : G k (pc + 1) L (.long (x * y) :: S) st o) : G k pc L (.long y :: .long x :: S) st o := by
  obtain ⟨rfl, ⟨hx, hb, -⟩, -⟩ := X
  intro ho H locs ls hP hS hl
  exact lv_lmul hx hb d (kk ho H locs ls hP hS hl)
theorem oz_i2l (X : oz_E p l e R s m args below meth c Q cc nL Ts own wn D cI cZ ci T N KS ly ad A res hh G) {x : Int32} (d : decode cc pc = .ok (.i2l, 1)) (kk : G k (pc + 1) L (.long x.toInt64 :: S) st o) : G k pc L (.int x :: S) st o := by
  obtain ⟨rfl, ⟨hx, hb, -⟩, -⟩ := X
  intro ho H locs ls hP hS hl
  exact lv_i2l hx hb d rfl (kk ho H locs ls hP hS hl)
theorem oz_lcmp (X : oz_E p l e R s m args below meth c Q cc nL Ts own wn D cI cZ ci T N KS ly ad A res hh G) {x y : Int64} (d : decode cc pc = .ok (.lcmp, 1)) (kk : G k (pc + 1) L (.int (lg_cmp x y) :: S) st o) : G k pc L (.long y :: .long x :: S) st o := by
  obtain ⟨rfl, ⟨hx, hb, -⟩, -⟩ := X
  intro ho H locs ls hP hS hl
  exact W.lcmp hx hb d (kk ho H locs ls hP hS hl)
theorem oz_dup (X : oz_E p l e R s m args below meth c Q cc nL Ts own wn D cI cZ ci T N KS ly ad A res hh G) {a : Value} (d : decode cc pc = .ok (.dup, 1)) (ha : a.category = 1) (kk : G k (pc + 1) L (a :: a :: S) st o) : G k pc L (a :: S) st o := by
  obtain ⟨rfl, ⟨hx, hb, -⟩, -⟩ := X
  intro ho H locs ls hP hS hl
  exact lv_dup hx hb d ha (kk ho H locs ls hP hS hl)
theorem oz_ldc (X : oz_E p l e R s m args below meth c Q cc nL Ts own wn D cI cZ ci T N KS ly ad A res hh G) {index : Nat} {v : Int32} (hc : Cond.constant wn index v ∈ Ts) (d : decode cc pc = .ok (.ldc index, 2)) (kk : G k (pc + 2) L (.int v :: S) st o) : G k pc L S st o := by
  obtain ⟨rfl, ⟨hx, hb, hml, hown, hts⟩, -⟩ := X
  intro ho H locs ls hP hS hl
  exact lv_ldc hx hb hown (hts _ hc) d (kk ho H locs ls hP hS hl)
theorem oz_ldc2 (X : oz_E p l e R s m args below meth c Q cc nL Ts own wn D cI cZ ci T N KS ly ad A res hh G) {index : Nat} {v : Int64} (hc : Cond.constantLong wn index v ∈ Ts) (d : decode cc pc = .ok (.ldc2_w index, 3)) (kk : G k (pc + 3) L (.long v :: S) st o) : G k pc L S st o := by
  obtain ⟨rfl, ⟨hx, hb, hml, hown, hts⟩, -⟩ := X
  intro ho H locs ls hP hS hl
  exact lv_ldc2 hx hb hown (hts _ hc) d (kk ho H locs ls hP hS hl)
theorem oz_istore_n (X : oz_E p l e R s m args below meth c Q cc nL Ts own wn D cI cZ ci T N KS ly ad A res hh G) {j : Fin 4} {i : Nat} {x : Int32} {L2 : List (Nat × Value)} (d : decode cc pc = .ok (.istore_n j, 1)) (hi : (j : Nat) = i) (hn : i < nL) (hL : (i, Value.int x) :: L.filter (fun q => !(q.1 == i) && !(q.1 + 1 == i && q.2.category == 2)) = L2) (kk : G k (pc + 1) L2 S st o) : G k pc L (.int x :: S) st o := by
  obtain ⟨rfl, ⟨hx, hb, -⟩, -⟩ := X
  intro ho H locs ls hP hS hl
  exact lv_istore_n hx hb d hi hl hn hL (fun ls2 hl2 => kk ho H locs ls2 hP hS hl2)
theorem oz_istore (X : oz_E p l e R s m args below meth c Q cc nL Ts own wn D cI cZ ci T N KS ly ad A res hh G)  {i : Nat} {x : Int32} {L2 : List (Nat × Value)} (d : decode cc pc = .ok (.istore i, 2))  (hn : i < nL) (hL : (i, Value.int x) :: L.filter (fun q => !(q.1 == i) && !(q.1 + 1 == i && q.2.category == 2)) = L2) (kk : G k (pc + 2) L2 S st o) : G k pc L (.int x :: S) st o := by
  obtain ⟨rfl, ⟨hx, hb, -⟩, -⟩ := X
  intro ho H locs ls hP hS hl
  exact lv_istore hx hb d hl hn hL (fun ls2 hl2 => kk ho H locs ls2 hP hS hl2)
theorem oz_lstore_n (X : oz_E p l e R s m args below meth c Q cc nL Ts own wn D cI cZ ci T N KS ly ad A res hh G) {j : Fin 4} {i : Nat} {x : Int64} {L2 : List (Nat × Value)} (d : decode cc pc = .ok (.lstore_n j, 1)) (hi : (j : Nat) = i) (hn : i + 1 < nL) (hL : (i, Value.long x) :: L.filter (fun q => !(q.1 == i) && (!(q.1 == i + 1) && !(q.1 + 1 == i && q.2.category == 2))) = L2) (kk : G k (pc + 1) L2 S st o) : G k pc L (.long x :: S) st o := by
  obtain ⟨rfl, ⟨hx, hb, -⟩, -⟩ := X
  intro ho H locs ls hP hS hl
  exact lv_lstore_n hx hb d hi hl hn hL (fun ls2 hl2 => kk ho H locs ls2 hP hS hl2)
theorem oz_lstore (X : oz_E p l e R s m args below meth c Q cc nL Ts own wn D cI cZ ci T N KS ly ad A res hh G)  {i : Nat} {x : Int64} {L2 : List (Nat × Value)} (d : decode cc pc = .ok (.lstore i, 2))  (hn : i + 1 < nL) (hL : (i, Value.long x) :: L.filter (fun q => !(q.1 == i) && (!(q.1 == i + 1) && !(q.1 + 1 == i && q.2.category == 2))) = L2) (kk : G k (pc + 2) L2 S st o) : G k pc L (.long x :: S) st o := by
  obtain ⟨rfl, ⟨hx, hb, -⟩, -⟩ := X
  intro ho H locs ls hP hS hl
  exact lv_lstore hx hb d hl hn hL (fun ls2 hl2 => kk ho H locs ls2 hP hS hl2)
theorem oz_iinc (X : oz_E p l e R s m args below meth c Q cc nL Ts own wn D cI cZ ci T N KS ly ad A res hh G) {i q : Nat} {n : Int} {x v : Int32} {L2 : List (Nat × Value)} (d : decode cc pc = .ok (.iinc i n, 3)) (hq : L[q]? = some (i, .int x)) (hv : x + Int32.ofInt n = v) (hn : i < nL) (hL : (i, Value.int v) :: L.filter (fun q => !(q.1 == i) && !(q.1 + 1 == i && q.2.category == 2)) = L2) (kk : G k (pc + 3) L2 S st o) : G k pc L S st o := by
  obtain ⟨rfl, ⟨hx, hb, -⟩, -⟩ := X
  intro ho H locs ls hP hS hl
  exact lv_iinc hx hb d hl hq hv hn hL (fun ls2 hl2 => kk ho H locs ls2 hP hS hl2)
theorem oz_if_eq (X : oz_E p l e R s m args below meth c Q cc nL Ts own wn D cI cZ ci T N KS ly ad A res hh G) {x : Int32} {off : Int} {tgt : Nat} (d : decode cc pc = .ok (.ifCond .eq off, 3)) (ht : (pc : Int) + off = (tgt : Int)) (k1 : x = 0 → G k tgt L S st o1) (k2 : ¬ x = 0 → G k (pc + 3) L S st o2) : G k pc L (.int x :: S) st (if x = 0 then o1 else o2) := by
  obtain ⟨rfl, ⟨hx, hb, -⟩, -⟩ := X
  intro ho H locs ls hP hS hl
  exact lv_if_eq hx hb d ht (fun h => (k1 h (by rw [if_pos h] at ho; exact ho) H locs ls hP hS hl)) (fun h => (k2 h (by rw [if_neg h] at ho; exact ho) H locs ls hP hS hl))
theorem oz_icmp_eq (X : oz_E p l e R s m args below meth c Q cc nL Ts own wn D cI cZ ci T N KS ly ad A res hh G) {x y : Int32} {off : Int} {tgt : Nat} (d : decode cc pc = .ok (.if_icmp .eq off, 3)) (ht : (pc : Int) + off = (tgt : Int)) (k1 : x = y → G k tgt L S st o1) (k2 : ¬ x = y → G k (pc + 3) L S st o2) : G k pc L (.int y :: .int x :: S) st (if x = y then o1 else o2) := by
  obtain ⟨rfl, ⟨hx, hb, -⟩, -⟩ := X
  intro ho H locs ls hP hS hl
  exact lv_icmp_eq hx hb d ht (fun h => (k1 h (by rw [if_pos h] at ho; exact ho) H locs ls hP hS hl)) (fun h => (k2 h (by rw [if_neg h] at ho; exact ho) H locs ls hP hS hl))
theorem oz_if_ne (X : oz_E p l e R s m args below meth c Q cc nL Ts own wn D cI cZ ci T N KS ly ad A res hh G) {x : Int32} {off : Int} {tgt : Nat} (d : decode cc pc = .ok (.ifCond .ne off, 3)) (ht : (pc : Int) + off = (tgt : Int)) (k1 : ¬ x = 0 → G k tgt L S st o1) (k2 : x = 0 → G k (pc + 3) L S st o2) : G k pc L (.int x :: S) st (if x = 0 then o2 else o1) := by
  obtain ⟨rfl, ⟨hx, hb, -⟩, -⟩ := X
  intro ho H locs ls hP hS hl
  exact lv_if_ne hx hb d ht (fun h => (k1 h (by rw [if_neg h] at ho; exact ho) H locs ls hP hS hl)) (fun h => (k2 h (by rw [if_pos h] at ho; exact ho) H locs ls hP hS hl))
theorem oz_icmp_ne (X : oz_E p l e R s m args below meth c Q cc nL Ts own wn D cI cZ ci T N KS ly ad A res hh G) {x y : Int32} {off : Int} {tgt : Nat} (d : decode cc pc = .ok (.if_icmp .ne off, 3)) (ht : (pc : Int) + off = (tgt : Int)) (k1 : ¬ x = y → G k tgt L S st o1) (k2 : x = y → G k (pc + 3) L S st o2) : G k pc L (.int y :: .int x :: S) st (if x = y then o2 else o1) := by
  obtain ⟨rfl, ⟨hx, hb, -⟩, -⟩ := X
  intro ho H locs ls hP hS hl
  exact lv_icmp_ne hx hb d ht (fun h => (k1 h (by rw [if_neg h] at ho; exact ho) H locs ls hP hS hl)) (fun h => (k2 h (by rw [if_pos h] at ho; exact ho) H locs ls hP hS hl))
theorem oz_if_lt (X : oz_E p l e R s m args below meth c Q cc nL Ts own wn D cI cZ ci T N KS ly ad A res hh G) {x : Int32} {off : Int} {tgt : Nat} (d : decode cc pc = .ok (.ifCond .lt off, 3)) (ht : (pc : Int) + off = (tgt : Int)) (k1 : x < 0 → G k tgt L S st o1) (k2 : ¬ x < 0 → G k (pc + 3) L S st o2) : G k pc L (.int x :: S) st (if x < 0 then o1 else o2) := by
  obtain ⟨rfl, ⟨hx, hb, -⟩, -⟩ := X
  intro ho H locs ls hP hS hl
  exact lv_if_lt hx hb d ht (fun h => (k1 h (by rw [if_pos h] at ho; exact ho) H locs ls hP hS hl)) (fun h => (k2 h (by rw [if_neg h] at ho; exact ho) H locs ls hP hS hl))
theorem oz_icmp_lt (X : oz_E p l e R s m args below meth c Q cc nL Ts own wn D cI cZ ci T N KS ly ad A res hh G) {x y : Int32} {off : Int} {tgt : Nat} (d : decode cc pc = .ok (.if_icmp .lt off, 3)) (ht : (pc : Int) + off = (tgt : Int)) (k1 : x < y → G k tgt L S st o1) (k2 : ¬ x < y → G k (pc + 3) L S st o2) : G k pc L (.int y :: .int x :: S) st (if x < y then o1 else o2) := by
  obtain ⟨rfl, ⟨hx, hb, -⟩, -⟩ := X
  intro ho H locs ls hP hS hl
  exact lv_icmp_lt hx hb d ht (fun h => (k1 h (by rw [if_pos h] at ho; exact ho) H locs ls hP hS hl)) (fun h => (k2 h (by rw [if_neg h] at ho; exact ho) H locs ls hP hS hl))
theorem oz_if_ge (X : oz_E p l e R s m args below meth c Q cc nL Ts own wn D cI cZ ci T N KS ly ad A res hh G) {x : Int32} {off : Int} {tgt : Nat} (d : decode cc pc = .ok (.ifCond .ge off, 3)) (ht : (pc : Int) + off = (tgt : Int)) (k1 : 0 ≤ x → G k tgt L S st o1) (k2 : ¬ 0 ≤ x → G k (pc + 3) L S st o2) : G k pc L (.int x :: S) st (if 0 ≤ x then o1 else o2) := by
  obtain ⟨rfl, ⟨hx, hb, -⟩, -⟩ := X
  intro ho H locs ls hP hS hl
  exact lv_if_ge hx hb d ht (fun h => (k1 h (by rw [if_pos h] at ho; exact ho) H locs ls hP hS hl)) (fun h => (k2 h (by rw [if_neg h] at ho; exact ho) H locs ls hP hS hl))
theorem oz_icmp_ge (X : oz_E p l e R s m args below meth c Q cc nL Ts own wn D cI cZ ci T N KS ly ad A res hh G) {x y : Int32} {off : Int} {tgt : Nat} (d : decode cc pc = .ok (.if_icmp .ge off, 3)) (ht : (pc : Int) + off = (tgt : Int)) (k1 : y ≤ x → G k tgt L S st o1) (k2 : ¬ y ≤ x → G k (pc + 3) L S st o2) : G k pc L (.int y :: .int x :: S) st (if y ≤ x then o1 else o2) := by
  obtain ⟨rfl, ⟨hx, hb, -⟩, -⟩ := X
  intro ho H locs ls hP hS hl
  exact lv_icmp_ge hx hb d ht (fun h => (k1 h (by rw [if_pos h] at ho; exact ho) H locs ls hP hS hl)) (fun h => (k2 h (by rw [if_neg h] at ho; exact ho) H locs ls hP hS hl))
theorem oz_if_gt (X : oz_E p l e R s m args below meth c Q cc nL Ts own wn D cI cZ ci T N KS ly ad A res hh G) {x : Int32} {off : Int} {tgt : Nat} (d : decode cc pc = .ok (.ifCond .gt off, 3)) (ht : (pc : Int) + off = (tgt : Int)) (k1 : 0 < x → G k tgt L S st o1) (k2 : ¬ 0 < x → G k (pc + 3) L S st o2) : G k pc L (.int x :: S) st (if 0 < x then o1 else o2) := by
  obtain ⟨rfl, ⟨hx, hb, -⟩, -⟩ := X
  intro ho H locs ls hP hS hl
  exact lv_if_gt hx hb d ht (fun h => (k1 h (by rw [if_pos h] at ho; exact ho) H locs ls hP hS hl)) (fun h => (k2 h (by rw [if_neg h] at ho; exact ho) H locs ls hP hS hl))
theorem oz_icmp_gt (X : oz_E p l e R s m args below meth c Q cc nL Ts own wn D cI cZ ci T N KS ly ad A res hh G) {x y : Int32} {off : Int} {tgt : Nat} (d : decode cc pc = .ok (.if_icmp .gt off, 3)) (ht : (pc : Int) + off = (tgt : Int)) (k1 : y < x → G k tgt L S st o1) (k2 : ¬ y < x → G k (pc + 3) L S st o2) : G k pc L (.int y :: .int x :: S) st (if y < x then o1 else o2) := by
  obtain ⟨rfl, ⟨hx, hb, -⟩, -⟩ := X
  intro ho H locs ls hP hS hl
  exact lv_icmp_gt hx hb d ht (fun h => (k1 h (by rw [if_pos h] at ho; exact ho) H locs ls hP hS hl)) (fun h => (k2 h (by rw [if_neg h] at ho; exact ho) H locs ls hP hS hl))
theorem oz_if_le (X : oz_E p l e R s m args below meth c Q cc nL Ts own wn D cI cZ ci T N KS ly ad A res hh G) {x : Int32} {off : Int} {tgt : Nat} (d : decode cc pc = .ok (.ifCond .le off, 3)) (ht : (pc : Int) + off = (tgt : Int)) (k1 : x ≤ 0 → G k tgt L S st o1) (k2 : ¬ x ≤ 0 → G k (pc + 3) L S st o2) : G k pc L (.int x :: S) st (if x ≤ 0 then o1 else o2) := by
  obtain ⟨rfl, ⟨hx, hb, -⟩, -⟩ := X
  intro ho H locs ls hP hS hl
  exact lv_if_le hx hb d ht (fun h => (k1 h (by rw [if_pos h] at ho; exact ho) H locs ls hP hS hl)) (fun h => (k2 h (by rw [if_neg h] at ho; exact ho) H locs ls hP hS hl))
theorem oz_icmp_le (X : oz_E p l e R s m args below meth c Q cc nL Ts own wn D cI cZ ci T N KS ly ad A res hh G) {x y : Int32} {off : Int} {tgt : Nat} (d : decode cc pc = .ok (.if_icmp .le off, 3)) (ht : (pc : Int) + off = (tgt : Int)) (k1 : x ≤ y → G k tgt L S st o1) (k2 : ¬ x ≤ y → G k (pc + 3) L S st o2) : G k pc L (.int y :: .int x :: S) st (if x ≤ y then o1 else o2) := by
  obtain ⟨rfl, ⟨hx, hb, -⟩, -⟩ := X
  intro ho H locs ls hP hS hl
  exact lv_icmp_le hx hb d ht (fun h => (k1 h (by rw [if_pos h] at ho; exact ho) H locs ls hP hS hl)) (fun h => (k2 h (by rw [if_neg h] at ho; exact ho) H locs ls hP hS hl))
theorem oz_goto (X : oz_E p l e R s m args below meth c Q cc nL Ts own wn D cI cZ ci T N KS ly ad A res hh G) {off : Int} {tgt : Nat} (d : decode cc pc = .ok (.goto off, 3)) (ht : (pc : Int) + off = (tgt : Int)) (kk : G k tgt L S st o) : G k pc L S st o := by
  obtain ⟨rfl, ⟨hx, hb, -⟩, -⟩ := X
  intro ho H locs ls hP hS hl
  exact lv_goto hx hb d ht (kk ho H locs ls hP hS hl)
theorem oz_getA (X : oz_E p l e R s m args below meth c Q cc nL Ts own own D cI cZ ci T N KS ly ad A res [] G) (hin : ∀ w ∈ u_ws own T N, w ∈ Ts) {j n index : Nat} {b : Bool} (hj : ly[j]? = some (n + 1, b)) (hlink : Cond.fieldLink own index own (T j).2.1 (T j).2.2.1 ∈ Ts) (d : decode cc pc = .ok (.getfield index, 3)) (kk : G k (pc + 3) L (.ref (ad (j + 1)) :: S) st o) : G k pc L (.ref (ad 0) :: S) st o := by
  obtain ⟨rfl, ⟨hx, hb, hml, hown, hts⟩, hK, hD, hA, hC, -⟩ := X
  intro ho H locs ls hP hS hl
  have hjN : j < N := by rw [← hC.2.1]; exact (List.getElem?_eq_some_iff.mp hj).1
  refine va_get (ref := own) hx hb hts hin hown hK hP.1 0 (oz_wd_obj ci cI cZ ad ly FX) hC.1 j hjN (hts _ hlink) (fun x h => by rw [hC.2.2.1 j hjN] at h; exact h) (v := .ref (ad (j + 1))) ?_ d (kk ho H locs ls hP hS hl)
  rw [oz_fl_ref ad FX ly 0 j hj, Nat.zero_add]
theorem oz_getS (X : oz_E p l e R s m args below meth c Q cc nL Ts own own D cI cZ ci T N KS ly ad A res [] G) (hin : ∀ w ∈ u_ws own T N, w ∈ Ts) {j index : Nat} {b : Bool} (hj : ly[j]? = some (0, b)) (hlink : Cond.fieldLink own index own (T j).2.1 (T j).2.2.1 ∈ Ts) (d : decode cc pc = .ok (.getfield index, 3)) (kk : G k (pc + 3) L (.int (FX 0 j) :: S) st o) : G k pc L (.ref (ad 0) :: S) st o := by
  obtain ⟨rfl, ⟨hx, hb, hml, hown, hts⟩, hK, hD, hA, hC, -⟩ := X
  intro ho H locs ls hP hS hl
  have hjN : j < N := by rw [← hC.2.1]; exact (List.getElem?_eq_some_iff.mp hj).1
  refine va_get (ref := own) hx hb hts hin hown hK hP.1 0 (oz_wd_obj ci cI cZ ad ly FX) hC.1 j hjN (hts _ hlink) (fun x h => by rw [hC.2.2.1 j hjN] at h; exact h) (v := .int (FX 0 j)) ?_ d (kk ho H locs ls hP hS hl)
  rw [oz_fl_int ad FX ly 0 j hj, Nat.zero_add]
theorem oz_iald (X : oz_E p l e R s m args below meth c Q cc nL Ts own wn D cI cZ ci T N KS ly ad A res hh G) {j n : Nat} {i : Int32} (hj : ly[j]? = some (n, false)) (hn : 0 < n) (d : decode cc pc = .ok (.iaload, 1)) (kk : oz_in i n = true → G k (pc + 1) L (.int (FX (j + 1) i.toNatClampNeg) :: S) st o) : G k pc L (.int i :: .ref (ad (j + 1)) :: S) st (gd (oz_in i n) o) := by
  obtain ⟨rfl, ⟨hx, hb, hml, hown, hts⟩, hK, hD, hA, hC, -⟩ := X
  intro ho H locs ls hP hS hl
  by_cases hi : oz_in i n = true
  · rw [gd, if_pos hi] at ho
    obtain ⟨n0, rfl⟩ : ∃ n0, n = n0 + 1 := ⟨n - 1, by omega⟩
    obtain ⟨q, hq, -⟩ := oz_wd_get ci cI cZ ad ly FX hj
    exact va_iald hx hb hK hP.1 q 0 hq rfl (oz_in_spec hi) d (kk hi ho H locs ls hP hS hl)
  · rw [gd, if_neg hi] at ho
    cases ho
theorem oz_zald (X : oz_E p l e R s m args below meth c Q cc nL Ts own wn D cI cZ ci T N KS ly ad A res hh G) {j n : Nat} {i : Int32} (hj : ly[j]? = some (n, true)) (hn : 0 < n) (d : decode cc pc = .ok (.baload, 1)) (kk : oz_in i n = true → G k (pc + 1) L (.int (FX (j + 1) i.toNatClampNeg) :: S) st o) : G k pc L (.int i :: .ref (ad (j + 1)) :: S) st (gd (oz_in i n) o) := by
  obtain ⟨rfl, ⟨hx, hb, hml, hown, hts⟩, hK, hD, hA, hC, -⟩ := X
  intro ho H locs ls hP hS hl
  by_cases hi : oz_in i n = true
  · rw [gd, if_pos hi] at ho
    obtain ⟨n0, rfl⟩ : ∃ n0, n = n0 + 1 := ⟨n - 1, by omega⟩
    obtain ⟨q, hq, -⟩ := oz_wd_get ci cI cZ ad ly FX hj
    exact va_zald hx hb hK hP.1 q 1 hq rfl (oz_in_spec hi) d (kk hi ho H locs ls hP hS hl)
  · rw [gd, if_neg hi] at ho
    cases ho
theorem oz_iret (X : oz_E p l e R s m args below meth c Q cc nL Ts own wn D cI cZ ci T N KS ly ad A res hh G) {kc : Nat} (hQ : Q = vx_MQ below (oz_Qi D cI cZ ci ad ly res A) (oz_XC D cI cZ ci ad ly res A) args s kc (6 * kc) A) (hr : meth.sig.returnType = some .int) {v : Int32} (hk : k ≤ kc) (d : decode cc pc = .ok (.ireturn, 1)) : G k pc L [.int v] st (some (0, v, st)) := by
  obtain ⟨rfl, ⟨hx, hb, hml, hown, hts⟩, hK, hD, hA, hC, hKS, hBX, hNC, hUZ, hN, hstt, hlk, htab⟩ := X
  intro ho H locs ls hP hS hl
  subst hQ
  refine W.widen (k := kc) (n := 6 * kc) hk (by omega) (vx_ret ?_)
  exact W.iret hx hb hr (fun t ht hW => ⟨⟨v, st, rfl, Option.some.inj ho, by unfold oz_B; rw [ht]; exact hP⟩, hS.F ht⟩) hS.2.2 d hlk
theorem oz_zret (X : oz_E p l e R s m args below meth c Q cc nL Ts own wn D cI cZ ci T N KS ly ad A res hh G) {kc : Nat} (hQ : Q = vx_MQ below (oz_Qi D cI cZ ci ad ly res A) (oz_XC D cI cZ ci ad ly res A) args s kc (6 * kc) A) (hr : meth.sig.returnType = some .boolean) {v : Int32} (hv : narrow .boolean (.int v) = .int v) (hk : k ≤ kc) (d : decode cc pc = .ok (.ireturn, 1)) : G k pc L [.int v] st (some (0, v, st)) := by
  obtain ⟨rfl, ⟨hx, hb, hml, hown, hts⟩, hK, hD, hA, hC, hKS, hBX, hNC, hUZ, hN, hstt, hlk, htab⟩ := X
  intro ho H locs ls hP hS hl
  subst hQ
  refine W.widen (k := kc) (n := 6 * kc) hk (by omega) (vx_ret ?_)
  exact W.zret hx hb hr hv (fun t ht hW => ⟨⟨v, st, rfl, Option.some.inj ho, by unfold oz_B; rw [ht]; exact hP⟩, hS.F ht⟩) hS.2.2 d hlk
def oz_bit (v : Int32) : Bool := decide (v = 0 ∨ v = 1)
theorem oz_zretG (X : oz_E p l e R s m args below meth c Q cc nL Ts own wn D cI cZ ci T N KS ly ad A res hh G) {kc : Nat} (hQ : Q = vx_MQ below (oz_Qi D cI cZ ci ad ly res A) (oz_XC D cI cZ ci ad ly res A) args s kc (6 * kc) A) (hr : meth.sig.returnType = some .boolean) {v : Int32} (hk : k ≤ kc) (d : decode cc pc = .ok (.ireturn, 1)) : G k pc L [.int v] st (gd (oz_bit v) (some (0, v, st))) := by
  by_cases hb : oz_bit v = true
  · rw [gd, if_pos hb]
    refine oz_zret X hQ hr ?_ hk d
    rcases of_decide_eq_true hb with rfl | rfl <;> rfl
  · rw [gd, if_neg hb]
    obtain ⟨rfl, -⟩ := X
    intro ho
    cases ho
theorem oz_lret (X : oz_E p l e R s m args below meth c Q cc nL Ts own wn D cI cZ ci T N KS ly ad A res hh G) {kc : Nat} (hQ : Q = vx_MQ below (oz_Ql D cI cZ ci ad ly res A) (oz_XC D cI cZ ci ad ly res A) args s kc (6 * kc) A) (hr : meth.sig.returnType = some .long) {v : Int64} (hk : k ≤ kc) (d : decode cc pc = .ok (.lreturn, 1)) : G k pc L [.long v] st (some (lgc v, 0, st)) := by
  obtain ⟨rfl, ⟨hx, hb, hml, hown, hts⟩, hK, hD, hA, hC, hKS, hBX, hNC, hUZ, hN, hstt, hlk, htab⟩ := X
  intro ho H locs ls hP hS hl
  subst hQ
  refine W.widen (k := kc) (n := 6 * kc) hk (by omega) (vx_ret ?_)
  exact W.lret hx hb hr (fun t ht hW => ⟨⟨v, st, rfl, Option.some.inj ho, by unfold oz_B; rw [ht]; exact hP⟩, hS.F ht⟩) hS.2.2 d hlk
/-- no answer: nothing is owed -/
theorem oz_none (X : oz_E p l e R s m args below meth c Q cc nL Ts own wn D cI cZ ci T N KS ly ad A res hh G) : G k pc L S st none := by
  obtain ⟨rfl, -⟩ := X
  intro ho
  cases ho

/-- throw new E(text) -/
theorem oz_throw (X : oz_E p l e R s m args below meth c Q cc nL Ts own own D cI cZ ci T N KS ly ad A res [] G) {kc : Nat} {Qc : Array Value → State → Outcome → State → Prop} (hQ : Q = vx_MQ below Qc (oz_XC D cI cZ ci ad ly res A) args s kc (6 * kc) A) (en : Nat) {text : String} {ik is ic : Nat} (he : en ≠ 0 ∧ en < 4) (hstr : (is, text) ∈ KS) (hcls : Bundle.fit (oz_exn en) = true)
    (hk : Cond.classLink own ik (oz_exn en) ∈ Ts) (hini : Cond.initialized (oz_exn en) ∈ Ts) (hin1 : ∀ w ∈ (vx_atS own ic (oz_exn en) oz_names).filter goodWord, w ∈ Ts) (hin2 : ∀ w ∈ (vx_atS own ic (oz_exn en) oz_names).filter (fun w => !goodWord w), w ∈ oz_BX)
    (hgood : ∀ w ∈ Cond.classLink own ik (oz_exn en) :: Cond.initialized (oz_exn en) :: vx_atS own ic (oz_exn en) oz_names, vx_ot w = true)
    (d0 : decode cc pc = .ok (.new ik, 3)) (d3 : decode cc (pc + 3) = .ok (.dup, 1)) (d4 : decode cc (pc + 4) = .ok (.ldc is, 2)) (d6 : decode cc (pc + 6) = .ok (.invokespecial ic, 3)) (d9 : decode cc (pc + 9) = .ok (.athrow, 1))
    (hf : 5 < R.frames) (hl2 : (S.map fun v => v.category).sum + 82 ≤ R.locals) (hkc : k + 1 ≤ kc) (hkR : kc ≤ R.cells) (hkS : 6 * kc ≤ R.slots) : G k pc L S st (some (en, 0, bump st)) := by
  obtain ⟨rfl, ⟨hx, hb, hml, hown, hts⟩, hK, hD, hA, hC, hKS, hBX, hNC, hUZ, hN, hstt, hlk, htab⟩ := X
  intro ho H locs ls hP hS hl
  subst hQ
  obtain ⟨sa, hsa⟩ := hKS _ hstr
  refine vy_throwS (cls := oz_exn en) (text := text) (names := oz_names) (mc := kc) (ms := 6 * kc) (sa := sa) (A := A) hx hb hstt hown hcls (by decide +kernel) (hts _ hk) (hts _ hini) hsa (vx_hat (B := oz_BX) (fun w h => hts w (hin1 w h)) hin2 (fun w h => va_Nw.use (oz_BX_on w h) (hBX w h))) hgood hUZ hN hS (hl.1.trans hml.symm) d0 d3 d4 d6 d9 (fun x h => by rw [htab] at h; cases h) (by show 2 + 3 < R.frames; omega) (by show _ + (13 * (2 + 1) + 43) ≤ R.locals; omega) (by omega) (by omega) hlk ?_ hS.2.2 (by omega) (by omega)
  intro t hvm hz hq
  refine ⟨(en, bump st), ⟨Option.some.inj ho, he⟩, ⟨rfl, ?_, ?_⟩, Nat.le_trans hS.1 (by omega), fun q h1 h2 => by rw [hq q (Nat.lt_of_lt_of_le h1 hS.1)]; exact hS.2.1 q h1 h2⟩
  · exact fun j q hj => (hP.1 j q hj).kept (hq q.1 (vx_lt hP.1 hj))
  · have h1 := gh_bump ad st
    have h2 := hP.2
    show gh ad (bump st) ≤ t.heap.size
    omega

theorem oz_callV (X : oz_E p l e R s m args below meth c Q cc nL Ts own wn D cI cZ ci T N KS ly ad A res [] G) {kc0 kc : Nat} {Qc : Array Value → State → Outcome → State → Prop} (hQ : Q = vx_MQ below Qc (oz_XC D cI cZ ci ad ly res A) args s kc0 (6 * kc0) A) {y : MethodName} {ws ws' : List Cond} {rm : Room} {bytes : ByteArray} {maxL index n : Nat} {ret : Option FieldType} {As : List Value} {fo : Int32 → Option RC} {S0 : List Value} {f : Int32 → Int32 → Option RC}
    (hM : oz_MI l y ws rm D cI cZ own ci KS ad ly kc (.ref (ad 0) :: As) fo) (g : GoodIn Ts (wsV wn index own y ws)) (hw : ws = Cond.code y bytes maxL ret :: ws') (hrc : rm.cells = kc) (hrs : rm.slots = 6 * kc) (hd : y.cls = own ∧ y.cls ≠ "java/lang/invoke/MethodHandle" ∧ y.cls ≠ "java/lang/invoke/VarHandle" ∧ (parseMethodDescriptor y.desc).map (fun d => d.parameters.length) = some n) (hR : rm.frames + 1 ≤ R.frames ∧ 8 + (maxL + 11) + rm.locals ≤ R.locals)
    (hn : As.length = n) (hst : S0 = As.reverse ++ .ref (ad 0) :: S) (hW : (S.map fun v => v.category).sum ≤ 8) (d : decode cc pc = .ok (.invokevirtual index, 3)) (hkc : k + kc ≤ kc0) (hkR : kc0 ≤ R.cells) (hkS : 6 * kc0 ≤ R.slots) (kk : ∀ r st2, G (k + kc) (pc + 3) L (.int r :: S) st2 (f r st2)) : G k pc L S0 st (bnd (fo st) f) := by
  have hts := X.hts
  obtain ⟨rfl, ⟨hx, hb, hml, hown, -⟩, hK, hD, hA, hC, hKS, hBX, hNC, hUZ, hN, hstt, hlk, htab⟩ := X
  intro ho H locs ls hP hS hl
  subst hQ
  cases hfo : fo st with
  | none => rw [hfo] at ho; cases ho
  | some r0 =>
    have hAA : ∀ q, va_A (oz_wd ci cI cZ ad ly FX) H.size q → A q := fun q h => h.elim (fun ⟨j, e1, hj⟩ => hD.2 j _ hj) (fun h => hA q (Nat.le_trans hS.1 h))
    have cw := cwV n hts g hw hrc hrs hd hR
    refine vx_calli (vx_runV (As := As) (rest := S) ⟨hx, hb, hml, hown, hts⟩ (hM H.size st _ hfo) cw ⟨oz_Pre_blind, va_recv hK hP.1 (q0 := 0) hC.1 (oz_wd_obj ci cI cZ ad ly FX), fun U hU hW => ?_⟩ rfl hn hl.1 hst (lv_room hW) d ⟨by omega, by omega⟩) hS (fun q _ h => hAA q h) hAA (fun q _ h => hAA q h) (fun E ce q9 u t H1 locs1 ht hvm hp hB hz hkeep hS1 hq9 hcv hcl => ?_) (fun r u t H1 locs1 ht hvm hp hB hz hkeep hS1 => ?_)
    · refine ⟨rfl, by rw [hU], by rw [hU]; exact hP, va_K.moved hW.alike hK, hD.weaken (fun _ _ _ _ => trivial), fun q hq => (hKS q hq).elim fun sa h => ⟨sa, vk_R.warm hW h⟩, oz_BX_warm hW hBX, ow_NC_moved hW.alike hNC, ?_, ?_⟩
      · rw [hU]; exact ((vx_Zq.moved hW.alike hUZ).kept hS.2.1).narrow hAA
      · rw [hU]; exact ((vx_Zq.moved hW.alike hN).kept hS.2.1).narrow hAA
    · obtain ⟨hp1, hp2, hp3⟩ := hp
      obtain ⟨hE, hB⟩ := hB
      rw [hfo, ← hp1] at ho
      skip
      have ho2 : some (u.1, (0 : Int32), u.2) = some res := by
        have h9 : bnd (some (u.1, (0 : Int32), u.2)) f = some (u.1, 0, u.2) := by simp [bnd, hp2]
        rw [← ho]; exact h9.symm
      refine vx_outP hown hlk (fun z hz2 => by rw [htab] at hz2; cases hz2) hq9 hcv hcl (fun t2 ht2 hvm2 => ?_) hS1.2.2 hkc (by omega)
      refine ⟨u, ⟨Option.some.inj ho2, hp2, hp3⟩, ⟨hE, ?_⟩, ?_⟩
      · unfold oz_B at hB ⊢; rw [ht2, ← ht]; exact hB
      · exact hS1.F ht2
    · rw [hfo, ← hp] at ho
      unfold oz_B at hB
      rw [ht] at hB
      rw [show 6 * k + 6 * kc = 6 * (k + kc) from (Nat.mul_add 6 k kc).symm]
      exact kk r u (by simpa [bnd] using ho) H1 locs1 ls hB hS1 hl

theorem oz_callS (X : oz_E p l e R s m args below meth c Q cc nL Ts own wn D cI cZ ci T N KS ly ad A res [] G) {kc0 kc : Nat} {Qc : Array Value → State → Outcome → State → Prop} (hQ : Q = vx_MQ below Qc (oz_XC D cI cZ ci ad ly res A) args s kc0 (6 * kc0) A) {y : MethodName} {ws ws' : List Cond} {rm : Room} {bytes : ByteArray} {maxL index n : Nat} {ret : Option FieldType} {As : List Value} {fo : Int32 → Option RC} {S0 : List Value} {f : Int32 → Int32 → Option RC}
    (hM : oz_MI l y ws rm D cI cZ own ci KS ad ly kc As fo) (g : GoodIn Ts (va_wsS wn index y ws)) (hw : ws = Cond.code y bytes maxL ret :: ws') (hrc : rm.cells = kc) (hrs : rm.slots = 6 * kc) (hd : y.cls ≠ "java/lang/invoke/MethodHandle" ∧ y.cls ≠ "java/lang/invoke/VarHandle" ∧ (parseMethodDescriptor y.desc).map (fun d => d.parameters.length) = some n) (hR : rm.frames + 1 ≤ R.frames ∧ 8 + (maxL + 11) + rm.locals ≤ R.locals)
    (hn : As.length = n) (hst : S0 = As.reverse ++ S) (hW : (S.map fun v => v.category).sum ≤ 8) (d : decode cc pc = .ok (.invokestatic index, 3)) (hkc : k + kc ≤ kc0) (hkR : kc0 ≤ R.cells) (hkS : 6 * kc0 ≤ R.slots) (kk : ∀ r st2, G (k + kc) (pc + 3) L (.int r :: S) st2 (f r st2)) : G k pc L S0 st (bnd (fo st) f) := by
  have hts := X.hts
  obtain ⟨rfl, ⟨hx, hb, hml, hown, -⟩, hK, hD, hA, hC, hKS, hBX, hNC, hUZ, hN, hstt, hlk, htab⟩ := X
  intro ho H locs ls hP hS hl
  subst hQ
  cases hfo : fo st with
  | none => rw [hfo] at ho; cases ho
  | some r0 =>
    have hAA : ∀ q, va_A (oz_wd ci cI cZ ad ly FX) H.size q → A q := fun q h => h.elim (fun ⟨j, e1, hj⟩ => hD.2 j _ hj) (fun h => hA q (Nat.le_trans hS.1 h))
    have cw := va_cwS n hts g hw hrc hrs hd hR
    refine vx_calli (vx_runS (As := As) (rest := S) ⟨hx, hb, hml, hown, hts⟩ (hM H.size st _ hfo) cw ⟨oz_Pre_blind, fun U hU hW => ?_⟩ rfl hn hl.1 hst (lv_room hW) d ⟨by omega, by omega⟩) hS (fun q _ h => hAA q h) hAA (fun q _ h => hAA q h) (fun E ce q9 u t H1 locs1 ht hvm hp hB hz hkeep hS1 hq9 hcv hcl => ?_) (fun r u t H1 locs1 ht hvm hp hB hz hkeep hS1 => ?_)
    · refine ⟨rfl, by rw [hU], by rw [hU]; exact hP, va_K.moved hW.alike hK, hD.weaken (fun _ _ _ _ => trivial), fun q hq => (hKS q hq).elim fun sa h => ⟨sa, vk_R.warm hW h⟩, oz_BX_warm hW hBX, ow_NC_moved hW.alike hNC, ?_, ?_⟩
      · rw [hU]; exact ((vx_Zq.moved hW.alike hUZ).kept hS.2.1).narrow hAA
      · rw [hU]; exact ((vx_Zq.moved hW.alike hN).kept hS.2.1).narrow hAA
    · obtain ⟨hp1, hp2, hp3⟩ := hp
      obtain ⟨hE, hB⟩ := hB
      rw [hfo, ← hp1] at ho
      skip
      have ho2 : some (u.1, (0 : Int32), u.2) = some res := by
        have h9 : bnd (some (u.1, (0 : Int32), u.2)) f = some (u.1, 0, u.2) := by simp [bnd, hp2]
        rw [← ho]; exact h9.symm
      refine vx_outP hown hlk (fun z hz2 => by rw [htab] at hz2; cases hz2) hq9 hcv hcl (fun t2 ht2 hvm2 => ?_) hS1.2.2 hkc (by omega)
      refine ⟨u, ⟨Option.some.inj ho2, hp2, hp3⟩, ⟨hE, ?_⟩, ?_⟩
      · unfold oz_B at hB ⊢; rw [ht2, ← ht]; exact hB
      · exact hS1.F ht2
    · rw [hfo, ← hp] at ho
      unfold oz_B at hB
      rw [ht] at hB
      rw [show 6 * k + 6 * kc = 6 * (k + kc) from (Nat.mul_add 6 k kc).symm]
      exact kk r u (by simpa [bnd] using ho) H1 locs1 ls hB hS1 hl

theorem oz_callSL (X : oz_E p l e R s m args below meth c Q cc nL Ts own wn D cI cZ ci T N KS ly ad A res [] G) {kc0 kc : Nat} {Qc : Array Value → State → Outcome → State → Prop} (hQ : Q = vx_MQ below Qc (oz_XC D cI cZ ci ad ly res A) args s kc0 (6 * kc0) A) {y : MethodName} {ws ws' : List Cond} {rm : Room} {bytes : ByteArray} {maxL index n : Nat} {ret : Option FieldType} {As : List Value} {fo : Int32 → Option RC} {S0 : List Value} {f : Int64 → Int32 → Option RC}
    (hM : oz_ML l y ws rm D cI cZ own ci KS ad ly kc As fo) (g : GoodIn Ts (va_wsS wn index y ws)) (hw : ws = Cond.code y bytes maxL ret :: ws') (hrc : rm.cells = kc) (hrs : rm.slots = 6 * kc) (hd : y.cls ≠ "java/lang/invoke/MethodHandle" ∧ y.cls ≠ "java/lang/invoke/VarHandle" ∧ (parseMethodDescriptor y.desc).map (fun d => d.parameters.length) = some n) (hR : rm.frames + 1 ≤ R.frames ∧ 8 + (maxL + 11) + rm.locals ≤ R.locals)
    (hn : As.length = n) (hst : S0 = As.reverse ++ S) (hW : (S.map fun v => v.category).sum ≤ 8) (d : decode cc pc = .ok (.invokestatic index, 3)) (hkc : k + kc ≤ kc0) (hkR : kc0 ≤ R.cells) (hkS : 6 * kc0 ≤ R.slots) (kk : ∀ r st2, G (k + kc) (pc + 3) L (.long r :: S) st2 (f r st2)) : G k pc L S0 st (bndL (fo st) f) := by
  have hts := X.hts
  obtain ⟨rfl, ⟨hx, hb, hml, hown, -⟩, hK, hD, hA, hC, hKS, hBX, hNC, hUZ, hN, hstt, hlk, htab⟩ := X
  intro ho H locs ls hP hS hl
  subst hQ
  cases hfo : fo st with
  | none => rw [hfo] at ho; cases ho
  | some r0 =>
    have hAA : ∀ q, va_A (oz_wd ci cI cZ ad ly FX) H.size q → A q := fun q h => h.elim (fun ⟨j, e1, hj⟩ => hD.2 j _ hj) (fun h => hA q (Nat.le_trans hS.1 h))
    have cw := va_cwS n hts g hw hrc hrs hd hR
    refine vx_calll (vx_runS (As := As) (rest := S) ⟨hx, hb, hml, hown, hts⟩ (hM H.size st _ hfo) cw ⟨oz_Pre_blind, fun U hU hW => ?_⟩ rfl hn hl.1 hst (lv_room hW) d ⟨by omega, by omega⟩) hS (fun q _ h => hAA q h) hAA (fun q _ h => hAA q h) (fun E ce q9 u t H1 locs1 ht hvm hp hB hz hkeep hS1 hq9 hcv hcl => ?_) (fun r u t H1 locs1 ht hvm hp hB hz hkeep hS1 => ?_)
    · refine ⟨rfl, by rw [hU], by rw [hU]; exact hP, va_K.moved hW.alike hK, hD.weaken (fun _ _ _ _ => trivial), fun q hq => (hKS q hq).elim fun sa h => ⟨sa, vk_R.warm hW h⟩, oz_BX_warm hW hBX, ow_NC_moved hW.alike hNC, ?_, ?_⟩
      · rw [hU]; exact ((vx_Zq.moved hW.alike hUZ).kept hS.2.1).narrow hAA
      · rw [hU]; exact ((vx_Zq.moved hW.alike hN).kept hS.2.1).narrow hAA
    · obtain ⟨hp1, hp2, hp3⟩ := hp
      obtain ⟨hE, hB⟩ := hB
      rw [hfo, ← hp1] at ho
      exfalso; simp [bndL, hp3] at ho
    · rw [hfo, ← hp] at ho
      unfold oz_B at hB
      rw [ht] at hB
      rw [show 6 * k + 6 * kc = 6 * (k + kc) from (Nat.mul_add 6 k kc).symm]
      refine kk r u ?_ H1 locs1 ls hB hS1 hl
      rw [← ho]
      show f r u = if lgc r < 4 then none else f (Int64.ofNat (lgc r - 4)) u
      rw [if_neg (by unfold lgc; omega), lgc_back]

theorem oz_callSX (X : oz_E p l e R s m args below meth c Q cc nL Ts own wn D cI cZ ci T N KS ly ad A res [] G) {kc0 kc : Nat} {Qc : Array Value → State → Outcome → State → Prop} (hQ : Q = vx_MQ below Qc (oz_XC D cI cZ ci ad ly res A) args s kc0 (6 * kc0) A) {y : MethodName} {ws ws' : List Cond} {rm : Room} {bytes : ByteArray} {maxL index n : Nat} {ret : Option FieldType} {hx2 : List (Nat × Nat × Nat × Nat)} {As : List Value} {fo : Int32 → Option RC} {S0 : List Value} {f : Int32 → Int32 → Option RC}
    (hM : oz_MI l y ws rm D cI cZ own ci KS ad ly kc As fo) (g : GoodIn Ts (va_wsS wn index y ws)) (hw : ws = Cond.codeWith y bytes maxL ret hx2 :: ws') (hrc : rm.cells = kc) (hrs : rm.slots = 6 * kc) (hd : y.cls ≠ "java/lang/invoke/MethodHandle" ∧ y.cls ≠ "java/lang/invoke/VarHandle" ∧ (parseMethodDescriptor y.desc).map (fun d => d.parameters.length) = some n) (hR : rm.frames + 1 ≤ R.frames ∧ 8 + (maxL + 11) + rm.locals ≤ R.locals)
    (hn : As.length = n) (hst : S0 = As.reverse ++ S) (hW : (S.map fun v => v.category).sum ≤ 8) (d : decode cc pc = .ok (.invokestatic index, 3)) (hkc : k + kc ≤ kc0) (hkR : kc0 ≤ R.cells) (hkS : 6 * kc0 ≤ R.slots) (kk : ∀ r st2, G (k + kc) (pc + 3) L (.int r :: S) st2 (f r st2)) : G k pc L S0 st (bnd (fo st) f) := by
  have hts := X.hts
  obtain ⟨rfl, ⟨hx, hb, hml, hown, -⟩, hK, hD, hA, hC, hKS, hBX, hNC, hUZ, hN, hstt, hlk, htab⟩ := X
  intro ho H locs ls hP hS hl
  subst hQ
  cases hfo : fo st with
  | none => rw [hfo] at ho; cases ho
  | some r0 =>
    have hAA : ∀ q, va_A (oz_wd ci cI cZ ad ly FX) H.size q → A q := fun q h => h.elim (fun ⟨j, e1, hj⟩ => hD.2 j _ hj) (fun h => hA q (Nat.le_trans hS.1 h))
    have cw := vx_cwSW n hts g hw hrc hrs hd hR
    refine vx_calli (vx_runSX (As := As) (rest := S) ⟨hx, hb, hml, hown, hts⟩ (hM H.size st _ hfo) cw ⟨oz_Pre_blind, fun U hU hW => ?_⟩ rfl hn hl.1 hst (lv_room hW) d ⟨by omega, by omega⟩) hS (fun q _ h => hAA q h) hAA (fun q _ h => hAA q h) (fun E ce q9 u t H1 locs1 ht hvm hp hB hz hkeep hS1 hq9 hcv hcl => ?_) (fun r u t H1 locs1 ht hvm hp hB hz hkeep hS1 => ?_)
    · refine ⟨rfl, by rw [hU], by rw [hU]; exact hP, va_K.moved hW.alike hK, hD.weaken (fun _ _ _ _ => trivial), fun q hq => (hKS q hq).elim fun sa h => ⟨sa, vk_R.warm hW h⟩, oz_BX_warm hW hBX, ow_NC_moved hW.alike hNC, ?_, ?_⟩
      · rw [hU]; exact ((vx_Zq.moved hW.alike hUZ).kept hS.2.1).narrow hAA
      · rw [hU]; exact ((vx_Zq.moved hW.alike hN).kept hS.2.1).narrow hAA
    · obtain ⟨hp1, hp2, hp3⟩ := hp
      obtain ⟨hE, hB⟩ := hB
      rw [hfo, ← hp1] at ho
      skip
      have ho2 : some (u.1, (0 : Int32), u.2) = some res := by
        have h9 : bnd (some (u.1, (0 : Int32), u.2)) f = some (u.1, 0, u.2) := by simp [bnd, hp2]
        rw [← ho]; exact h9.symm
      refine vx_outP hown hlk (fun z hz2 => by rw [htab] at hz2; cases hz2) hq9 hcv hcl (fun t2 ht2 hvm2 => ?_) hS1.2.2 hkc (by omega)
      refine ⟨u, ⟨Option.some.inj ho2, hp2, hp3⟩, ⟨hE, ?_⟩, ?_⟩
      · unfold oz_B at hB ⊢; rw [ht2, ← ht]; exact hB
      · exact hS1.F ht2
    · rw [hfo, ← hp] at ho
      unfold oz_B at hB
      rw [ht] at hB
      rw [show 6 * k + 6 * kc = 6 * (k + kc) from (Nat.mul_add 6 k kc).symm]
      exact kk r u (by simpa [bnd] using ho) H1 locs1 ls hB hS1 hl

/-- act's answer for what is thrown -/
def actc (o : Option RC) : Option RC := match o with
  | none => none
  | some (e, _, st) => if e = 1 then some (0, -1211, st) else if e = 3 then some (0, -1212, st) else if e = 2 then some (0, -1213, st) else none
def ofc (o : Option RC) : Option RC := match o with
  | none => none
  | some (e, _, st) => if e = 1 then some (0, -1211, st) else none
theorem oz_callA (X : oz_E p l e R s m args below meth c Q cc nL Ts own wn D cI cZ ci T N KS ly ad A res [(0, 98, 99, 37), (0, 98, 105, 39), (0, 98, 111, 41)] G) {kc0 kc : Nat} (hQ : Q = vx_MQ below (oz_Qi D cI cZ ci ad ly res A) (oz_XC D cI cZ ci ad ly res A) args s kc0 (6 * kc0) A) {y : MethodName} {ws ws' : List Cond} {rm : Room} {bytes : ByteArray} {maxL index n : Nat} {ret : Option FieldType} {As : List Value} {fo : Int32 → Option RC} {S0 : List Value}
    (hM : oz_MI l y ws rm D cI cZ own ci KS ad ly kc (.ref (ad 0) :: As) fo) (g : GoodIn Ts (wsV wn index own y ws)) (hw : ws = Cond.code y bytes maxL ret :: ws') (hrc : rm.cells = kc) (hrs : rm.slots = 6 * kc) (hd : y.cls = own ∧ y.cls ≠ "java/lang/invoke/MethodHandle" ∧ y.cls ≠ "java/lang/invoke/VarHandle" ∧ (parseMethodDescriptor y.desc).map (fun d => d.parameters.length) = some n) (hR : rm.frames + 1 ≤ R.frames ∧ 8 + (maxL + 11) + rm.locals ≤ R.locals)
    (hr : meth.sig.returnType = some .int) (hn : As.length = n) (hst : S0 = As.reverse ++ .ref (ad 0) :: []) (d : decode cc pc = .ok (.invokevirtual index, 3)) (hkc : k + kc ≤ kc0) (hkR : kc0 ≤ R.cells) (hkS : 6 * kc0 ≤ R.slots) (hlv : 4 < nL)
    (hpc : pc < 98) (tl1 : Cond.classLink wn 37 (oz_exn 1) ∈ Ts) (tl3 : Cond.classLink wn 39 (oz_exn 3) ∈ Ts) (tl2 : Cond.classLink wn 41 (oz_exn 2) ∈ Ts)
    (da1 : decode cc 99 = .ok (.astore 4, 2)) (db1 : decode cc (99 + 2) = .ok (.sipush (-1211), 3)) (dc1 : decode cc (99 + 2 + 3) = .ok (.ireturn, 1)) (da3 : decode cc 105 = .ok (.astore 4, 2)) (db3 : decode cc (105 + 2) = .ok (.sipush (-1212), 3)) (dc3 : decode cc (105 + 2 + 3) = .ok (.ireturn, 1)) (da2 : decode cc 111 = .ok (.astore 4, 2)) (db2 : decode cc (111 + 2) = .ok (.sipush (-1213), 3)) (dc2 : decode cc (111 + 2 + 3) = .ok (.ireturn, 1)) : G k pc L S0 st (actc (fo st)) := by
  have hts := X.hts
  have X9 := X
  obtain ⟨rfl, ⟨hx, hb, hml, hown, -⟩, hK, hD, hA, hC, hKS, hBX, hNC, hUZ, hN, hstt, hlk, htab⟩ := X
  intro ho H locs ls hP hS hl
  subst hQ
  cases hfo : fo st with
  | none => rw [hfo] at ho; cases ho
  | some r0 =>
    have hAA : ∀ q, va_A (oz_wd ci cI cZ ad ly FX) H.size q → A q := fun q h => h.elim (fun ⟨j, e1, hj⟩ => hD.2 j _ hj) (fun h => hA q (Nat.le_trans hS.1 h))
    have cw := cwV n hts g hw hrc hrs hd hR
    refine vx_calli (vx_runV (As := As) (rest := []) ⟨hx, hb, hml, hown, hts⟩ (hM H.size st _ hfo) cw ⟨oz_Pre_blind, va_recv hK hP.1 (q0 := 0) hC.1 (oz_wd_obj ci cI cZ ad ly FX), fun U hU hW => ?_⟩ rfl hn hl.1 hst (lv_room (Nat.zero_le _)) d ⟨by omega, by omega⟩) hS (fun q _ h => hAA q h) hAA (fun q _ h => hAA q h) (fun E ce q9 u t H1 locs1 ht hvm hp hB hz hkeep hS1 hq9 hcv hcl => ?_) (fun r u t H1 locs1 ht hvm hp hB hz hkeep hS1 => ?_)
    · refine ⟨rfl, by rw [hU], by rw [hU]; exact hP, va_K.moved hW.alike hK, hD.weaken (fun _ _ _ _ => trivial), fun q hq => (hKS q hq).elim fun sa h => ⟨sa, vk_R.warm hW h⟩, oz_BX_warm hW hBX, ow_NC_moved hW.alike hNC, ?_, ?_⟩
      · rw [hU]; exact ((vx_Zq.moved hW.alike hUZ).kept hS.2.1).narrow hAA
      · rw [hU]; exact ((vx_Zq.moved hW.alike hN).kept hS.2.1).narrow hAA
    · obtain ⟨hp1, hp2, hp3⟩ := hp
      obtain ⟨hE, hB⟩ := hB
      rw [hfo, ← hp1] at ho
      unfold oz_B at hB
      rw [ht] at hB
      rw [show 6 * k + 6 * kc = 6 * (k + kc) from (Nat.mul_add 6 k kc).symm]
      have hq1 := hBX (.castable "java/lang/IndexOutOfBoundsException" "java/lang/IndexOutOfBoundsException") (List.mem_of_getElem? (i := 3) rfl)
      have hq2 := hBX (.castable "java/lang/IllegalStateException" "java/lang/IllegalStateException") (List.mem_of_getElem? (i := 4) rfl)
      have hq3 := hBX (.castable "java/lang/IllegalArgumentException" "java/lang/IllegalArgumentException") (List.mem_of_getElem? (i := 5) rfl)
      obtain ⟨en, stv⟩ := u
      simp only at hp1 hp2 hp3 hE hB ho
      have h123 : en = 1 ∨ en = 2 ∨ en = 3 := by omega
      rcases h123 with rfl | rfl | rfl
      · skip
        refine vx_catch (name := "java/lang/IndexOutOfBoundsException") hown [] ⟨0, 98, 99, 37⟩ [⟨0, 98, 105, 39⟩, ⟨0, 98, 111, 41⟩] htab (fun z hz => nomatch hz) (by simp [covers]; omega) (by decide) (hts _ tl1) (va_Nw.use rfl hq1) hq9 hcv (by rw [hE] at hcl; exact hcl) ?_
        refine lv_astore hx hb da1 hl hlv rfl (fun ls2 hl2 => ?_)
        refine lv_sipush (v := -1211) hx hb db1 (by decide) ?_
        have X10 := (oz_iret (k := k + kc) (L := []) (v := -1211) (st := stv) X9 rfl hr hkc dc1)
        exact X10 (by rw [← ho]; simp [actc]) H1 locs1 ls2 hB hS1 (lv_sub hl2 [] rfl)
      · skip
        refine vx_catch (name := "java/lang/IllegalStateException") hown [⟨0, 98, 99, 37⟩, ⟨0, 98, 105, 39⟩] ⟨0, 98, 111, 41⟩ [] htab (fun z hz => (List.mem_cons.mp hz).elim (fun h => by rw [h]; exact Or.inr ⟨by decide, "java/lang/IndexOutOfBoundsException", hts _ tl1, hNC.1⟩) (fun h => by rw [List.mem_singleton.mp h]; exact Or.inr ⟨by decide, "java/lang/IllegalArgumentException", hts _ tl3, hNC.2.2⟩)) (by simp [covers]; omega) (by decide) (hts _ tl2) (va_Nw.use rfl hq2) hq9 hcv (by rw [hE] at hcl; exact hcl) ?_
        refine lv_astore hx hb da2 hl hlv rfl (fun ls2 hl2 => ?_)
        refine lv_sipush (v := -1213) hx hb db2 (by decide) ?_
        have X10 := (oz_iret (k := k + kc) (L := []) (v := -1213) (st := stv) X9 rfl hr hkc dc2)
        exact X10 (by rw [← ho]; simp [actc]) H1 locs1 ls2 hB hS1 (lv_sub hl2 [] rfl)
      · skip
        refine vx_catch (name := "java/lang/IllegalArgumentException") hown [⟨0, 98, 99, 37⟩] ⟨0, 98, 105, 39⟩ [⟨0, 98, 111, 41⟩] htab (fun z hz => by rw [List.mem_singleton.mp hz]; exact Or.inr ⟨by decide, "java/lang/IndexOutOfBoundsException", hts _ tl1, hNC.2.1⟩) (by simp [covers]; omega) (by decide) (hts _ tl3) (va_Nw.use rfl hq3) hq9 hcv (by rw [hE] at hcl; exact hcl) ?_
        refine lv_astore hx hb da3 hl hlv rfl (fun ls2 hl2 => ?_)
        refine lv_sipush (v := -1212) hx hb db3 (by decide) ?_
        have X10 := (oz_iret (k := k + kc) (L := []) (v := -1212) (st := stv) X9 rfl hr hkc dc3)
        exact X10 (by rw [← ho]; simp [actc]) H1 locs1 ls2 hB hS1 (lv_sub hl2 [] rfl)
    · exfalso
      rw [hfo, ← hp] at ho
      simp [actc] at ho

theorem oz_callO (X : oz_E p l e R s m args below meth c Q cc nL Ts own wn D cI cZ ci T N KS ly ad A res [(0, 202, 203, 37)] G) {kc0 kc : Nat} (hQ : Q = vx_MQ below (oz_Qi D cI cZ ci ad ly res A) (oz_XC D cI cZ ci ad ly res A) args s kc0 (6 * kc0) A) {y : MethodName} {ws ws' : List Cond} {rm : Room} {bytes : ByteArray} {maxL index n : Nat} {ret : Option FieldType} {As : List Value} {fo : Int32 → Option RC} {S0 : List Value}
    (hM : oz_MI l y ws rm D cI cZ own ci KS ad ly kc (.ref (ad 0) :: As) fo) (g : GoodIn Ts (wsV wn index own y ws)) (hw : ws = Cond.code y bytes maxL ret :: ws') (hrc : rm.cells = kc) (hrs : rm.slots = 6 * kc) (hd : y.cls = own ∧ y.cls ≠ "java/lang/invoke/MethodHandle" ∧ y.cls ≠ "java/lang/invoke/VarHandle" ∧ (parseMethodDescriptor y.desc).map (fun d => d.parameters.length) = some n) (hR : rm.frames + 1 ≤ R.frames ∧ 8 + (maxL + 11) + rm.locals ≤ R.locals)
    (hr : meth.sig.returnType = some .int) (hn : As.length = n) (hst : S0 = As.reverse ++ .ref (ad 0) :: []) (d : decode cc pc = .ok (.invokevirtual index, 3)) (hkc : k + kc ≤ kc0) (hkR : kc0 ≤ R.cells) (hkS : 6 * kc0 ≤ R.slots) (hlv : 3 < nL)
    (hpc : pc < 202) (tl1 : Cond.classLink wn 37 (oz_exn 1) ∈ Ts)
    (da1 : decode cc 203 = .ok (.astore_n 3, 1)) (db1 : decode cc (203 + 1) = .ok (.sipush (-1211), 3)) (dc1 : decode cc (203 + 1 + 3) = .ok (.ireturn, 1)) : G k pc L S0 st (ofc (fo st)) := by
  have hts := X.hts
  have X9 := X
  obtain ⟨rfl, ⟨hx, hb, hml, hown, -⟩, hK, hD, hA, hC, hKS, hBX, hNC, hUZ, hN, hstt, hlk, htab⟩ := X
  intro ho H locs ls hP hS hl
  subst hQ
  cases hfo : fo st with
  | none => rw [hfo] at ho; cases ho
  | some r0 =>
    have hAA : ∀ q, va_A (oz_wd ci cI cZ ad ly FX) H.size q → A q := fun q h => h.elim (fun ⟨j, e1, hj⟩ => hD.2 j _ hj) (fun h => hA q (Nat.le_trans hS.1 h))
    have cw := cwV n hts g hw hrc hrs hd hR
    refine vx_calli (vx_runV (As := As) (rest := []) ⟨hx, hb, hml, hown, hts⟩ (hM H.size st _ hfo) cw ⟨oz_Pre_blind, va_recv hK hP.1 (q0 := 0) hC.1 (oz_wd_obj ci cI cZ ad ly FX), fun U hU hW => ?_⟩ rfl hn hl.1 hst (lv_room (Nat.zero_le _)) d ⟨by omega, by omega⟩) hS (fun q _ h => hAA q h) hAA (fun q _ h => hAA q h) (fun E ce q9 u t H1 locs1 ht hvm hp hB hz hkeep hS1 hq9 hcv hcl => ?_) (fun r u t H1 locs1 ht hvm hp hB hz hkeep hS1 => ?_)
    · refine ⟨rfl, by rw [hU], by rw [hU]; exact hP, va_K.moved hW.alike hK, hD.weaken (fun _ _ _ _ => trivial), fun q hq => (hKS q hq).elim fun sa h => ⟨sa, vk_R.warm hW h⟩, oz_BX_warm hW hBX, ow_NC_moved hW.alike hNC, ?_, ?_⟩
      · rw [hU]; exact ((vx_Zq.moved hW.alike hUZ).kept hS.2.1).narrow hAA
      · rw [hU]; exact ((vx_Zq.moved hW.alike hN).kept hS.2.1).narrow hAA
    · obtain ⟨hp1, hp2, hp3⟩ := hp
      obtain ⟨hE, hB⟩ := hB
      rw [hfo, ← hp1] at ho
      unfold oz_B at hB
      rw [ht] at hB
      rw [show 6 * k + 6 * kc = 6 * (k + kc) from (Nat.mul_add 6 k kc).symm]
      have hq1 := hBX (.castable "java/lang/IndexOutOfBoundsException" "java/lang/IndexOutOfBoundsException") (List.mem_of_getElem? (i := 3) rfl)
      have hq2 := hBX (.castable "java/lang/IllegalStateException" "java/lang/IllegalStateException") (List.mem_of_getElem? (i := 4) rfl)
      have hq3 := hBX (.castable "java/lang/IllegalArgumentException" "java/lang/IllegalArgumentException") (List.mem_of_getElem? (i := 5) rfl)
      obtain ⟨en, stv⟩ := u
      simp only at hp1 hp2 hp3 hE hB ho
      have h123 : en = 1 ∨ en = 2 ∨ en = 3 := by omega
      rcases h123 with rfl | rfl | rfl
      · skip
        refine vx_catch (name := "java/lang/IndexOutOfBoundsException") hown [] ⟨0, 202, 203, 37⟩ [] htab (fun z hz => nomatch hz) (by simp [covers]; omega) (by decide) (hts _ tl1) (va_Nw.use rfl hq1) hq9 hcv (by rw [hE] at hcl; exact hcl) ?_
        refine lv_astore_n hx hb da1 rfl hl hlv rfl (fun ls2 hl2 => ?_)
        refine lv_sipush (v := -1211) hx hb db1 (by decide) ?_
        have X10 := (oz_iret (k := k + kc) (L := []) (v := -1211) (st := stv) X9 rfl hr hkc dc1)
        exact X10 (by rw [← ho]; simp [ofc]) H1 locs1 ls2 hB hS1 (lv_sub hl2 [] rfl)
      · exfalso; simp [ofc] at ho
      · exfalso; simp [ofc] at ho
    · exfalso
      rw [hfo, ← hp] at ho
      simp [ofc] at ho

end OZ
/-- a contract out of a road from the entry -/
theorem oz_ofI {l : Launch} {y : MethodName} {ws ws' : List Cond} {rm : Room} {D : va_G} {cI cZ : ClassId} {own wn : String} {ci : Nat} {T : u_T} {N : Nat} {KS : KSt} {ad : Nat → Nat} {ly : LY} {kc : Nat} {av : List Value} {o : Int32 → Option RC} {bytes : ByteArray} {maxL : Nat} {ret : Option FieldType} (hy : plainName y.cls = true) (hw : ws = Cond.code y bytes maxL ret :: ws') (hcls : y.cls = wn) (hC : oz_C own ci T N ly) (hst : l.stackTraces = false) (hlen : (lg_sl av).length ≤ maxL)
    (body : ∀ (p : Program) (e : Env) (s : State) (m : MethodId) (below : List Frame) (meth : Method) (c : Code) (st : Int32) (A : Nat → Prop) (res : RC) (G : Nat → Nat → List (Nat × Value) → List Value → Int32 → Option RC → Prop), meth.sig.returnType = ret →
      oz_E p l e rm s m av.toArray below meth c (vx_MQ below (oz_Qi D cI cZ ci ad ly res A) (oz_XC D cI cZ ci ad ly res A) av.toArray s kc (6 * kc) A) bytes maxL ws own wn D cI cZ ci T N KS ly ad A res [] G → G 0 0 (lv_args 0 av) [] st (o st)) : oz_MI l y ws rm D cI cZ own ci KS ad ly kc av o := by
  intro sz st res ho
  refine vx_ofW (cc := bytes) (maxL := maxL) (ret := ret) hy hw ?_
  intro p e s m args below meth c s₁ B hml hex hv
  obtain ⟨rfl, hsz, hP, hK, hD0, hKS, hBX, hNC, hU, hN⟩ := hv
  have hx := B.exec
  have hb := B.bytes
  have hr := B.returns
  have hts := atoms_spec (ws := ws) B.pre
  have hown : s.vm.findClass wn = some m.cls := by rw [← hcls]; exact findClass_of_methodNamed B.named
  have htab : c.exceptionTable.toList = ([] : List (Nat × Nat × Nat × Nat)).map (fun h => { startPc := h.1, endPc := h.2.1, handlerPc := h.2.2.1, catchType := h.2.2.2 }) := List.eq_nil_iff_forall_not_mem.mpr (fun x h => hex x h)
  subst hsz
  generalize hAe : va_A (oz_wd ci cI cZ ad ly FX) s.heap.size = A at hU hN ⊢
  have hD : va_D A (oz_wd ci cI cZ ad ly FX) := by
    rw [← hAe]
    exact hD0.self (sz := s.heap.size)
  have hA : ∀ q : Nat, s.heap.size ≤ q → A q := fun q h => by rw [← hAe]; exact Or.inr h
  have hl := lv_entry av (n := maxL) hlen
  rw [lg_entry_eq]
  generalize (lg_sl av ++ List.replicate (maxL - (lg_sl av).length) Slot.unset).toArray = ls at hl ⊢
  exact body p e s m below meth c st A res _ hr ⟨rfl, ⟨hx, hb, hml, hown, hts⟩, hK, hD, hA, hC, hKS, hBX, hNC, hU, hN, hst, B.notSynchronized, htab⟩ ho s.heap [] ls hP va_S.rf hl

/-- a contract out of a road from the entry -/
theorem oz_ofL {l : Launch} {y : MethodName} {ws ws' : List Cond} {rm : Room} {D : va_G} {cI cZ : ClassId} {own wn : String} {ci : Nat} {T : u_T} {N : Nat} {KS : KSt} {ad : Nat → Nat} {ly : LY} {kc : Nat} {av : List Value} {o : Int32 → Option RC} {bytes : ByteArray} {maxL : Nat} {ret : Option FieldType} (hy : plainName y.cls = true) (hw : ws = Cond.code y bytes maxL ret :: ws') (hcls : y.cls = wn) (hC : oz_C own ci T N ly) (hst : l.stackTraces = false) (hlen : (lg_sl av).length ≤ maxL)
    (body : ∀ (p : Program) (e : Env) (s : State) (m : MethodId) (below : List Frame) (meth : Method) (c : Code) (st : Int32) (A : Nat → Prop) (res : RC) (G : Nat → Nat → List (Nat × Value) → List Value → Int32 → Option RC → Prop), meth.sig.returnType = ret →
      oz_E p l e rm s m av.toArray below meth c (vx_MQ below (oz_Ql D cI cZ ci ad ly res A) (oz_XC D cI cZ ci ad ly res A) av.toArray s kc (6 * kc) A) bytes maxL ws own wn D cI cZ ci T N KS ly ad A res [] G → G 0 0 (lv_args 0 av) [] st (o st)) : oz_ML l y ws rm D cI cZ own ci KS ad ly kc av o := by
  intro sz st res ho
  refine vx_ofW (cc := bytes) (maxL := maxL) (ret := ret) hy hw ?_
  intro p e s m args below meth c s₁ B hml hex hv
  obtain ⟨rfl, hsz, hP, hK, hD0, hKS, hBX, hNC, hU, hN⟩ := hv
  have hx := B.exec
  have hb := B.bytes
  have hr := B.returns
  have hts := atoms_spec (ws := ws) B.pre
  have hown : s.vm.findClass wn = some m.cls := by rw [← hcls]; exact findClass_of_methodNamed B.named
  have htab : c.exceptionTable.toList = ([] : List (Nat × Nat × Nat × Nat)).map (fun h => { startPc := h.1, endPc := h.2.1, handlerPc := h.2.2.1, catchType := h.2.2.2 }) := List.eq_nil_iff_forall_not_mem.mpr (fun x h => hex x h)
  subst hsz
  generalize hAe : va_A (oz_wd ci cI cZ ad ly FX) s.heap.size = A at hU hN ⊢
  have hD : va_D A (oz_wd ci cI cZ ad ly FX) := by
    rw [← hAe]
    exact hD0.self (sz := s.heap.size)
  have hA : ∀ q : Nat, s.heap.size ≤ q → A q := fun q h => by rw [← hAe]; exact Or.inr h
  have hl := lv_entry av (n := maxL) hlen
  rw [lg_entry_eq]
  generalize (lg_sl av ++ List.replicate (maxL - (lg_sl av).length) Slot.unset).toArray = ls at hl ⊢
  exact body p e s m below meth c st A res _ hr ⟨rfl, ⟨hx, hb, hml, hown, hts⟩, hK, hD, hA, hC, hKS, hBX, hNC, hU, hN, hst, B.notSynchronized, htab⟩ ho s.heap [] ls hP va_S.rf hl

/-- a contract out of a road from the entry -/
theorem oz_ofIX {l : Launch} {y : MethodName} {ws ws' : List Cond} {rm : Room} {D : va_G} {cI cZ : ClassId} {own wn : String} {ci : Nat} {T : u_T} {N : Nat} {KS : KSt} {ad : Nat → Nat} {ly : LY} {kc : Nat} {av : List Value} {o : Int32 → Option RC} {bytes : ByteArray} {maxL : Nat} {ret : Option FieldType} {hh : List (Nat × Nat × Nat × Nat)} (hy : plainName y.cls = true) (hw : ws = Cond.codeWith y bytes maxL ret hh :: ws') (hcls : y.cls = wn) (hC : oz_C own ci T N ly) (hst : l.stackTraces = false) (hlen : (lg_sl av).length ≤ maxL)
    (body : ∀ (p : Program) (e : Env) (s : State) (m : MethodId) (below : List Frame) (meth : Method) (c : Code) (st : Int32) (A : Nat → Prop) (res : RC) (G : Nat → Nat → List (Nat × Value) → List Value → Int32 → Option RC → Prop), meth.sig.returnType = ret →
      oz_E p l e rm s m av.toArray below meth c (vx_MQ below (oz_Qi D cI cZ ci ad ly res A) (oz_XC D cI cZ ci ad ly res A) av.toArray s kc (6 * kc) A) bytes maxL ws own wn D cI cZ ci T N KS ly ad A res hh G → G 0 0 (lv_args 0 av) [] st (o st)) : oz_MI l y ws rm D cI cZ own ci KS ad ly kc av o := by
  intro sz st res ho
  refine vx_ofWH (cc := bytes) (maxL := maxL) (ret := ret) (hh := hh) hy hw ?_
  intro p e s m args below meth c s₁ B hml hv
  obtain ⟨rfl, hsz, hP, hK, hD0, hKS, hBX, hNC, hU, hN⟩ := hv
  have hx := B.exec
  have hb := B.bytes
  have hr := B.returns
  have hts := atoms_spec (ws := ws) B.pre
  have hown : s.vm.findClass wn = some m.cls := by rw [← hcls]; exact findClass_of_methodNamed B.named
  have htab : c.exceptionTable.toList = hh.map (fun h => { startPc := h.1, endPc := h.2.1, handlerPc := h.2.2.1, catchType := h.2.2.2 }) := by
    have h9 := vx_table (x := y) B (hts (Cond.codeWith y bytes maxL ret hh) (by rw [hw]; exact List.mem_cons_self))
    exact h9
  subst hsz
  generalize hAe : va_A (oz_wd ci cI cZ ad ly FX) s.heap.size = A at hU hN ⊢
  have hD : va_D A (oz_wd ci cI cZ ad ly FX) := by
    rw [← hAe]
    exact hD0.self (sz := s.heap.size)
  have hA : ∀ q : Nat, s.heap.size ≤ q → A q := fun q h => by rw [← hAe]; exact Or.inr h
  have hl := lv_entry av (n := maxL) hlen
  rw [lg_entry_eq]
  generalize (lg_sl av ++ List.replicate (maxL - (lg_sl av).length) Slot.unset).toArray = ls at hl ⊢
  exact body p e s m below meth c st A res _ hr ⟨rfl, ⟨hx, hb, hml, hown, hts⟩, hK, hD, hA, hC, hKS, hBX, hNC, hU, hN, hst, B.notSynchronized, htab⟩ ho s.heap [] ls hP va_S.rf hl


section
-- ===== PART A: goes FIRST, ahead of the names: the tables' words, and 'selects' of the private methods out of them =====
/-- a private method of a class that the tables say can be made, by its rows of tables_1 -/
def lw_okq (q : MethodName × Nat) : Prop := (q.1.cls ≠ "java/lang/invoke/MethodHandle" ∧ q.1.cls ≠ "java/lang/invoke/VarHandle") ∧ Cond.instantiable q.1.cls q.2 ∈ tables_1 ∧ Cond.privateMethod q.1 ∈ tables_1 ∧ Cond.instanceMethod q.1 ∈ tables_1
theorem lw_p0 : lw_okq (⟨"java/lang/Throwable", "fillInStackTrace", "(I)Ljava/lang/Throwable;"⟩, 6) := ⟨⟨by decide +kernel, by decide +kernel⟩, List.mem_of_getElem? (i := 127) (by decide +kernel), List.mem_of_getElem? (i := 125) (by decide +kernel), List.mem_of_getElem? (i := 126) (by decide +kernel)⟩
theorem lw_p1 : lw_okq (⟨"AlmsKernel", "ageOf", "(I)I"⟩, 19) := ⟨⟨by decide +kernel, by decide +kernel⟩, List.mem_of_getElem? (i := 11) (by decide +kernel), List.mem_of_getElem? (i := 161) (by decide +kernel), List.mem_of_getElem? (i := 162) (by decide +kernel)⟩
theorem lw_p2 : lw_okq (⟨"AlmsKernel", "isLoan", "(I)Z"⟩, 19) := ⟨⟨by decide +kernel, by decide +kernel⟩, List.mem_of_getElem? (i := 11) (by decide +kernel), List.mem_of_getElem? (i := 177) (by decide +kernel), List.mem_of_getElem? (i := 178) (by decide +kernel)⟩
theorem lw_p3 : lw_okq (⟨"AlmsKernel", "lowestEmptyFrame", "(I)I"⟩, 19) := ⟨⟨by decide +kernel, by decide +kernel⟩, List.mem_of_getElem? (i := 11) (by decide +kernel), List.mem_of_getElem? (i := 246) (by decide +kernel), List.mem_of_getElem? (i := 247) (by decide +kernel)⟩
theorem lw_p4 : lw_okq (⟨"AlmsKernel", "dropPage", "(I)V"⟩, 19) := ⟨⟨by decide +kernel, by decide +kernel⟩, List.mem_of_getElem? (i := 11) (by decide +kernel), List.mem_of_getElem? (i := 262) (by decide +kernel), List.mem_of_getElem? (i := 263) (by decide +kernel)⟩
theorem lw_p5 : lw_okq (⟨"AlmsKernel", "frameWithPage", "(II)I"⟩, 19) := ⟨⟨by decide +kernel, by decide +kernel⟩, List.mem_of_getElem? (i := 11) (by decide +kernel), List.mem_of_getElem? (i := 275) (by decide +kernel), List.mem_of_getElem? (i := 276) (by decide +kernel)⟩
theorem lw_p6 : lw_okq (⟨"AlmsKernel", "frameForFault", "(I)I"⟩, 19) := ⟨⟨by decide +kernel, by decide +kernel⟩, List.mem_of_getElem? (i := 11) (by decide +kernel), List.mem_of_getElem? (i := 279) (by decide +kernel), List.mem_of_getElem? (i := 280) (by decide +kernel)⟩
theorem lw_p7 : lw_okq (⟨"AlmsKernel", "callIn", "(I)I"⟩, 19) := ⟨⟨by decide +kernel, by decide +kernel⟩, List.mem_of_getElem? (i := 11) (by decide +kernel), List.mem_of_getElem? (i := 283) (by decide +kernel), List.mem_of_getElem? (i := 284) (by decide +kernel)⟩
theorem lw_p8 : lw_okq (⟨"AlmsKernel", "isComing", "(I)Z"⟩, 19) := ⟨⟨by decide +kernel, by decide +kernel⟩, List.mem_of_getElem? (i := 11) (by decide +kernel), List.mem_of_getElem? (i := 287) (by decide +kernel), List.mem_of_getElem? (i := 288) (by decide +kernel)⟩
theorem lw_p9 : lw_okq (⟨"AlmsKernel", "endLoan", "(I)V"⟩, 19) := ⟨⟨by decide +kernel, by decide +kernel⟩, List.mem_of_getElem? (i := 11) (by decide +kernel), List.mem_of_getElem? (i := 291) (by decide +kernel), List.mem_of_getElem? (i := 292) (by decide +kernel)⟩
theorem lw_p10 : lw_okq (⟨"AlmsKernel", "borrow", "(I)I"⟩, 19) := ⟨⟨by decide +kernel, by decide +kernel⟩, List.mem_of_getElem? (i := 11) (by decide +kernel), List.mem_of_getElem? (i := 295) (by decide +kernel), List.mem_of_getElem? (i := 296) (by decide +kernel)⟩
theorem lw_p11 : lw_okq (⟨"AlmsKernel", "countBorrowed", "(I)I"⟩, 19) := ⟨⟨by decide +kernel, by decide +kernel⟩, List.mem_of_getElem? (i := 11) (by decide +kernel), List.mem_of_getElem? (i := 299) (by decide +kernel), List.mem_of_getElem? (i := 300) (by decide +kernel)⟩
theorem lw_p12 : lw_okq (⟨"AlmsKernel", "richestLender", "(I)I"⟩, 19) := ⟨⟨by decide +kernel, by decide +kernel⟩, List.mem_of_getElem? (i := 11) (by decide +kernel), List.mem_of_getElem? (i := 303) (by decide +kernel), List.mem_of_getElem? (i := 304) (by decide +kernel)⟩
theorem lw_p13 : lw_okq (⟨"AlmsKernel", "frameToLend", "(I)I"⟩, 19) := ⟨⟨by decide +kernel, by decide +kernel⟩, List.mem_of_getElem? (i := 11) (by decide +kernel), List.mem_of_getElem? (i := 307) (by decide +kernel), List.mem_of_getElem? (i := 308) (by decide +kernel)⟩
theorem lw_p14 : lw_okq (⟨"AlmsKernel", "oldestFrame", "(I)I"⟩, 19) := ⟨⟨by decide +kernel, by decide +kernel⟩, List.mem_of_getElem? (i := 11) (by decide +kernel), List.mem_of_getElem? (i := 312) (by decide +kernel), List.mem_of_getElem? (i := 313) (by decide +kernel)⟩
theorem lw_p15 : lw_okq (⟨"AlmsKernel", "passTick", "()V"⟩, 19) := ⟨⟨by decide +kernel, by decide +kernel⟩, List.mem_of_getElem? (i := 11) (by decide +kernel), List.mem_of_getElem? (i := 329) (by decide +kernel), List.mem_of_getElem? (i := 330) (by decide +kernel)⟩
def lw_privs_1 : List (MethodName × Nat) := [(⟨"java/lang/Throwable", "fillInStackTrace", "(I)Ljava/lang/Throwable;"⟩, 6), (⟨"AlmsKernel", "ageOf", "(I)I"⟩, 19), (⟨"AlmsKernel", "isLoan", "(I)Z"⟩, 19), (⟨"AlmsKernel", "lowestEmptyFrame", "(I)I"⟩, 19), (⟨"AlmsKernel", "dropPage", "(I)V"⟩, 19), (⟨"AlmsKernel", "frameWithPage", "(II)I"⟩, 19), (⟨"AlmsKernel", "frameForFault", "(I)I"⟩, 19), (⟨"AlmsKernel", "callIn", "(I)I"⟩, 19), (⟨"AlmsKernel", "isComing", "(I)Z"⟩, 19), (⟨"AlmsKernel", "endLoan", "(I)V"⟩, 19), (⟨"AlmsKernel", "borrow", "(I)I"⟩, 19), (⟨"AlmsKernel", "countBorrowed", "(I)I"⟩, 19), (⟨"AlmsKernel", "richestLender", "(I)I"⟩, 19), (⟨"AlmsKernel", "frameToLend", "(I)I"⟩, 19), (⟨"AlmsKernel", "oldestFrame", "(I)I"⟩, 19), (⟨"AlmsKernel", "passTick", "()V"⟩, 19)]
theorem lw_r1 : ∀ q ∈ lw_privs_1, lw_okq q := List.forall_mem_cons.mpr ⟨lw_p0, List.forall_mem_cons.mpr ⟨lw_p1, List.forall_mem_cons.mpr ⟨lw_p2, List.forall_mem_cons.mpr ⟨lw_p3, List.forall_mem_cons.mpr ⟨lw_p4, List.forall_mem_cons.mpr ⟨lw_p5, List.forall_mem_cons.mpr ⟨lw_p6, List.forall_mem_cons.mpr ⟨lw_p7, List.forall_mem_cons.mpr ⟨lw_p8, List.forall_mem_cons.mpr ⟨lw_p9, List.forall_mem_cons.mpr ⟨lw_p10, List.forall_mem_cons.mpr ⟨lw_p11, List.forall_mem_cons.mpr ⟨lw_p12, List.forall_mem_cons.mpr ⟨lw_p13, List.forall_mem_cons.mpr ⟨lw_p14, List.forall_mem_cons.mpr ⟨lw_p15, fun _ h => absurd h List.not_mem_nil⟩⟩⟩⟩⟩⟩⟩⟩⟩⟩⟩⟩⟩⟩⟩⟩
theorem lw_p16 : lw_okq (⟨"AlmsKernel", "payWages", "()V"⟩, 19) := ⟨⟨by decide +kernel, by decide +kernel⟩, List.mem_of_getElem? (i := 11) (by decide +kernel), List.mem_of_getElem? (i := 333) (by decide +kernel), List.mem_of_getElem? (i := 334) (by decide +kernel)⟩
theorem lw_p17 : lw_okq (⟨"AlmsKernel", "chargeLoans", "()V"⟩, 19) := ⟨⟨by decide +kernel, by decide +kernel⟩, List.mem_of_getElem? (i := 11) (by decide +kernel), List.mem_of_getElem? (i := 337) (by decide +kernel), List.mem_of_getElem? (i := 338) (by decide +kernel)⟩
theorem lw_p18 : lw_okq (⟨"AlmsKernel", "charge", "(I)V"⟩, 19) := ⟨⟨by decide +kernel, by decide +kernel⟩, List.mem_of_getElem? (i := 11) (by decide +kernel), List.mem_of_getElem? (i := 341) (by decide +kernel), List.mem_of_getElem? (i := 342) (by decide +kernel)⟩
theorem lw_p19 : lw_okq (⟨"AlmsKernel", "putToSleep", "(I)V"⟩, 19) := ⟨⟨by decide +kernel, by decide +kernel⟩, List.mem_of_getElem? (i := 11) (by decide +kernel), List.mem_of_getElem? (i := 345) (by decide +kernel), List.mem_of_getElem? (i := 346) (by decide +kernel)⟩
theorem lw_p20 : lw_okq (⟨"AlmsKernel", "giveAlms", "()V"⟩, 19) := ⟨⟨by decide +kernel, by decide +kernel⟩, List.mem_of_getElem? (i := 11) (by decide +kernel), List.mem_of_getElem? (i := 349) (by decide +kernel), List.mem_of_getElem? (i := 350) (by decide +kernel)⟩
theorem lw_p21 : lw_okq (⟨"AlmsKernel", "richestGiver", "()I"⟩, 19) := ⟨⟨by decide +kernel, by decide +kernel⟩, List.mem_of_getElem? (i := 11) (by decide +kernel), List.mem_of_getElem? (i := 353) (by decide +kernel), List.mem_of_getElem? (i := 354) (by decide +kernel)⟩
theorem lw_p22 : lw_okq (⟨"AlmsKernel", "moveDisk", "()V"⟩, 19) := ⟨⟨by decide +kernel, by decide +kernel⟩, List.mem_of_getElem? (i := 11) (by decide +kernel), List.mem_of_getElem? (i := 357) (by decide +kernel), List.mem_of_getElem? (i := 358) (by decide +kernel)⟩
theorem lw_p23 : lw_okq (⟨"AlmsKernel", "nearestRequest", "()I"⟩, 19) := ⟨⟨by decide +kernel, by decide +kernel⟩, List.mem_of_getElem? (i := 11) (by decide +kernel), List.mem_of_getElem? (i := 361) (by decide +kernel), List.mem_of_getElem? (i := 362) (by decide +kernel)⟩
theorem lw_p24 : lw_okq (⟨"AlmsKernel", "trackOf", "(I)I"⟩, 19) := ⟨⟨by decide +kernel, by decide +kernel⟩, List.mem_of_getElem? (i := 11) (by decide +kernel), List.mem_of_getElem? (i := 365) (by decide +kernel), List.mem_of_getElem? (i := 366) (by decide +kernel)⟩
theorem lw_p25 : lw_okq (⟨"AlmsKernel", "finishRequest", "(I)V"⟩, 19) := ⟨⟨by decide +kernel, by decide +kernel⟩, List.mem_of_getElem? (i := 11) (by decide +kernel), List.mem_of_getElem? (i := 372) (by decide +kernel), List.mem_of_getElem? (i := 373) (by decide +kernel)⟩
theorem lw_p26 : lw_okq (⟨"AlmsKernel", "isRequested", "(I)Z"⟩, 19) := ⟨⟨by decide +kernel, by decide +kernel⟩, List.mem_of_getElem? (i := 11) (by decide +kernel), List.mem_of_getElem? (i := 407) (by decide +kernel), List.mem_of_getElem? (i := 408) (by decide +kernel)⟩
def lw_privs_2 : List (MethodName × Nat) := [(⟨"AlmsKernel", "payWages", "()V"⟩, 19), (⟨"AlmsKernel", "chargeLoans", "()V"⟩, 19), (⟨"AlmsKernel", "charge", "(I)V"⟩, 19), (⟨"AlmsKernel", "putToSleep", "(I)V"⟩, 19), (⟨"AlmsKernel", "giveAlms", "()V"⟩, 19), (⟨"AlmsKernel", "richestGiver", "()I"⟩, 19), (⟨"AlmsKernel", "moveDisk", "()V"⟩, 19), (⟨"AlmsKernel", "nearestRequest", "()I"⟩, 19), (⟨"AlmsKernel", "trackOf", "(I)I"⟩, 19), (⟨"AlmsKernel", "finishRequest", "(I)V"⟩, 19), (⟨"AlmsKernel", "isRequested", "(I)Z"⟩, 19)]
theorem lw_r2 : ∀ q ∈ lw_privs_2, lw_okq q := List.forall_mem_cons.mpr ⟨lw_p16, List.forall_mem_cons.mpr ⟨lw_p17, List.forall_mem_cons.mpr ⟨lw_p18, List.forall_mem_cons.mpr ⟨lw_p19, List.forall_mem_cons.mpr ⟨lw_p20, List.forall_mem_cons.mpr ⟨lw_p21, List.forall_mem_cons.mpr ⟨lw_p22, List.forall_mem_cons.mpr ⟨lw_p23, List.forall_mem_cons.mpr ⟨lw_p24, List.forall_mem_cons.mpr ⟨lw_p25, List.forall_mem_cons.mpr ⟨lw_p26, fun _ h => absurd h List.not_mem_nil⟩⟩⟩⟩⟩⟩⟩⟩⟩⟩⟩
def lw_privs : List (MethodName × Nat) := lw_privs_1 ++ (lw_privs_2)
def lw_tbl : List Cond := k2_sels lw_privs ++ tables_1
theorem lw_privs_ok : ∀ q ∈ lw_privs, lw_okq q := by
  show ∀ q ∈ lw_privs_1 ++ (lw_privs_2), lw_okq q
  exact List.forall_mem_append.mpr ⟨lw_r1, lw_r2⟩
-- ===== end of PART A; then your names; then what follows =====
end
section
/-! ===== BEGIN words of one list among another's, by their places ===== -/
theorem goodIn_r {big : List Cond} (ws : List Cond) (ps : List Nat) (hp : ws = ps.filterMap (fun i => big[i]?)) (h : ws.all goodWord = true) : GoodIn big ws := by
  intro w hw
  have h1 := List.all_eq_true.mp h w hw
  rw [hp] at hw
  obtain ⟨i, -, hi⟩ := List.mem_filterMap.mp hw
  have hm : w ∈ big := by first | exact List.mem_of_getElem? hi | exact List.getElem?_mem hi
  exact ⟨hm, good_of_word h1⟩
theorem goodIn_app {big a b : List Cond} (ha : GoodIn big a) (hb : GoodIn big b) : GoodIn big (a ++ b) := fun w h => (List.mem_append.mp h).elim (ha w) (hb w)
theorem goodIn_ca {big a b : List Cond} {c : Cond} (ha : GoodIn big (c :: a)) (hb : GoodIn big b) : GoodIn big (c :: (a ++ b)) := fun w h => (List.mem_cons.mp h).elim (fun e => ha w (List.mem_cons.mpr (Or.inl e))) (fun h => (List.mem_append.mp h).elim (fun h => ha w (List.mem_cons.mpr (Or.inr h))) (hb w))
theorem goodIn_sub {big ws : List Cond} (hm : ∀ w ∈ ws, w ∈ big) (h : ws.all goodWord = true) : GoodIn big ws := fun w hw => ⟨hm w hw, good_of_word (List.all_eq_true.mp h w hw)⟩
/-! ===== END ===== -/

/-! ===== BEGIN exceptions that leave a method, and their catching by the caller (launches without stack traces) ===== -/
section VXA
/-! The laws vx_back, vx_callV, vx_callS, vx_callSW, vx_throw0, vx_throwS follow proofs of the library, with one case more: JvmDerived/Free/Laws.lean (Back.of_free), Shelf42/LK1.lean (callV, callS), Shelf/KitTraced.lean (throwNew0V, throwNewS). -/
/-- where a method has thrown q: the class by its name, the cell, what was written, the world -/
def vx_T (XC : String → State → State → Prop) (st : State) (q : Addr) (t : State) (mc ms : Nat) (free : Addr → Prop) : Prop :=
  ∃ (E : String) (ce : Cell) (L : List Loc), XC E st t ∧ t.heap[q]? = some ce ∧ ce.vm = .none ∧ st.vm.findClass E = some ce.cls ∧ st.WarmedH t.vm ∧ st.sameButNew ({ t with vm := st.vm } : State) L mc ms ∧ ∀ z ∈ L, free z.base
def vx_Q (Qc : Array Value → State → Outcome → State → Prop) (XC : String → State → State → Prop) (mc ms : Nat) (free : Addr → Prop) : Array Value → State → Outcome → State → Prop := fun a st o t =>
  (Qc a st o t ∧ ∃ L, FrameEnd st o t L mc ms ∧ ∀ q ∈ L, free q.base) ∨ ∃ q, o = .threw q ∧ vx_T XC st q t mc ms free
/-- a callee that returns or throws -/
def vx_Met (l : Launch) (y : MethodName) (ws : List Cond) (rm : Room) (Pc : Array Value → State → Prop) (Qc : Array Value → State → Outcome → State → Prop) (XC : String → State → State → Prop) (mc ms : Nat) (free : Addr → Prop) : Prop :=
  MetFree l y (headSpec ws rm) Pc (fun _ _ _ _ _ => True) (vx_Q Qc XC mc ms free)
def vx_Post (XC : String → State → State → Prop) (mc ms : Nat) (free : Addr → Prop) : Pt → Array Value → Addr → Pt → Prop := fun A a q B =>
  ∃ (g : JFrame) (mk : MethodId) (t : State) (L : List Loc) (E : String) (ce : Cell), B.U.heap = t.heap ∧ B.U.vm = t.vm ∧ XC E (A.U.calling g mk a) t ∧ t.heap[q]? = some ce ∧ ce.vm = .none ∧ A.U.vm.findClass E = some ce.cls ∧ B.locs = A.locs ++ L ∧ (∀ z ∈ L, free z.base) ∧ B.cells = A.cells + mc ∧ B.slots = A.slots + ms
def vx_Back (l : Launch) (R : Room) (p : Program) (e : Env) (below : List Frame) (s : State) (sargs : Array Value) (y : MethodName) (len W9 : Nat)
    (Pre : Pt → Array Value → Prop) (Post : Pt → Array Value → Option Value → Pt → Prop) (PostX : Pt → Array Value → Addr → Pt → Prop) : Prop :=
  ∀ (m : MethodId) (meth : Method) (c : Code) (A : Pt) (g : JFrame) (ig : Instr) (mk : MethodId) (a : Array Value),
    Stand p l e R s m sargs below meth c A.U A.locs A.cells A.slots → g.method = m → g.locals.size = c.maxLocals → decode c.code g.pc = .ok (ig, len) →
    2 * g.monitorRoom + (g.stack.map fun v => v.category).sum ≤ W9 → A.U.methodNamed? y = some mk → Pre A a →
    (∃ (v : Option Value) (B : Pt), Stand p l e R s m sargs below meth c B.U B.locs B.cells B.slots ∧ Post A a v B ∧
      Steps p.tables e below (doInvoke e (A.U.setTop g) [] mk a).1 (B.U.setTop { g with pc := g.pc + len, stack := v.toList ++ g.stack })) ∨
    (∃ (q : Addr) (B : Pt), Stand p l e R s m sargs below meth c B.U B.locs B.cells B.slots ∧ PostX A a q B ∧
      Steps p.tables e below (doInvoke e (A.U.setTop g) [] mk a).1 ((B.U.setTop g).pushFrame (.throwing q)))
section Payer
variable {l : Launch} {R : Room} {p : Program} {e : Env} {below : List Frame} {s : State} {sargs : Array Value} {y : MethodName} {len W9 : Nat}
theorem vx_back {ws : List Cond} {rm : Room} {Pc : Array Value → State → Prop} {Qc : Array Value → State → Outcome → State → Prop} {XC : String → State → State → Prop} {mc ms : Nat} {free : Addr → Prop} {bytes : ByteArray} {maxL : Nat} {ret : Option FieldType}
    (hM : vx_Met l y ws rm Pc Qc XC mc ms free) (hblind : FrameBlind Pc) (hrc : rm.cells = mc) (hrs : rm.slots = ms)
    (hframes : rm.frames + 1 ≤ R.frames) (hlocals : W9 + (maxL + 11) + rm.locals ≤ R.locals)
    (hws : ∀ w ∈ ws, ∀ a' U, s.WarmedH U.vm → w.before a' U = true) (hcode : Cond.code y bytes maxL ret ∈ ws) (hinit : ∀ a' U, s.WarmedH U.vm → (Cond.initialized y.cls).before a' U = true) :
    vx_Back l R p e below s sargs y len W9 (PreOf R mc ms Pc) (PostOf Qc mc ms free) (vx_Post XC mc ms free) := by
  intro m meth c A g ig mk a X hg hsize hdg hW hn hp
  have h1 : (headSpec ws rm).pre.before a A.U = true := atoms_intro fun w hw => hws w hw _ _ X.warmed
  have h2 : (Cond.code y bytes maxL ret).before a A.U = true := hws _ hcode _ _ X.warmed
  have h3 : (Cond.initialized y.cls).before a A.U = true := hinit _ _ X.warmed
  have h4 : A.cells + (headSpec ws rm).room.cells ≤ R.cells := by rw [show (headSpec ws rm).room.cells = mc from hrc]; exact hp.1
  have h5 : A.slots + (headSpec ws rm).room.slots ≤ R.slots := by rw [show (headSpec ws rm).room.slots = ms from hrs]; exact hp.2.1
  have hPc : Pc a (A.U.calling g mk a) := hblind _ _ _ _ hp.2.2
  obtain ⟨U, Ls, c0, s0⟩ := A
  dsimp only [Pt.U, Pt.locs, Pt.cells, Pt.slots] at h1 h2 h3 h4 h5 X hn hPc ⊢
  obtain ⟨methY, cY, hmY, hcY, -, hlY, -, -, -, -⟩ := Cond.code_spec hn h2
  obtain ⟨kY, hkY, -⟩ := className_of_methodNamed hn
  have hinitY : kY.init = .initialized := Cond.initialized_spec (findClass_of_methodNamed hn) hkY h3
  have h : At U g.method c below := by rw [hg]; exact X.here
  have hlocals9 : W9 + (maxL + 11) + (headSpec ws rm).room.locals ≤ R.locals := hlocals
  have happ : (headSpec ws rm).appliesLoose y e.platform (U.calling g mk a) = true :=
    Spec.appliesLoose_calling (g := g) h hdg hn hkY hinitY
      (X.room_calling (g := g) (R' := (headSpec ws rm).room) hsize hmY hcY hframes (by rw [hlY]; omega) h4 h5) h1
  obtain ⟨mid, hmid⟩ := h.above
  have hfr : (U.setTop g).frames = (.java g :: mid) ++ below := by rw [State.frames_setTop' g h.top, hmid]; rfl
  obtain ⟨o, s₂, hsteps, -, hend, hq⟩ := Steps.callFree hM p X.admits X.cas X.clock (acts := []) hfr happ hPc trivial
  have hq' : vx_Q Qc XC mc ms free a (U.calling g mk a) o s₂ := hq
  rw [State.frames_setTop' g h.top] at hend
  obtain ⟨g₀, hg0⟩ := Option.isSome_iff_exists.mp h.top
  obtain ⟨r, hr⟩ := State.topJava?_eq_some.mp hg0
  have hr' : (({ U with heap := s₂.heap, slotsUsed := s₂.slotsUsed } : State).setVm s₂.vm).frames = .java g₀ :: r := hr
  rcases hq' with ⟨hqc, L, hfe, hL⟩ | ⟨q, rfl, E, ce, L, hx, hce, hcv, hcl, hW₂, hsm, hL⟩
  · obtain ⟨⟨v, rfl⟩, hW₂, e2, q2, q3, q4, q5, q6⟩ := id hfe
    have e3 : s₂ = ({ (U.calling g mk a).setFrames s₂.frames with heap := s₂.heap, slotsUsed := s₂.slotsUsed } : State).setVm s₂.vm := by
      have : s₂ = ({ s₂ with vm := (U.calling g mk a).vm } : State).setVm s₂.vm := rfl
      rw [e2] at this
      exact this
    obtain ⟨c₂, i₂, len₂, hc₂, hd₂, hf₂⟩ := hend
    have hW' : U.WarmedH s₂.vm := hW₂
    have hcc : c₂ = c := by
      have h1 : s₂.code? g.method = U.code? g.method := by
        rw [State.code?_eq, State.code?_eq, hW'.alike.method?]
      exact Option.some.inj (hc₂.symm.trans (h1.trans h.code))
    subst hcc
    have hlen : len₂ = len := by rw [hdg] at hd₂; cases hd₂; rfl
    subst hlen
    have hs₂ : s₂ = (({ U with heap := s₂.heap, slotsUsed := s₂.slotsUsed } : State).setVm s₂.vm).setTop { g with pc := g.pc + len₂, stack := v.toList ++ g.stack } := by
      refine e3.trans ?_
      rw [hf₂, State.calling_eq h.top, State.setFrames_setFrames, State.setTop_of_frames _ hr', hr]
      rfl
    have hsame : U.sameButNew ({ U with heap := s₂.heap, slotsUsed := s₂.slotsUsed } : State) L mc ms := by
      refine ⟨?_, q2, q3, q4, q5, q6⟩
      obtain ⟨t, ht, -⟩ := State.frames_cons hr
      show ({ U with heap := s₂.heap, slotsUsed := s₂.slotsUsed } : State) = { U.setFrames U.frames with heap := s₂.heap, slotsUsed := s₂.slotsUsed }
      rw [State.setFrames_self ht]
    subst hg
    refine Or.inl ⟨v, ⟨(({ U with heap := s₂.heap, slotsUsed := s₂.slotsUsed } : State).setVm s₂.vm), Ls ++ L, c0 + mc, s0 + ms⟩,
      ⟨X.admits, X.cas, X.clock, X.frames, X.room, X.hears, X.method, X.code, (X.here.setHeapUsed s₂.heap s₂.slotsUsed).setVm hW'.alike, X.tail, State.WarmedH.trans X.warmed hW', X.limits, X.bytes, X.same.trans (hsame.setVm s.vm)⟩,
      ⟨g, mk, s₂, L, rfl, rfl, hqc, rfl, hL, rfl, rfl⟩, ?_⟩
    show Steps p.tables e below _ ((({ U with heap := s₂.heap, slotsUsed := s₂.slotsUsed } : State).setVm s₂.vm).setTop { g with pc := g.pc + len₂, stack := v.toList ++ g.stack })
    rw [← hs₂]
    exact hsteps
  · obtain ⟨e2, q2, q3, q4, q5, q6⟩ := id hsm
    have e3 : s₂ = ({ (U.calling g mk a).setFrames s₂.frames with heap := s₂.heap, slotsUsed := s₂.slotsUsed } : State).setVm s₂.vm := by
      have : s₂ = ({ s₂ with vm := (U.calling g mk a).vm } : State).setVm s₂.vm := rfl
      rw [e2] at this
      exact this
    have hf₂ : s₂.frames = .throwing q :: .java g :: U.frames.tail := hend
    have hW' : U.WarmedH s₂.vm := hW₂
    have hs₂ : s₂ = ((({ U with heap := s₂.heap, slotsUsed := s₂.slotsUsed } : State).setVm s₂.vm).setTop g).pushFrame (.throwing q) := by
      refine e3.trans ?_
      rw [hf₂, State.calling_eq h.top, State.setFrames_setFrames, State.pushFrame, State.frames_setTop _ hr', State.setTop_of_frames _ hr', State.setFrames_setFrames, hr]
      rfl
    have hsame : U.sameButNew ({ U with heap := s₂.heap, slotsUsed := s₂.slotsUsed } : State) L mc ms := by
      refine ⟨?_, q2, q3, q4, q5, q6⟩
      obtain ⟨t, ht, -⟩ := State.frames_cons hr
      show ({ U with heap := s₂.heap, slotsUsed := s₂.slotsUsed } : State) = { U.setFrames U.frames with heap := s₂.heap, slotsUsed := s₂.slotsUsed }
      rw [State.setFrames_self ht]
    subst hg
    refine Or.inr ⟨q, ⟨(({ U with heap := s₂.heap, slotsUsed := s₂.slotsUsed } : State).setVm s₂.vm), Ls ++ L, c0 + mc, s0 + ms⟩,
      ⟨X.admits, X.cas, X.clock, X.frames, X.room, X.hears, X.method, X.code, (X.here.setHeapUsed s₂.heap s₂.slotsUsed).setVm hW'.alike, X.tail, State.WarmedH.trans X.warmed hW', X.limits, X.bytes, X.same.trans (hsame.setVm s.vm)⟩,
      ⟨g, mk, s₂, L, E, ce, rfl, rfl, hx, hce, hcv, hcl, rfl, hL, rfl, rfl⟩, ?_⟩
    show Steps p.tables e below _ (((({ U with heap := s₂.heap, slotsUsed := s₂.slotsUsed } : State).setVm s₂.vm).setTop g).pushFrame (.throwing q))
    rw [← hs₂]
    exact hsteps
end Payer
section Calls
variable {p : Program} {l : Launch} {e : Env} {R : Room} {s : State} {m : MethodId} {args : Array Value} {below : List Frame} {meth : Method} {c : Code} {T : State} {locs : List Loc} {cells slots : Nat}
theorem vx_callV (X : Stand p l e R s m args below meth c T locs cells slots) (hexec : p.tables.exec = Jvm.exec) {own C : String} {index : Nat} {y : MethodName} {bytes : ByteArray} {maxL : Nat} {ret : Option FieldType}
    (hown : s.vm.findClass own = some m.cls) (hlink : (Cond.methodLink own index y).before args s = true) (hinst : (Cond.instanceMethod y).before args s = true) (hsel : (Cond.selects C y y).before args s = true)
    (hcode : (Cond.code y bytes maxL ret).before args s = true) (hy : y.cls ≠ "java/lang/invoke/MethodHandle" ∧ y.cls ≠ "java/lang/invoke/VarHandle")
    {W9 : Nat} {Pre : Pt → Array Value → Prop} {Post : Pt → Array Value → Option Value → Pt → Prop} {PostX : Pt → Array Value → Addr → Pt → Prop} (hK : vx_Back l R p e below s args y 3 W9 Pre Post PostX)
    {b : Addr} {cellB : Cell} (hcell : T.heap[b]? = some cellB) (hobj : cellB.vm.isStatics = false) (hcls : s.vm.findClass C = some cellB.cls)
    {g : JFrame} (hg : g.method = m) (hsize : g.locals.size = c.maxLocals) {argsL rest : List Value} (hlen : ∀ sig, parseMethodDescriptor y.desc = some sig → argsL.length = sig.parameters.length)
    (hstack : g.stack = argsL.reverse ++ .ref b :: rest) (hW : 2 * g.monitorRoom + (rest.map fun v => v.category).sum ≤ W9) (hdg : decode c.code g.pc = .ok (.invokevirtual index, 3))
    (hpre : ∀ vm₁, s.WarmedH vm₁ → Pre ⟨T.setVm vm₁, locs, cells, slots⟩ (Value.ref b :: argsL).toArray) :
    (∃ (v : Option Value) (vm₁ : Vm) (B : Pt), s.WarmedH vm₁ ∧ Stand p l e R s m args below meth c B.U B.locs B.cells B.slots ∧ Post ⟨T.setVm vm₁, locs, cells, slots⟩ (Value.ref b :: argsL).toArray v B ∧
      ∀ target, Steps p.tables e below (B.U.setTop { g with pc := g.pc + 3, stack := v.toList ++ rest }) target → Steps p.tables e below (T.setTop g) target) ∨
    (∃ (q : Addr) (vm₁ : Vm) (B : Pt), s.WarmedH vm₁ ∧ Stand p l e R s m args below meth c B.U B.locs B.cells B.slots ∧ PostX ⟨T.setVm vm₁, locs, cells, slots⟩ (Value.ref b :: argsL).toArray q B ∧
      Steps p.tables e below (T.setTop g) ((B.U.setTop { g with stack := rest }).pushFrame (.throwing q))) := by
  obtain ⟨mk, methM, hnamed, hmethM, hstM, habM⟩ := Cond.instanceMethod_spec hinst
  obtain ⟨methM', cM, hmethM', -, -, -, -, -, -, hsigM⟩ := Cond.code_spec hnamed hcode
  cases hmethM.symm.trans hmethM'
  obtain ⟨c2, r2, m2, q1, q2, q3, q4, kP, hkP, hkPi⟩ := Cond.selects_spec hsel
  cases hcls.symm.trans q1
  cases (State.methodFound?_of_named hnamed hy).symm.trans q2
  cases hnamed.symm.trans q3
  have hselP : selectMethod e.platform s.vm cellB.cls mk = .method mk := by rw [Launch.admits_selectMethod X.admits]; exact q4
  obtain ⟨vm₁, X₁, hstep₁⟩ := X.invokevirtual hexec hown hlink hnamed hmethM hstM hkP hkPi hy (a := b) (cell := cellB) hcell
    (fun z h => by rw [h] at hobj; cases hobj) hselP hmethM habM hkP hkPi (g := g) hg (argsL := argsL) (rest := rest) (hlen _ hsigM) hstack hdg
  rcases hK m meth c ⟨T.setVm vm₁, locs, cells, slots⟩ { g with stack := rest } (.invokevirtual index) mk (Value.ref b :: argsL).toArray X₁ hg hsize hdg hW (X₁.named hnamed) (hpre vm₁ X₁.warmed) with ⟨v, B, X', hpost, hsteps⟩ | ⟨q, B, X', hpost, hsteps⟩
  · exact Or.inl ⟨v, vm₁, B, X₁.warmed, X', hpost, fun target h => hstep₁ _ fun acts => by rw [doInvoke_state]; exact hsteps.trans h⟩
  · exact Or.inr ⟨q, vm₁, B, X₁.warmed, X', hpost, hstep₁ _ fun acts => by rw [doInvoke_state]; exact hsteps⟩
theorem vx_callS (X : Stand p l e R s m args below meth c T locs cells slots) (hexec : p.tables.exec = Jvm.exec) {own : String} {index : Nat} {y : MethodName} {bytes : ByteArray} {maxL : Nat} {ret : Option FieldType}
    (hown : s.vm.findClass own = some m.cls) (hlink : (Cond.methodLink own index y).before args s = true) (hstat : (Cond.static y).before args s = true) (hinit : (Cond.initialized y.cls).before args s = true)
    (hcode : (Cond.code y bytes maxL ret).before args s = true) (hy : y.cls ≠ "java/lang/invoke/MethodHandle" ∧ y.cls ≠ "java/lang/invoke/VarHandle")
    {W9 : Nat} {Pre : Pt → Array Value → Prop} {Post : Pt → Array Value → Option Value → Pt → Prop} {PostX : Pt → Array Value → Addr → Pt → Prop} (hK : vx_Back l R p e below s args y 3 W9 Pre Post PostX)
    {g : JFrame} (hg : g.method = m) (hsize : g.locals.size = c.maxLocals) {argsL rest : List Value} (hlen : ∀ sig, parseMethodDescriptor y.desc = some sig → argsL.length = sig.parameters.length)
    (hstack : g.stack = argsL.reverse ++ rest) (hW : 2 * g.monitorRoom + (rest.map fun v => v.category).sum ≤ W9) (hdg : decode c.code g.pc = .ok (.invokestatic index, 3))
    (hpre : ∀ vm₁, s.WarmedH vm₁ → Pre ⟨T.setVm vm₁, locs, cells, slots⟩ argsL.toArray) :
    (∃ (v : Option Value) (vm₁ : Vm) (B : Pt), s.WarmedH vm₁ ∧ Stand p l e R s m args below meth c B.U B.locs B.cells B.slots ∧ Post ⟨T.setVm vm₁, locs, cells, slots⟩ argsL.toArray v B ∧
      ∀ target, Steps p.tables e below (B.U.setTop { g with pc := g.pc + 3, stack := v.toList ++ rest }) target → Steps p.tables e below (T.setTop g) target) ∨
    (∃ (q : Addr) (vm₁ : Vm) (B : Pt), s.WarmedH vm₁ ∧ Stand p l e R s m args below meth c B.U B.locs B.cells B.slots ∧ PostX ⟨T.setVm vm₁, locs, cells, slots⟩ argsL.toArray q B ∧
      Steps p.tables e below (T.setTop g) ((B.U.setTop { g with stack := rest }).pushFrame (.throwing q))) := by
  obtain ⟨mk, hnamed⟩ := Cond.code_named hcode
  obtain ⟨methM, cM, hmethM, -, -, -, -, -, -, hsigM⟩ := Cond.code_spec hnamed hcode
  have hstatic : methM.isStatic = true := Cond.static_spec hnamed hmethM hstat
  obtain ⟨kP, hkP, -⟩ := className_of_methodNamed hnamed
  have hinitP : kP.init = .initialized := Cond.initialized_spec (findClass_of_methodNamed hnamed) hkP hinit
  obtain ⟨vm₁, X₁, hstep₁⟩ := X.invokestatic hexec hown hlink hnamed hmethM hstatic hkP hinitP hy (g := g) hg (argsL := argsL) (rest := rest) (hlen _ hsigM) hstack hdg
  rcases hK m meth c ⟨T.setVm vm₁, locs, cells, slots⟩ { g with stack := rest } (.invokestatic index) mk argsL.toArray X₁ hg hsize hdg hW (X₁.named hnamed) (hpre vm₁ X₁.warmed) with ⟨v, B, X', hpost, hsteps⟩ | ⟨q, B, X', hpost, hsteps⟩
  · exact Or.inl ⟨v, vm₁, B, X₁.warmed, X', hpost, fun target h => hstep₁ _ fun acts => by rw [doInvoke_state]; exact hsteps.trans h⟩
  · exact Or.inr ⟨q, vm₁, B, X₁.warmed, X', hpost, hstep₁ _ fun acts => by rw [doInvoke_state]; exact hsteps⟩
end Calls
theorem vx_cls {s : State} {T : State} {vm₁ : Vm} {E : String} {k : ClassId} (hW : s.WarmedH vm₁) (h : (T.setVm vm₁).vm.findClass E = some k) : s.vm.findClass E = some k := by
  have h1 : vm₁.findClass E = some k := h
  rw [hW.alike.findClass] at h1
  exact h1
/-- the method's frame g, with q thrown over it -/
def vx_W (p : Program) (l : Launch) (e : Env) (R : Room) (s : State) (m : MethodId) (args : Array Value) (below : List Frame) (meth : Method) (c : Code) (H : Heap) (locs : List Loc) (cells slots : Nat) (Q : State → Prop) (g : JFrame) (q : Addr) : Prop :=
  ∀ T : State, T.heap = H → Stand p l e R s m args below meth c T locs cells slots → ∃ t, Steps p.tables e below ((T.setTop g).pushFrame (.throwing q)) t ∧ Q t
def vx_Run (p : Program) (l : Launch) (e : Env) (R : Room) (s : State) (m : MethodId) (args : Array Value) (below : List Frame) (meth : Method) (c : Code) (H : Heap) (locs : List Loc) (cells slots mc ms : Nat) (g : JFrame) (rest : List Value) (Qa : State → Outcome → State → Prop) (XC : String → State → State → Prop) (free : Addr → Prop) : Prop :=
  ∀ T : State, T.heap = H → Stand p l e R s m args below meth c T locs cells slots →
    (∃ (v : Option Value) (st₀ t T' : State) (L : List Loc), st₀.heap = H ∧ Stand p l e R s m args below meth c T' (locs ++ L) (cells + mc) (slots + ms) ∧ (∀ q ∈ L, free q.base) ∧ T'.heap = t.heap ∧ T'.vm = t.vm ∧ Qa st₀ (.returned v) t ∧
      Goes p e below T g T' { g with pc := g.pc + 3, stack := v.toList ++ rest }) ∨
    (∃ (q : Addr) (st₀ t T' : State) (L : List Loc) (E : String) (ce : Cell), st₀.heap = H ∧ Stand p l e R s m args below meth c T' (locs ++ L) (cells + mc) (slots + ms) ∧ (∀ z ∈ L, free z.base) ∧ T'.heap = t.heap ∧ T'.vm = t.vm ∧ XC E st₀ t ∧ t.heap[q]? = some ce ∧ ce.vm = .none ∧ s.vm.findClass E = some ce.cls ∧
      Steps p.tables e below (T.setTop g) ((T'.setTop { g with stack := rest }).pushFrame (.throwing q)))
def vx_X {S : Type} (px : S → Prop) (B : String → S → State → Prop) (A : Nat → Prop) : String → State → State → Prop := fun E st t => ∃ u : S, px u ∧ B E u t ∧ va_F A st t
section Runs
variable {p : Program} {l : Launch} {e : Env} {R : Room} {s : State} {m : MethodId} {args : Array Value} {below : List Frame} {meth : Method} {c : Code} {H : Heap} {locs : List Loc} {cells slots : Nat}
variable {y : MethodName} {bytes cc : ByteArray} {maxL nL mc ms n index : Nat} {ret : Option FieldType} {ws : List Cond} {rm : Room} {Pc : Array Value → State → Prop} {Qc : Array Value → State → Outcome → State → Prop} {XC : String → State → State → Prop} {free : Addr → Prop} {Ts : List Cond} {own C : String} {b : Addr} {As rest : List Value} {g : JFrame}
theorem vx_callBack (cb : CallB R s args own index y bytes maxL ret ws rm mc ms n) (hM : vx_Met l y ws rm Pc Qc XC mc ms free) (hbl : FrameBlind Pc) : vx_Back l R p e below s args y 3 8 (PreOf R mc ms Pc) (PostOf Qc mc ms free) (vx_Post XC mc ms free) := by
  obtain ⟨hrc, hrs, hfr, hlo, hws, hcw, -, hini, -⟩ := cb
  exact vx_back (bytes := bytes) (maxL := maxL) (ret := ret) hM hbl hrc hrs hfr hlo hws hcw (fun a' U hW => word_at hW (Or.inl (by first | rfl | simp [Cond.onTables, Cond.keeps, Cond.steady])) hini)
theorem vx_runV (S : CallFix p m c cc nL s args Ts own) (hM : vx_Met l y ws rm Pc Qc XC mc ms free) (cw : CallW R s args own C index y bytes maxL ret ws rm mc ms n) (hp : PreV s H C b Pc As)
    (hg : g.method = m) (hn : As.length = n) (hsize : g.locals.size = nL) (hstack : g.stack = As.reverse ++ .ref b :: rest) (hW : 2 * g.monitorRoom + (rest.map fun v => v.category).sum ≤ 8) (hdg : decode cc g.pc = .ok (.invokevirtual index, 3)) (hf : cells + mc ≤ R.cells ∧ slots + ms ≤ R.slots) :
    vx_Run p l e R s m args below meth c H locs cells slots mc ms g rest (Qc (Value.ref b :: As).toArray) XC free := by
  have hK : vx_Back l R p e below s args y 3 8 (PreOf R mc ms Pc) (PostOf Qc mc ms free) (vx_Post XC mc ms free) := vx_callBack cw.1 hM hp.1
  obtain ⟨⟨-, -, -, -, -, -, hcode, -, hy, hlen, hl⟩, hin, hse⟩ := cw
  obtain ⟨hx, hb, hml, ho, -⟩ := S
  obtain ⟨-, ⟨cellB, hcB, hoB, hclB⟩, hPc⟩ := hp
  intro T hT X
  rcases vx_callV X hx (C := C) (bytes := bytes) (maxL := maxL) (ret := ret) ho hl hin hse hcode hy hK (by rw [hT]; exact hcB) hoB hclB hg (hsize.trans hml.symm) (argsL := As) (rest := rest) (fun sig h => hn.trans (hlen sig h)) hstack hW (by rw [hb]; exact hdg)
    (fun vm₁ hW₁ => ⟨hf.1, hf.2, hPc (T.setVm vm₁) hT hW₁⟩) with ⟨v, vm₁, ⟨U', l2, c2, s2⟩, hW₁, X', ⟨g', mk, t, L, e1, e2, hq, h1, hL, h2, h3⟩, st⟩ | ⟨q, vm₁, ⟨U', l2, c2, s2⟩, hW₁, X', ⟨g', mk, t, L, E, ce, e1, e2, hq, hce, hcv, hcl, h1, hL, h2, h3⟩, st⟩
  · dsimp only [Pt.U, Pt.locs, Pt.cells, Pt.slots] at X' e1 e2 h1 h2 h3 st
    subst h1; subst h2; subst h3
    exact Or.inl ⟨v, (T.setVm vm₁).calling g' mk (Value.ref b :: As).toArray, t, U', L, hT, X', hL, e1, e2, hq, st⟩
  · dsimp only [Pt.U, Pt.locs, Pt.cells, Pt.slots] at X' e1 e2 h1 h2 h3 st hcl
    subst h1; subst h2; subst h3
    exact Or.inr ⟨q, (T.setVm vm₁).calling g' mk (Value.ref b :: As).toArray, t, U', L, E, ce, hT, X', hL, e1, e2, hq, hce, hcv, vx_cls hW₁ hcl, st⟩
theorem vx_runS (S : CallFix p m c cc nL s args Ts own) (hM : vx_Met l y ws rm Pc Qc XC mc ms free) (cw : CallB R s args own index y bytes maxL ret ws rm mc ms n ∧ (Cond.static y).before args s = true) (hp : PreS s H Pc As)
    (hg : g.method = m) (hn : As.length = n) (hsize : g.locals.size = nL) (hstack : g.stack = As.reverse ++ rest) (hW : 2 * g.monitorRoom + (rest.map fun v => v.category).sum ≤ 8) (hdg : decode cc g.pc = .ok (.invokestatic index, 3)) (hf : cells + mc ≤ R.cells ∧ slots + ms ≤ R.slots) :
    vx_Run p l e R s m args below meth c H locs cells slots mc ms g rest (Qc As.toArray) XC free := by
  have hK : vx_Back l R p e below s args y 3 8 (PreOf R mc ms Pc) (PostOf Qc mc ms free) (vx_Post XC mc ms free) := vx_callBack cw.1 hM hp.1
  obtain ⟨⟨-, -, -, -, -, -, hcode, hini, hy, hlen, hl⟩, hstt⟩ := cw
  obtain ⟨hx, hb, hml, ho, -⟩ := S
  intro T hT X
  rcases vx_callS X hx (bytes := bytes) (maxL := maxL) (ret := ret) ho hl hstt hini hcode hy hK hg (hsize.trans hml.symm) (argsL := As) (rest := rest) (fun sig h => hn.trans (hlen sig h)) hstack hW (by rw [hb]; exact hdg)
    (fun vm₁ hW₁ => ⟨hf.1, hf.2, hp.2 (T.setVm vm₁) hT hW₁⟩) with ⟨v, vm₁, ⟨U', l2, c2, s2⟩, hW₁, X', ⟨g', mk, t, L, e1, e2, hq, h1, hL, h2, h3⟩, st⟩ | ⟨q, vm₁, ⟨U', l2, c2, s2⟩, hW₁, X', ⟨g', mk, t, L, E, ce, e1, e2, hq, hce, hcv, hcl, h1, hL, h2, h3⟩, st⟩
  · dsimp only [Pt.U, Pt.locs, Pt.cells, Pt.slots] at X' e1 e2 h1 h2 h3 st
    subst h1; subst h2; subst h3
    exact Or.inl ⟨v, (T.setVm vm₁).calling g' mk As.toArray, t, U', L, hT, X', hL, e1, e2, hq, st⟩
  · dsimp only [Pt.U, Pt.locs, Pt.cells, Pt.slots] at X' e1 e2 h1 h2 h3 st hcl
    subst h1; subst h2; subst h3
    exact Or.inr ⟨q, (T.setVm vm₁).calling g' mk As.toArray, t, U', L, E, ce, hT, X', hL, e1, e2, hq, hce, hcv, vx_cls hW₁ hcl, st⟩
end Runs
section Rows
variable {p : Program} {l : Launch} {e : Env} {R : Room} {s : State} {m : MethodId} {args : Array Value} {below : List Frame} {meth : Method} {c : Code} {H : Heap} {locs : List Loc} {cells slots : Nat} {Q : State → Prop}
variable {mc ms : Nat} {free : Addr → Prop} {A0 A1 : Nat → Prop} {H0 : Heap} {a : Array Value} {pc : Nat} {ls : Array Slot} {st0 rest : List Value}
theorem vx_keep {st₀ t T' : State} {L : List Loc} (h0 : st₀.heap = H) (e1 : T'.heap = t.heap) (hS : va_S A0 H0 H locs) (hA : ∀ q, q < H.size → A1 q → A0 q) (hf : ∀ q, free q → A0 q) (hL : ∀ q ∈ L, free q.base) (hF : va_F A1 st₀ t) :
    H.size ≤ T'.heap.size ∧ (∀ q : Nat, q < H.size → ¬ A1 q → T'.heap[q]? = H[q]?) ∧ va_S A0 H0 T'.heap (locs ++ L) := by
  obtain ⟨hz, hk⟩ := hF
  rw [h0] at hz hk
  exact ⟨by rw [e1]; exact hz, fun q h1 h2 => by rw [e1]; exact hk q h1 h2,
    ⟨Nat.le_trans hS.1 (by rw [e1]; exact hz), fun q h1 h2 => by rw [e1, hk q (Nat.lt_of_lt_of_le h1 hS.1) (fun z => h2 (hA q (Nat.lt_of_lt_of_le h1 hS.1) z))]; exact hS.2.1 q h1 h2, fun q hq => by
      rcases List.mem_append.mp hq with h | h
      · exact hS.2.2 q h
      · exact hf _ (hL q h)⟩⟩
theorem vx_calli {S SX : Type} {post : Int32 → S → Prop} {px : SX → Prop} {B : S → State → Prop} {BX : String → SX → State → Prop} {AX : Nat → Prop} (hr : vx_Run p l e R s m args below meth c H locs cells slots mc ms (F0 m pc ls st0) rest (va_Qi post B A1 a) (vx_X px BX AX) free) (hS : va_S A0 H0 H locs) (hA : ∀ q, q < H.size → A1 q → A0 q) (hf : ∀ q, free q → A0 q) (hAX : ∀ q, q < H.size → AX q → A0 q)
    (kx : ∀ (E : String) (ce : Cell) (q9 : Addr) (u : SX) (t : State) (H1 : Heap) (locs1 : List Loc), t.heap = H1 → s.vm.Alike t.vm → px u → BX E u t → H.size ≤ H1.size → (∀ q : Nat, q < H.size → ¬ AX q → H1[q]? = H[q]?) → va_S A0 H0 H1 locs1 → H1[q9]? = some ce → ce.vm = .none → s.vm.findClass E = some ce.cls → vx_W p l e R s m args below meth c H1 locs1 (cells + mc) (slots + ms) Q (F0 m pc ls rest) q9)
    (kk : ∀ (r : Int32) (u : S) (t : State) (H1 : Heap) (locs1 : List Loc), t.heap = H1 → s.vm.Alike t.vm → post r u → B u t → H.size ≤ H1.size → (∀ q : Nat, q < H.size → ¬ A1 q → H1[q]? = H[q]?) → va_S A0 H0 H1 locs1 → W p l e R s m args below meth c H1 locs1 (cells + mc) (slots + ms) Q (F0 m (pc + 3) ls (.int r :: rest))) : W p l e R s m args below meth c H locs cells slots Q (F0 m pc ls st0) := by
  intro T hT X
  rcases hr T hT X with ⟨v, st₀, t, T', L, h0, X', hL, e1, e2, ⟨⟨r, u, hv, hp, hb⟩, hF⟩, st⟩ | ⟨q, st₀, t, T', L, E, ce, h0, X', hL, e1, e2, ⟨u, hp, hb, hF⟩, hce, hcv, hcl, st⟩
  · cases hv
    obtain ⟨k1, k2, k3⟩ := vx_keep h0 e1 hS hA hf hL hF
    obtain ⟨t2, a1, b1⟩ := kk r u t T'.heap (locs ++ L) e1.symm (by rw [← e2]; exact X'.warmed.alike) hp hb k1 k2 k3 T' rfl X'
    exact ⟨t2, st t2 a1, b1⟩
  · obtain ⟨k1, k2, k3⟩ := vx_keep h0 e1 hS hAX hf hL hF
    obtain ⟨t2, a1, b1⟩ := kx E ce q u t T'.heap (locs ++ L) e1.symm (by rw [← e2]; exact X'.warmed.alike) hp hb k1 k2 k3 (by rw [e1]; exact hce) hcv hcl T' rfl X'
    exact ⟨t2, st.trans a1, b1⟩
theorem vx_calll {S SX : Type} {post : Int64 → S → Prop} {px : SX → Prop} {B : S → State → Prop} {BX : String → SX → State → Prop} {AX : Nat → Prop} (hr : vx_Run p l e R s m args below meth c H locs cells slots mc ms (F0 m pc ls st0) rest (va_Ql post B A1 a) (vx_X px BX AX) free) (hS : va_S A0 H0 H locs) (hA : ∀ q, q < H.size → A1 q → A0 q) (hf : ∀ q, free q → A0 q) (hAX : ∀ q, q < H.size → AX q → A0 q)
    (kx : ∀ (E : String) (ce : Cell) (q9 : Addr) (u : SX) (t : State) (H1 : Heap) (locs1 : List Loc), t.heap = H1 → s.vm.Alike t.vm → px u → BX E u t → H.size ≤ H1.size → (∀ q : Nat, q < H.size → ¬ AX q → H1[q]? = H[q]?) → va_S A0 H0 H1 locs1 → H1[q9]? = some ce → ce.vm = .none → s.vm.findClass E = some ce.cls → vx_W p l e R s m args below meth c H1 locs1 (cells + mc) (slots + ms) Q (F0 m pc ls rest) q9)
    (kk : ∀ (r : Int64) (u : S) (t : State) (H1 : Heap) (locs1 : List Loc), t.heap = H1 → s.vm.Alike t.vm → post r u → B u t → H.size ≤ H1.size → (∀ q : Nat, q < H.size → ¬ A1 q → H1[q]? = H[q]?) → va_S A0 H0 H1 locs1 → W p l e R s m args below meth c H1 locs1 (cells + mc) (slots + ms) Q (F0 m (pc + 3) ls (.long r :: rest))) : W p l e R s m args below meth c H locs cells slots Q (F0 m pc ls st0) := by
  intro T hT X
  rcases hr T hT X with ⟨v, st₀, t, T', L, h0, X', hL, e1, e2, ⟨⟨r, u, hv, hp, hb⟩, hF⟩, st⟩ | ⟨q, st₀, t, T', L, E, ce, h0, X', hL, e1, e2, ⟨u, hp, hb, hF⟩, hce, hcv, hcl, st⟩
  · cases hv
    obtain ⟨k1, k2, k3⟩ := vx_keep h0 e1 hS hA hf hL hF
    obtain ⟨t2, a1, b1⟩ := kk r u t T'.heap (locs ++ L) e1.symm (by rw [← e2]; exact X'.warmed.alike) hp hb k1 k2 k3 T' rfl X'
    exact ⟨t2, st t2 a1, b1⟩
  · obtain ⟨k1, k2, k3⟩ := vx_keep h0 e1 hS hAX hf hL hF
    obtain ⟨t2, a1, b1⟩ := kx E ce q u t T'.heap (locs ++ L) e1.symm (by rw [← e2]; exact X'.warmed.alike) hp hb k1 k2 k3 (by rw [e1]; exact hce) hcv hcl T' rfl X'
    exact ⟨t2, st.trans a1, b1⟩
theorem vx_callf {S SX : Type} {post : UInt32 → S → Prop} {px : SX → Prop} {B : S → State → Prop} {BX : String → SX → State → Prop} {AX : Nat → Prop} (hr : vx_Run p l e R s m args below meth c H locs cells slots mc ms (F0 m pc ls st0) rest (va_Qf post B A1 a) (vx_X px BX AX) free) (hS : va_S A0 H0 H locs) (hA : ∀ q, q < H.size → A1 q → A0 q) (hf : ∀ q, free q → A0 q) (hAX : ∀ q, q < H.size → AX q → A0 q)
    (kx : ∀ (E : String) (ce : Cell) (q9 : Addr) (u : SX) (t : State) (H1 : Heap) (locs1 : List Loc), t.heap = H1 → s.vm.Alike t.vm → px u → BX E u t → H.size ≤ H1.size → (∀ q : Nat, q < H.size → ¬ AX q → H1[q]? = H[q]?) → va_S A0 H0 H1 locs1 → H1[q9]? = some ce → ce.vm = .none → s.vm.findClass E = some ce.cls → vx_W p l e R s m args below meth c H1 locs1 (cells + mc) (slots + ms) Q (F0 m pc ls rest) q9)
    (kk : ∀ (r : UInt32) (u : S) (t : State) (H1 : Heap) (locs1 : List Loc), t.heap = H1 → s.vm.Alike t.vm → post r u → B u t → H.size ≤ H1.size → (∀ q : Nat, q < H.size → ¬ A1 q → H1[q]? = H[q]?) → va_S A0 H0 H1 locs1 → W p l e R s m args below meth c H1 locs1 (cells + mc) (slots + ms) Q (F0 m (pc + 3) ls (.float r :: rest))) : W p l e R s m args below meth c H locs cells slots Q (F0 m pc ls st0) := by
  intro T hT X
  rcases hr T hT X with ⟨v, st₀, t, T', L, h0, X', hL, e1, e2, ⟨⟨r, u, hv, hp, hb⟩, hF⟩, st⟩ | ⟨q, st₀, t, T', L, E, ce, h0, X', hL, e1, e2, ⟨u, hp, hb, hF⟩, hce, hcv, hcl, st⟩
  · cases hv
    obtain ⟨k1, k2, k3⟩ := vx_keep h0 e1 hS hA hf hL hF
    obtain ⟨t2, a1, b1⟩ := kk r u t T'.heap (locs ++ L) e1.symm (by rw [← e2]; exact X'.warmed.alike) hp hb k1 k2 k3 T' rfl X'
    exact ⟨t2, st t2 a1, b1⟩
  · obtain ⟨k1, k2, k3⟩ := vx_keep h0 e1 hS hAX hf hL hF
    obtain ⟨t2, a1, b1⟩ := kx E ce q u t T'.heap (locs ++ L) e1.symm (by rw [← e2]; exact X'.warmed.alike) hp hb k1 k2 k3 (by rw [e1]; exact hce) hcv hcl T' rfl X'
    exact ⟨t2, st.trans a1, b1⟩
theorem vx_calld {S SX : Type} {post : UInt64 → S → Prop} {px : SX → Prop} {B : S → State → Prop} {BX : String → SX → State → Prop} {AX : Nat → Prop} (hr : vx_Run p l e R s m args below meth c H locs cells slots mc ms (F0 m pc ls st0) rest (va_Qd post B A1 a) (vx_X px BX AX) free) (hS : va_S A0 H0 H locs) (hA : ∀ q, q < H.size → A1 q → A0 q) (hf : ∀ q, free q → A0 q) (hAX : ∀ q, q < H.size → AX q → A0 q)
    (kx : ∀ (E : String) (ce : Cell) (q9 : Addr) (u : SX) (t : State) (H1 : Heap) (locs1 : List Loc), t.heap = H1 → s.vm.Alike t.vm → px u → BX E u t → H.size ≤ H1.size → (∀ q : Nat, q < H.size → ¬ AX q → H1[q]? = H[q]?) → va_S A0 H0 H1 locs1 → H1[q9]? = some ce → ce.vm = .none → s.vm.findClass E = some ce.cls → vx_W p l e R s m args below meth c H1 locs1 (cells + mc) (slots + ms) Q (F0 m pc ls rest) q9)
    (kk : ∀ (r : UInt64) (u : S) (t : State) (H1 : Heap) (locs1 : List Loc), t.heap = H1 → s.vm.Alike t.vm → post r u → B u t → H.size ≤ H1.size → (∀ q : Nat, q < H.size → ¬ A1 q → H1[q]? = H[q]?) → va_S A0 H0 H1 locs1 → W p l e R s m args below meth c H1 locs1 (cells + mc) (slots + ms) Q (F0 m (pc + 3) ls (.double r :: rest))) : W p l e R s m args below meth c H locs cells slots Q (F0 m pc ls st0) := by
  intro T hT X
  rcases hr T hT X with ⟨v, st₀, t, T', L, h0, X', hL, e1, e2, ⟨⟨r, u, hv, hp, hb⟩, hF⟩, st⟩ | ⟨q, st₀, t, T', L, E, ce, h0, X', hL, e1, e2, ⟨u, hp, hb, hF⟩, hce, hcv, hcl, st⟩
  · cases hv
    obtain ⟨k1, k2, k3⟩ := vx_keep h0 e1 hS hA hf hL hF
    obtain ⟨t2, a1, b1⟩ := kk r u t T'.heap (locs ++ L) e1.symm (by rw [← e2]; exact X'.warmed.alike) hp hb k1 k2 k3 T' rfl X'
    exact ⟨t2, st t2 a1, b1⟩
  · obtain ⟨k1, k2, k3⟩ := vx_keep h0 e1 hS hAX hf hL hF
    obtain ⟨t2, a1, b1⟩ := kx E ce q u t T'.heap (locs ++ L) e1.symm (by rw [← e2]; exact X'.warmed.alike) hp hb k1 k2 k3 (by rw [e1]; exact hce) hcv hcl T' rfl X'
    exact ⟨t2, st.trans a1, b1⟩
theorem vx_callv {S SX : Type} {post : S → Prop} {px : SX → Prop} {B : S → State → Prop} {BX : String → SX → State → Prop} {AX : Nat → Prop} (hr : vx_Run p l e R s m args below meth c H locs cells slots mc ms (F0 m pc ls st0) rest (va_Qv post B A1 a) (vx_X px BX AX) free) (hS : va_S A0 H0 H locs) (hA : ∀ q, q < H.size → A1 q → A0 q) (hf : ∀ q, free q → A0 q) (hAX : ∀ q, q < H.size → AX q → A0 q)
    (kx : ∀ (E : String) (ce : Cell) (q9 : Addr) (u : SX) (t : State) (H1 : Heap) (locs1 : List Loc), t.heap = H1 → s.vm.Alike t.vm → px u → BX E u t → H.size ≤ H1.size → (∀ q : Nat, q < H.size → ¬ AX q → H1[q]? = H[q]?) → va_S A0 H0 H1 locs1 → H1[q9]? = some ce → ce.vm = .none → s.vm.findClass E = some ce.cls → vx_W p l e R s m args below meth c H1 locs1 (cells + mc) (slots + ms) Q (F0 m pc ls rest) q9)
    (kk : ∀ (u : S) (t : State) (H1 : Heap) (locs1 : List Loc), t.heap = H1 → s.vm.Alike t.vm → post u → B u t → H.size ≤ H1.size → (∀ q : Nat, q < H.size → ¬ A1 q → H1[q]? = H[q]?) → va_S A0 H0 H1 locs1 → W p l e R s m args below meth c H1 locs1 (cells + mc) (slots + ms) Q (F0 m (pc + 3) ls (rest))) : W p l e R s m args below meth c H locs cells slots Q (F0 m pc ls st0) := by
  intro T hT X
  rcases hr T hT X with ⟨v, st₀, t, T', L, h0, X', hL, e1, e2, ⟨⟨u, hv, hp, hb⟩, hF⟩, st⟩ | ⟨q, st₀, t, T', L, E, ce, h0, X', hL, e1, e2, ⟨u, hp, hb, hF⟩, hce, hcv, hcl, st⟩
  · cases hv
    obtain ⟨k1, k2, k3⟩ := vx_keep h0 e1 hS hA hf hL hF
    obtain ⟨t2, a1, b1⟩ := kk u t T'.heap (locs ++ L) e1.symm (by rw [← e2]; exact X'.warmed.alike) hp hb k1 k2 k3 T' rfl X'
    exact ⟨t2, st t2 a1, b1⟩
  · obtain ⟨k1, k2, k3⟩ := vx_keep h0 e1 hS hAX hf hL hF
    obtain ⟨t2, a1, b1⟩ := kx E ce q u t T'.heap (locs ++ L) e1.symm (by rw [← e2]; exact X'.warmed.alike) hp hb k1 k2 k3 (by rw [e1]; exact hce) hcv hcl T' rfl X'
    exact ⟨t2, st.trans a1, b1⟩
/-- caught by the row x of this method's table; the rows ahead don't take it -/
theorem vx_catch {own name : String} {E : String} {ce : Cell} {q : Addr} (hown : s.vm.findClass own = some m.cls) (pre : List ExceptionTableEntry) (x : ExceptionTableEntry) (suf : List ExceptionTableEntry) (hsplit : c.exceptionTable.toList = pre ++ x :: suf)
    (hpass : ∀ z ∈ pre, covers z pc = false ∨ (z.catchType ≠ 0 ∧ ∃ nm : String, (Cond.classLink own z.catchType nm).before args s = true ∧ va_Nc E nm s)) (hx : covers x pc = true) (h0 : x.catchType ≠ 0)
    (hlink : (Cond.classLink own x.catchType name).before args s = true) (hcast : (Cond.castable E name).before args s = true) (hcell : H[q]? = some ce) (hv : ce.vm = .none) (hcl : s.vm.findClass E = some ce.cls)
    (kk : W p l e R s m args below meth c H locs cells slots Q (F0 m x.handlerPc ls [.ref q])) : vx_W p l e R s m args below meth c H locs cells slots Q (F0 m pc ls rest) q := by
  intro T hT X
  have hpl : e.platform.magicAccessors = ({} : Platform).magicAccessors := by rw [X.admits.platform]
  obtain ⟨c3, c4, hc3, hc4, hasg⟩ := Cond.castable_spec hcast
  cases Option.some.inj (hc3.symm.trans hcl)
  obtain ⟨c5, hc5, hcl5⟩ := Cond.classLink_spec hown hlink e.platform hpl
  cases Option.some.inj (hc4.symm.trans hc5)
  obtain ⟨vm', X', st⟩ := X.thenCaughtThrough q (g := F0 m pc ls rest) rfl (Steps.refl _) (by rw [hT]; exact hcell) (by rw [hv]; rfl) (by obtain ⟨k9, h9, -⟩ := Vm.findClass_spec hcl; exact ⟨k9, h9⟩) pre x suf hsplit
    (fun z hz => by
      rcases hpass z hz with h | ⟨hz0, nm, hl1, hn1⟩
      · exact Or.inl h
      · obtain ⟨c6, hc6, hcl6⟩ := Cond.classLink_spec hown hl1 e.platform hpl
        obtain ⟨a8, b8, h1, h2, h3⟩ := hn1
        cases Option.some.inj (h1.symm.trans hcl)
        cases Option.some.inj (h2.symm.trans hc6)
        exact Or.inr ⟨hz0, _, hcl6, h3⟩) hx (Or.inr ⟨h0, c4, hcl5, hasg⟩)
  obtain ⟨t, a1, b1⟩ := kk (T.setVm vm') hT X'
  exact ⟨t, st.trans a1, b1⟩
end Rows
section Ends
variable {p : Program} {l : Launch} {e : Env} {R : Room} {s : State} {m : MethodId} {args : Array Value} {below : List Frame} {meth : Method} {c : Code} {H : Heap} {locs : List Loc} {cells slots : Nat} {Q : State → Prop}
variable {mc ms : Nat} {free : Addr → Prop} {A0 A1 : Nat → Prop} {H0 : Heap} {a : Array Value} {ls : Array Slot} {st0 rest : List Value}
variable {Qc : Array Value → State → Outcome → State → Prop} {XC : String → State → State → Prop}
/-- what a body that may throw owes at its end -/
def vx_MQ (below : List Frame) (Qc : Array Value → State → Outcome → State → Prop) (XC : String → State → State → Prop) (a : Array Value) (s : State) (mc ms : Nat) (free : Addr → Prop) : State → Prop := fun t =>
  ∃ o, t.status = .running ∧ Ended t below o ∧ vx_Q Qc XC mc ms free a s o t
theorem vx_ret {g : JFrame} {mc ms : Nat} (k : W p l e R s m args below meth c H locs cells slots (MQ below Qc args s mc ms free) g) : W p l e R s m args below meth c H locs cells slots (vx_MQ below Qc XC args s mc ms free) g := by
  intro T hT X
  obtain ⟨t, a1, o, b1, b2, b3, b4⟩ := k T hT X
  exact ⟨t, a1, o, b1, b2, Or.inl ⟨b3, b4⟩⟩
/-- not caught here: it goes on to the caller -/
theorem vx_widen {g : JFrame} {q : Addr} {k n : Nat} (h1 : cells ≤ k) (h2 : slots ≤ n) (kk : vx_W p l e R s m args below meth c H locs k n Q g q) : vx_W p l e R s m args below meth c H locs cells slots Q g q := fun T hT X => kk T hT (stand_widen X h1 h2)
theorem vx_out {pc : Nat} {E : String} {ce : Cell} {q : Addr} {mc ms : Nat} (hout : ∀ x ∈ c.exceptionTable.toList, covers x pc = false) (hlocks : meth.locks = false) (hcell : H[q]? = some ce) (hv : ce.vm = .none) (hcl : s.vm.findClass E = some ce.cls)
    (hx : ∀ t : State, t.heap = H → s.vm.Alike t.vm → XC E s t) (hf : ∀ z ∈ locs, free z.base) (hc : cells ≤ mc) (hs : slots ≤ ms) :
    vx_W p l e R s m args below meth c H locs cells slots (vx_MQ below Qc XC args s mc ms free) (F0 m pc ls rest) q := by
  intro T hT X
  obtain ⟨st1, hrun, hend, hW, hsm⟩ := X.leaveThrown q (g := F0 m pc ls rest) rfl rfl rfl hout hlocks
  have hcell9 : (T.setFrames (.throwing q :: below)).heap[q]? = some ce := by
    show T.heap[q]? = some ce
    rw [hT]; exact hcell
  exact ⟨_, st1, .threw q, hrun, hend, Or.inr ⟨q, rfl, E, ce, locs, hx _ hT hW.alike, hcell9, hv, hcl, hW, hsm.mono hc hs, hf⟩⟩
theorem vx_frame {U : State} {k n : Nat} (h : s.sameButNew ({ U with vm := s.vm } : State) locs k n) : s.heap.size ≤ U.heap.size ∧ ∀ q : Nat, q < s.heap.size → (∀ z ∈ locs, z.base ≠ q) → U.heap[q]? = s.heap[q]? := by
  obtain ⟨-, h2, -, -, -, h6⟩ := h
  refine ⟨h2, fun q hq hz => ?_⟩
  obtain ⟨c9, e1, e2, e3, e4⟩ := h6 q _ (Array.getElem?_eq_getElem hq)
  have hs : c9.slots = (s.heap[q]).slots := Array.ext_getElem? fun i => e4 i fun hm => hz _ hm rfl
  have h9 : c9 = s.heap[q] := by
    rw [hs] at e2
    exact e2
  have e5 : U.heap[q]? = some c9 := e1
  rw [e5, h9, Array.getElem?_eq_getElem hq]
/-- the words of a throw but the four that speak of the heap -/
def vx_no (w : Cond) : Bool := decide (w ≠ .isRef (.static Bundle.tN "UNASSIGNED_STACK" Bundle.steD)) && decide (w ≠ .isRef (.static Bundle.tN "SUPPRESSED_SENTINEL" Bundle.listD)) && decide (w ≠ .laysStatic Bundle.tN "UNASSIGNED_STACK" Bundle.steD) && decide (w ≠ .laysStatic Bundle.tN "SUPPRESSED_SENTINEL" Bundle.listD)
def vx_at0 (own : String) (ic : Nat) (X : String) (names : List String) : List Cond := (Bundle.ownAtoms0 own ic X names).filter vx_no
def vx_atS (own : String) (ic : Nat) (X : String) (names : List String) : List Cond := (Bundle.ownAtoms own ic X names).filter vx_no
/-- a word that the tables alone decide, or a good one -/
def vx_ot (w : Cond) : Bool := w.onTables || goodWord w
theorem vx_ot_at {args a' : Array Value} {s U : State} {w : Cond} (hW : s.WarmedH U.vm) (hvm : s.vm = U.vm) (hg : vx_ot w = true) (h : w.before args s = true) : w.before a' U = true := by
  simp only [vx_ot, Bool.or_eq_true] at hg
  rcases hg with hg | hg
  · exact va_tabs hg hvm h
  · exact word_at hW (good_of_word hg) h
/-- a list's words: the good ones out of the method's own list, the others by premises of their own -/
theorem vx_hat {args : Array Value} {s : State} {L B : List Cond} (h1 : ∀ w ∈ L.filter goodWord, w.before args s = true) (h2 : ∀ w ∈ L.filter (fun w => !goodWord w), w ∈ B) (h3 : ∀ w ∈ B, w.before args s = true) : ∀ w ∈ L, w.before args s = true := by
  intro w hw
  by_cases g : goodWord w = true
  · exact h1 w (List.mem_filter.mpr ⟨hw, g⟩)
  · refine h3 w (h2 w (List.mem_filter.mpr ⟨hw, ?_⟩))
    show (!goodWord w) = true
    cases hgw : goodWord w
    · rfl
    · exact absurd hgw g
theorem vx_c {args : Array Value} {s : State} {w : Cond} {B : List Cond} (h : w.before args s = true) (t : ∀ w ∈ B, w.before args s = true) : ∀ w' ∈ w :: B, w'.before args s = true := fun w' h' => (List.mem_cons.mp h').elim (fun e => by rw [e]; exact h) (t w')
theorem vx_n {args : Array Value} {s : State} : ∀ w ∈ ([] : List Cond), w.before args s = true := fun _ h => nomatch h
theorem vx_own {args : Array Value} {s : State} {L : List Cond} (h1 : ∀ w ∈ L.filter vx_no, w.before args s = true)
    (hU : (Cond.isRef (.static Bundle.tN "UNASSIGNED_STACK" Bundle.steD)).before args s = true) (hN : (Cond.isRef (.static Bundle.tN "SUPPRESSED_SENTINEL" Bundle.listD)).before args s = true)
    (lU : (Cond.laysStatic Bundle.tN "UNASSIGNED_STACK" Bundle.steD).before args s = true) (lN : (Cond.laysStatic Bundle.tN "SUPPRESSED_SENTINEL" Bundle.listD).before args s = true) : ∀ w ∈ L, w.before args s = true := by
  intro w hw
  by_cases e1 : w = .isRef (.static Bundle.tN "UNASSIGNED_STACK" Bundle.steD)
  · rw [e1]; exact hU
  · by_cases e2 : w = .isRef (.static Bundle.tN "SUPPRESSED_SENTINEL" Bundle.listD)
    · rw [e2]; exact hN
    · by_cases e3 : w = .laysStatic Bundle.tN "UNASSIGNED_STACK" Bundle.steD
      · rw [e3]; exact lU
      · by_cases e4 : w = .laysStatic Bundle.tN "SUPPRESSED_SENTINEL" Bundle.listD
        · rw [e4]; exact lN
        · exact h1 w (List.mem_filter.mpr ⟨hw, by unfold vx_no; rw [decide_eq_true e1, decide_eq_true e2, decide_eq_true e3, decide_eq_true e4]; rfl⟩)
/-- where a static field lies, its class's statics cell in H -/
def vx_L (C n d : String) (A : Nat → Prop) (U : State) (H : Heap) : Prop := ∃ (c : ClassId) (k : Class) (i : Nat) (f : Field) (a : Nat) (cell : Cell), U.vm.findClass C = some c ∧ U.fieldFound? C n d = some (c, k, i, f) ∧ f.isStatic = true ∧ k.statics = some a ∧ H[a]? = some cell ∧ cell.vm.isStatics = true ∧ cell.cls = c ∧ f.slot < cell.slots.size ∧ k.staticTypes[f.slot]? = some f.type ∧ ¬ A a
theorem vx_L.moved {C n d : String} {A : Nat → Prop} {u U : State} {H : Heap} (hvm : u.vm.Alike U.vm) (h : vx_L C n d A u H) : vx_L C n d A U H := by
  obtain ⟨c, k, i, f, a, cell, h1, h2, h3, h4, h5, h6, h7, h8, h9, h10⟩ := h
  obtain ⟨k', hi', he⟩ := State.fieldFound?_setVm hvm h2
  exact ⟨c, k', i, f, a, cell, by rw [hvm.findClass]; exact h1, hi', h3, by rw [he]; exact h4, h5, h6, h7, h8, by rw [he]; exact h9, h10⟩
theorem vx_L.kept {C n d : String} {A : Nat → Prop} {U : State} {H H1 : Heap} (h : vx_L C n d A U H) (hq : ∀ a : Nat, a < H.size → ¬ A a → H1[a]? = H[a]?) : vx_L C n d A U H1 := by
  obtain ⟨c, k, i, f, a, cell, h1, h2, h3, h4, h5, h6, h7, h8, h9, h10⟩ := h
  exact ⟨c, k, i, f, a, cell, h1, h2, h3, h4, by rw [hq a (Array.getElem?_eq_some_iff.mp h5).1 h10]; exact h5, h6, h7, h8, h9, h10⟩
theorem vx_L.narrow {C n d : String} {A B : Nat → Prop} {U : State} {H : Heap} (h : vx_L C n d A U H) (hAB : ∀ q, B q → A q) : vx_L C n d B U H := by
  obtain ⟨c, k, i, f, a, cell, h1, h2, h3, h4, h5, h6, h7, h8, h9, h10⟩ := h
  exact ⟨c, k, i, f, a, cell, h1, h2, h3, h4, h5, h6, h7, h8, h9, fun z => h10 (hAB _ z)⟩
theorem vx_L.word {C n d : String} {A : Nat → Prop} {s : State} {args : Array Value} (h : vx_L C n d A s s.heap) : (Cond.laysStatic C n d).before args s = true := by
  obtain ⟨c, k, i, f, a, cell, h1, h2, h3, h4, h5, h6, h7, h8, h9, -⟩ := h
  show (Cond.laysStatic C n d).holds args s none s [] = true
  exact Cond.laysStatic_of h1 h2 h3 h4 h5 h6 h7 h8 h9
/-- .. and what it holds: null or some reference -/
def vx_Zq (C n d : String) (A : Nat → Prop) (U : State) (H : Heap) : Prop := va_Zq C n d A U H ∧ vx_L C n d A U H
theorem vx_Zq.moved {C n d : String} {A : Nat → Prop} {u U : State} {H : Heap} (hvm : u.vm.Alike U.vm) (h : vx_Zq C n d A u H) : vx_Zq C n d A U H := ⟨va_Zq.moved hvm h.1, vx_L.moved hvm h.2⟩
theorem vx_Zq.kept {C n d : String} {A : Nat → Prop} {U : State} {H H1 : Heap} (h : vx_Zq C n d A U H) (hq : ∀ a : Nat, a < H.size → ¬ A a → H1[a]? = H[a]?) : vx_Zq C n d A U H1 := ⟨va_Zq.kept h.1 hq, vx_L.kept h.2 hq⟩
theorem vx_Zq.narrow {C n d : String} {A B : Nat → Prop} {U : State} {H : Heap} (h : vx_Zq C n d A U H) (hAB : ∀ q, B q → A q) : vx_Zq C n d B U H := ⟨va_Zq.narrow h.1 hAB, vx_L.narrow h.2 hAB⟩
theorem vx_Zqof {args : Array Value} {s : State} {C n d : String} {A : Nat → Prop} (hl : (Cond.laysStatic C n d).before args s = true) (hini : (Cond.initialized C).before args s = true) (h : (Cond.isRef (.static C n d)).before args s = true) (hA : ∀ a : Nat, a < s.heap.size → ¬ A a) : vx_Zq C n d A s s.heap := by
  refine ⟨va_Zqof hl hini h hA, ?_⟩
  obtain ⟨c, k, i, f, a, cell, h1, h2, h3, h4, h5, h6, h7, h8, h9⟩ := Cond.laysStatic_spec hl
  exact ⟨c, k, i, f, a, cell, h1, h2, h3, h4, h5, h6, h7, h8, h9, hA a (Array.getElem?_eq_some_iff.mp h5).1⟩
theorem vx_isRef {C n d : String} {v : Value} {A : Nat → Prop} {s : State} {args : Array Value} (h : va_Z C n d v A s s.heap) (hv : v.isRef = true) : (Cond.isRef (.static C n d)).before args s = true := by
  obtain ⟨cf, kf, fi, f, a, cell, h1, h2, h3, h4, h5, h6, h7, -⟩ := h
  have he : (Term.static C n d).eval args s none [] s = some v := by
    simp [Term.eval, State.fieldNamed?, h1, h2, h4, h5, h6, h7]
  simp only [Cond.before, Cond.holds, Cond.value, he]
  cases v <;> simp_all [Value.isRef]
theorem vx_isRefq {C n d : String} {A : Nat → Prop} {s : State} {args : Array Value} (h : va_Zq C n d A s s.heap) : (Cond.isRef (.static C n d)).before args s = true := by
  rcases h with h | ⟨t, h⟩
  · exact vx_isRef h rfl
  · exact vx_isRef h rfl
/-- the same frame, seen from here: as if the method were called anew in this heap -/
theorem vx_rebase {T : State} (X : Stand p l e R s m args below meth c T locs cells slots) {R' : Room} (hf : R'.frames ≤ R.frames) (hl : R'.locals ≤ R.locals) (hc : cells + R'.cells ≤ R.cells) (hs : slots + R'.slots ≤ R.slots) :
    Stand p l e R' ((T.setVm s.vm).setFrames (.invoking m args :: below)) m args below meth c T [] 0 0 := by
  have htop : (T.setVm s.vm).topJava?.isSome := X.here.top
  have hF : ((T.setVm s.vm).setFrames (.invoking m args :: below)).frames = .invoking m args :: below := State.frames_setFrames _ (State.cur_lt_of_top htop)
  obtain ⟨g₀, hg0⟩ := Option.isSome_iff_exists.mp htop
  obtain ⟨r, hr⟩ := State.topJava?_eq_some.mp hg0
  have hl9 : e.platform.stackLimits (T.setVm s.vm).me = e.platform.stackLimits s.me := X.limits
  have hb9 : (T.setVm s.vm).me.stackBytes = s.me.stackBytes := X.bytes
  refine ⟨X.admits, X.cas, X.clock, hF, ?_, X.hears, X.method, X.code, X.here, X.tail, X.warmed, ?_, ?_, ?_⟩
  · have h := X.room
    have hU : ((T.setVm s.vm).setFrames (.invoking m args :: below)).localsInUse = s.localsInUse := by
      rw [State.localsInUse_invoking hF (meth := meth) (c := c) X.method X.code, State.localsInUse_invoking X.frames X.method X.code]
    simp only [State.hasRoom, Bool.and_eq_true, decide_eq_true_eq] at h ⊢
    obtain ⟨⟨⟨⟨h1, h2, h3, h4, h5, h6⟩, h7⟩, h8⟩, h9⟩ := h
    rw [X.frames, List.length_cons] at h2 h3
    have q1 := X.heapSize
    have q2 := X.used
    simp only [hF, hU, List.length_cons, State.stackLimits_setFrames, State.stackBytes_setFrames, hl9, hb9]
    refine ⟨⟨⟨⟨by omega, by omega, by omega, by omega, by omega, h6⟩, ?_⟩, ?_⟩, X.book⟩
    · show T.heap.size + R'.cells ≤ e.platform.maxCells
      omega
    · show T.slotsUsed + R'.slots ≤ e.platform.maxSlots
      omega
  · rw [State.stackLimits_setFrames]; rfl
  · rw [State.stackBytes_setFrames]; rfl
  · refine ⟨?_, Nat.le_refl _, Nat.le_refl _, ?_, ?_, fun a c9 h9 => ⟨c9, h9, rfl, rfl, fun _ _ => rfl⟩⟩
    · obtain ⟨t, ht, -⟩ := State.frames_cons hr
      show T.setVm s.vm = { ((T.setVm s.vm).setFrames (.invoking m args :: below)).setFrames (T.setVm s.vm).frames with heap := T.heap, slotsUsed := T.slotsUsed }
      rw [State.setFrames_setFrames, State.setFrames_self ht]
      rfl
    · show T.slotsUsed = T.slotsUsed + ((T.heap.toList.drop T.heap.size).map (·.slots.size)).sum
      rw [List.drop_eq_nil_of_le (Nat.le_of_eq Array.length_toList)]
      rfl
    · show ((T.heap.toList.drop T.heap.size).map (·.slots.size)).sum ≤ 0
      rw [List.drop_eq_nil_of_le (Nat.le_of_eq Array.length_toList)]
      exact Nat.le_refl _
/-- 'throw new E()': new; dup; invokespecial; athrow -/
theorem vx_throw0 {cc : ByteArray} {pc : Nat} (hexec : p.tables.exec = Jvm.exec) (hb : c.code = cc) (hl : l.stackTraces = false) {own cls : String} {names : List String} {ik ic mc ms : Nat} {A : Nat → Prop}
    (hown : s.vm.findClass own = some m.cls) (hcls : Bundle.fit cls = true) (hnames : ∀ n ∈ names, Bundle.fit n = true)
    (hk : (Cond.classLink own ik cls).before args s = true) (hini : (Cond.initialized cls).before args s = true) (hat : ∀ w ∈ vx_at0 own ic cls names, w.before args s = true)
    (hgood : ∀ w ∈ Cond.classLink own ik cls :: Cond.initialized cls :: vx_at0 own ic cls names, vx_ot w = true)
    (hU : vx_Zq Bundle.tN "UNASSIGNED_STACK" Bundle.steD A s s.heap) (hN : vx_Zq Bundle.tN "SUPPRESSED_SENTINEL" Bundle.listD A s s.heap) (hS : va_S A s.heap H locs) (hsize : ls.size = c.maxLocals)
    (d0 : decode cc pc = .ok (.new ik, 3)) (d3 : decode cc (pc + 3) = .ok (.dup, 1)) (d4 : decode cc (pc + 4) = .ok (.invokespecial ic, 3)) (d7 : decode cc (pc + 7) = .ok (.athrow, 1))
    (hout : ∀ x ∈ c.exceptionTable.toList, covers x (pc + 7) = false)
    (hRframes : names.length + 3 < R.frames) (hRlocals : (rest.map fun v => v.category).sum + (13 * (names.length + 1) + 42) ≤ R.locals) (hRcells : cells + 1 ≤ R.cells) (hRslots : slots + 6 ≤ R.slots) (hlocks : meth.locks = false)
    (hx : ∀ t : State, s.vm.Alike t.vm → H.size ≤ t.heap.size → (∀ q : Nat, q < H.size → t.heap[q]? = H[q]?) → XC cls s t)
    (hf : ∀ z ∈ locs, free z.base) (hc : cells + 1 ≤ mc) (hs : slots + 6 ≤ ms) :
    W p l e R s m args below meth c H locs cells slots (vx_MQ below Qc XC args s mc ms free) (F0 m pc ls rest) := by
  intro T hT X
  have htr : e.platform.stackTraces = false := (show e.platform.stackTraces = l.stackTraces by rw [X.admits.platform]).trans hl
  have Y := vx_rebase X (R' := { frames := R.frames, locals := R.locals, cells := 1, slots := 6 }) (Nat.le_refl _) (Nat.le_refl _) hRcells hRslots
  obtain ⟨s', hA⟩ : ∃ z, z = (T.setVm s.vm).setFrames (.invoking m args :: below) := ⟨_, rfl⟩
  rw [← hA] at Y
  have hvm : s'.vm = s.vm := by rw [hA]; rfl
  have hhp : s'.heap = H := by rw [hA]; exact hT
  have hW0 : s.WarmedH s'.vm := by rw [hvm]; exact State.WarmedH.refl s
  have hat' : ∀ w ∈ vx_at0 own ic cls names, w.before args s' = true := fun w hw => vx_ot_at hW0 hvm.symm (hgood w (List.mem_cons_of_mem _ (List.mem_cons_of_mem _ hw))) (hat w hw)
  have hk' : (Cond.classLink own ik cls).before args s' = true := vx_ot_at hW0 hvm.symm (hgood _ List.mem_cons_self) hk
  have hini' : (Cond.initialized cls).before args s' = true := vx_ot_at hW0 hvm.symm (hgood _ (List.mem_cons_of_mem _ List.mem_cons_self)) hini
  have hU' : vx_Zq Bundle.tN "UNASSIGNED_STACK" Bundle.steD A s' s'.heap := by rw [hhp]; exact vx_Zq.moved hW0.alike (hU.kept hS.2.1)
  have hN' : vx_Zq Bundle.tN "SUPPRESSED_SENTINEL" Bundle.listD A s' s'.heap := by rw [hhp]; exact vx_Zq.moved hW0.alike (hN.kept hS.2.1)
  have h : ∀ w ∈ Bundle.ownAtoms0 own ic cls names, w.before args s' = true := vx_own hat' (vx_isRefq hU'.1) (vx_isRefq hN'.1) hU'.2.word hN'.2.word
  have hown' : s'.vm.findClass own = some m.cls := by rw [hvm]; exact hown
  have hins : (Cond.instantiable cls 6).before args s' = true := h _ (by simp [Bundle.ownAtoms0])
  obtain ⟨vm₁, cX, kX, hfX, hkX, -, -, X₁, st1⟩ := Y.newCold hexec (own := own) (C := cls) (index := ik) (n := 6) hown' hk' hins hini'
    (g := F0 m pc ls rest) rfl (by rw [hb]; exact d0) (Nat.le_refl _) (Nat.le_refl _)
  generalize hT1 : (T.setVm vm₁).pushCell { cls := cX, slots := kX.instanceTypes.map defaultValue, vm := .none } = T1 at X₁ st1
  have hcat : (Value.ref T.heap.size).category = 1 := rfl
  have hcellA : T1.heap[T.heap.size]? = some (freshCell cX kX) := by rw [← hT1]; exact State.heap_pushCell_size _ _
  have d3' : decode c.code (pc + 3) = .ok (.dup, 1) := by rw [hb]; exact d3
  obtain ⟨U, hsteps, hrun, hend, hW, hsame, ce, hce, hO⟩ := X₁.ctorThrow0 hexec htr (own := own) (cls := cls) (names := names) (ic := ic) hown' hcls hnames h (fun x hx => nomatch hx) hfX hkX hcellA (by rw [hhp, hT]; exact Nat.le_refl _)
    (g := { method := m, pc := pc + 4, locals := ls, stack := .ref T.heap.size :: .ref T.heap.size :: rest, locked := none }) rfl hsize rfl rfl (rest := rest) rfl
    (by rw [hb]; exact d4) (by rw [hb]; exact d7) hout hRframes (by simp only [List.map_cons, List.sum_cons, hcat]; omega) hlocks
  obtain ⟨f1, f2⟩ := vx_frame hsame
  rw [hhp] at f1 f2
  have hWs : s.WarmedH U.vm := State.WarmedH.trans hW0 hW
  have hcl : s.vm.findClass cls = some ce.cls := by
    have h9 := hO.cls
    rw [hvm] at h9
    exact h9
  have hall : s.sameButNew ({ U with vm := s.vm } : State) locs mc ms := by
    subst hA
    obtain ⟨e1, e2⟩ := hsame
    rw [State.setFrames_setFrames] at e1
    have h2 : (T.setVm s.vm).sameButNew ({ U with vm := s.vm } : State) [] (0 + 1) (0 + 6) := ⟨e1, e2⟩
    have h3 := X.same.trans h2
    rw [List.append_nil] at h3
    exact h3.mono hc hs
  refine ⟨U, ?_, .threw T.heap.size, hrun, hend, Or.inr ⟨T.heap.size, rfl, cls, ce, locs, hx U hWs.alike f1 (fun q hq => f2 q hq (fun z hz => nomatch hz)), hce, hO.vm, hcl, hWs, hall, hf⟩⟩
  refine st1 _ ?_
  show Steps p.tables e below (T1.setTop { method := m, pc := pc + 3, locals := ls, stack := .ref T.heap.size :: rest, locked := none }) _
  jvm_step X₁.here [X₁.here.top, hexec, d3', Value.category]
  exact hsteps
/-- 'throw new E("text")': new; dup; ldc; invokespecial; athrow -/
theorem vx_throwS {cc : ByteArray} {pc : Nat} (hexec : p.tables.exec = Jvm.exec) (hb : c.code = cc) (hl : l.stackTraces = false) {own cls text : String} {names : List String} {ik is ic mc ms sa : Nat} {A : Nat → Prop}
    (hown : s.vm.findClass own = some m.cls) (hcls : Bundle.fit cls = true) (hnames : ∀ n ∈ names, Bundle.fit n = true)
    (hk : (Cond.classLink own ik cls).before args s = true) (hini : (Cond.initialized cls).before args s = true) (hstr : vk_R own is text sa s) (hat : ∀ w ∈ vx_atS own ic cls names, w.before args s = true)
    (hgood : ∀ w ∈ Cond.classLink own ik cls :: Cond.initialized cls :: vx_atS own ic cls names, vx_ot w = true)
    (hU : vx_Zq Bundle.tN "UNASSIGNED_STACK" Bundle.steD A s s.heap) (hN : vx_Zq Bundle.tN "SUPPRESSED_SENTINEL" Bundle.listD A s s.heap) (hS : va_S A s.heap H locs) (hsize : ls.size = c.maxLocals)
    (d0 : decode cc pc = .ok (.new ik, 3)) (d3 : decode cc (pc + 3) = .ok (.dup, 1)) (d4 : decode cc (pc + 4) = .ok (.ldc is, 2)) (d6 : decode cc (pc + 6) = .ok (.invokespecial ic, 3)) (d9 : decode cc (pc + 9) = .ok (.athrow, 1))
    (hout : ∀ x ∈ c.exceptionTable.toList, covers x (pc + 9) = false)
    (hRframes : names.length + 3 < R.frames) (hRlocals : (rest.map fun v => v.category).sum + (13 * (names.length + 1) + 43) ≤ R.locals) (hRcells : cells + 1 ≤ R.cells) (hRslots : slots + 6 ≤ R.slots) (hlocks : meth.locks = false)
    (hx : ∀ t : State, s.vm.Alike t.vm → H.size ≤ t.heap.size → (∀ q : Nat, q < H.size → t.heap[q]? = H[q]?) → XC cls s t)
    (hf : ∀ z ∈ locs, free z.base) (hc : cells + 1 ≤ mc) (hs : slots + 6 ≤ ms) :
    W p l e R s m args below meth c H locs cells slots (vx_MQ below Qc XC args s mc ms free) (F0 m pc ls rest) := by
  intro T hT X
  have htr : e.platform.stackTraces = false := (show e.platform.stackTraces = l.stackTraces by rw [X.admits.platform]).trans hl
  have Y := vx_rebase X (R' := { frames := R.frames, locals := R.locals, cells := 1, slots := 6 }) (Nat.le_refl _) (Nat.le_refl _) hRcells hRslots
  obtain ⟨s', hA⟩ : ∃ z, z = (T.setVm s.vm).setFrames (.invoking m args :: below) := ⟨_, rfl⟩
  rw [← hA] at Y
  have hvm : s'.vm = s.vm := by rw [hA]; rfl
  have hhp : s'.heap = H := by rw [hA]; exact hT
  have hW0 : s.WarmedH s'.vm := by rw [hvm]; exact State.WarmedH.refl s
  have hat' : ∀ w ∈ vx_atS own ic cls names, w.before args s' = true := fun w hw => vx_ot_at hW0 hvm.symm (hgood w (List.mem_cons_of_mem _ (List.mem_cons_of_mem _ hw))) (hat w hw)
  have hk' : (Cond.classLink own ik cls).before args s' = true := vx_ot_at hW0 hvm.symm (hgood _ List.mem_cons_self) hk
  have hini' : (Cond.initialized cls).before args s' = true := vx_ot_at hW0 hvm.symm (hgood _ (List.mem_cons_of_mem _ List.mem_cons_self)) hini
  have hU' : vx_Zq Bundle.tN "UNASSIGNED_STACK" Bundle.steD A s' s'.heap := by rw [hhp]; exact vx_Zq.moved hW0.alike (hU.kept hS.2.1)
  have hN' : vx_Zq Bundle.tN "SUPPRESSED_SENTINEL" Bundle.listD A s' s'.heap := by rw [hhp]; exact vx_Zq.moved hW0.alike (hN.kept hS.2.1)
  have h : ∀ w ∈ Bundle.ownAtoms own ic cls names, w.before args s' = true := vx_own hat' (vx_isRefq hU'.1) (vx_isRefq hN'.1) hU'.2.word hN'.2.word
  have hown' : s'.vm.findClass own = some m.cls := by rw [hvm]; exact hown
  have hins : (Cond.instantiable cls 6).before args s' = true := h _ (by simp [Bundle.ownAtoms])
  obtain ⟨vm₁, cX, kX, hfX, hkX, -, -, X₁, st1⟩ := Y.newCold hexec (own := own) (C := cls) (index := ik) (n := 6) hown' hk' hins hini'
    (g := F0 m pc ls rest) rfl (by rw [hb]; exact d0) (Nat.le_refl _) (Nat.le_refl _)
  generalize hT1 : (T.setVm vm₁).pushCell { cls := cX, slots := kX.instanceTypes.map defaultValue, vm := .none } = T1 at X₁ st1
  have hcat : (Value.ref T.heap.size).category = 1 := rfl
  have hcellA : T1.heap[T.heap.size]? = some (freshCell cX kX) := by rw [← hT1]; exact State.heap_pushCell_size _ _
  have d3' : decode c.code (pc + 3) = .ok (.dup, 1) := by rw [hb]; exact d3
  have d4' : decode c.code (pc + 4) = .ok (.ldc is, 2) := by rw [hb]; exact d4
  have hstr' : vk_R own is text sa s' := vk_R.warm hW0 hstr
  obtain ⟨U, hsteps, hrun, hend, hW, hsame, ce, hce, hO⟩ := X₁.ctorThrowS hexec htr (own := own) (cls := cls) (names := names) (ic := ic) hown' hcls hnames h (fun x hx => nomatch hx) hfX hkX hcellA (by rw [hhp, hT]; exact Nat.le_refl _) (msg := .ref sa) rfl
    (g := { method := m, pc := pc + 6, locals := ls, stack := .ref sa :: .ref T.heap.size :: .ref T.heap.size :: rest, locked := none }) rfl hsize rfl rfl (rest := rest) rfl
    (by rw [hb]; exact d6) (by rw [hb]; exact d9) hout hRframes (by simp only [List.map_cons, List.sum_cons, hcat]; omega) hlocks
  obtain ⟨f1, f2⟩ := vx_frame hsame
  rw [hhp] at f1 f2
  have hWs : s.WarmedH U.vm := State.WarmedH.trans hW0 hW
  have hcl : s.vm.findClass cls = some ce.cls := by
    have h9 := hO.cls
    rw [hvm] at h9
    exact h9
  have hall : s.sameButNew ({ U with vm := s.vm } : State) locs mc ms := by
    subst hA
    obtain ⟨e1, e2⟩ := hsame
    rw [State.setFrames_setFrames] at e1
    have h2 : (T.setVm s.vm).sameButNew ({ U with vm := s.vm } : State) [] (0 + 1) (0 + 6) := ⟨e1, e2⟩
    have h3 := X.same.trans h2
    rw [List.append_nil] at h3
    exact h3.mono hc hs
  refine ⟨U, ?_, .threw T.heap.size, hrun, hend, Or.inr ⟨T.heap.size, rfl, cls, ce, locs, hx U hWs.alike f1 (fun q hq => f2 q hq (fun z hz => nomatch hz)), hce, hO.vm, hcl, hWs, hall, hf⟩⟩
  refine st1 _ ?_
  show Steps p.tables e below (T1.setTop { method := m, pc := pc + 3, locals := ls, stack := .ref T.heap.size :: rest, locked := none }) _
  jvm_step X₁.here [X₁.here.top, hexec, d3', Value.category]
  exact X₁.ldcString hexec (own := own) (text := text) (index := is) (a := sa) hown' hstr'.1 hstr'.2
    (g := { method := m, pc := pc + 4, locals := ls, stack := .ref T.heap.size :: .ref T.heap.size :: rest, locked := none }) rfl d4' _ hsteps
/-- 'throw new E("text")', the text by a wide index -/
theorem vx_throwSW {cc : ByteArray} {pc : Nat} (hexec : p.tables.exec = Jvm.exec) (hb : c.code = cc) (hl : l.stackTraces = false) {own cls text : String} {names : List String} {ik is ic mc ms sa : Nat} {A : Nat → Prop}
    (hown : s.vm.findClass own = some m.cls) (hcls : Bundle.fit cls = true) (hnames : ∀ n ∈ names, Bundle.fit n = true)
    (hk : (Cond.classLink own ik cls).before args s = true) (hini : (Cond.initialized cls).before args s = true) (hstr : vk_R own is text sa s) (hat : ∀ w ∈ vx_atS own ic cls names, w.before args s = true)
    (hgood : ∀ w ∈ Cond.classLink own ik cls :: Cond.initialized cls :: vx_atS own ic cls names, vx_ot w = true)
    (hU : vx_Zq Bundle.tN "UNASSIGNED_STACK" Bundle.steD A s s.heap) (hN : vx_Zq Bundle.tN "SUPPRESSED_SENTINEL" Bundle.listD A s s.heap) (hS : va_S A s.heap H locs) (hsize : ls.size = c.maxLocals)
    (d0 : decode cc pc = .ok (.new ik, 3)) (d3 : decode cc (pc + 3) = .ok (.dup, 1)) (d4 : decode cc (pc + 4) = .ok (.ldc_w is, 3)) (d7 : decode cc (pc + 7) = .ok (.invokespecial ic, 3)) (d10 : decode cc (pc + 10) = .ok (.athrow, 1))
    (hout : ∀ x ∈ c.exceptionTable.toList, covers x (pc + 10) = false)
    (hRframes : names.length + 3 < R.frames) (hRlocals : (rest.map fun v => v.category).sum + (13 * (names.length + 1) + 43) ≤ R.locals) (hRcells : cells + 1 ≤ R.cells) (hRslots : slots + 6 ≤ R.slots) (hlocks : meth.locks = false)
    (hx : ∀ t : State, s.vm.Alike t.vm → H.size ≤ t.heap.size → (∀ q : Nat, q < H.size → t.heap[q]? = H[q]?) → XC cls s t)
    (hf : ∀ z ∈ locs, free z.base) (hc : cells + 1 ≤ mc) (hs : slots + 6 ≤ ms) :
    W p l e R s m args below meth c H locs cells slots (vx_MQ below Qc XC args s mc ms free) (F0 m pc ls rest) := by
  intro T hT X
  have htr : e.platform.stackTraces = false := (show e.platform.stackTraces = l.stackTraces by rw [X.admits.platform]).trans hl
  have Y := vx_rebase X (R' := { frames := R.frames, locals := R.locals, cells := 1, slots := 6 }) (Nat.le_refl _) (Nat.le_refl _) hRcells hRslots
  obtain ⟨s', hA⟩ : ∃ z, z = (T.setVm s.vm).setFrames (.invoking m args :: below) := ⟨_, rfl⟩
  rw [← hA] at Y
  have hvm : s'.vm = s.vm := by rw [hA]; rfl
  have hhp : s'.heap = H := by rw [hA]; exact hT
  have hW0 : s.WarmedH s'.vm := by rw [hvm]; exact State.WarmedH.refl s
  have hat' : ∀ w ∈ vx_atS own ic cls names, w.before args s' = true := fun w hw => vx_ot_at hW0 hvm.symm (hgood w (List.mem_cons_of_mem _ (List.mem_cons_of_mem _ hw))) (hat w hw)
  have hk' : (Cond.classLink own ik cls).before args s' = true := vx_ot_at hW0 hvm.symm (hgood _ List.mem_cons_self) hk
  have hini' : (Cond.initialized cls).before args s' = true := vx_ot_at hW0 hvm.symm (hgood _ (List.mem_cons_of_mem _ List.mem_cons_self)) hini
  have hU' : vx_Zq Bundle.tN "UNASSIGNED_STACK" Bundle.steD A s' s'.heap := by rw [hhp]; exact vx_Zq.moved hW0.alike (hU.kept hS.2.1)
  have hN' : vx_Zq Bundle.tN "SUPPRESSED_SENTINEL" Bundle.listD A s' s'.heap := by rw [hhp]; exact vx_Zq.moved hW0.alike (hN.kept hS.2.1)
  have h : ∀ w ∈ Bundle.ownAtoms own ic cls names, w.before args s' = true := vx_own hat' (vx_isRefq hU'.1) (vx_isRefq hN'.1) hU'.2.word hN'.2.word
  have hown' : s'.vm.findClass own = some m.cls := by rw [hvm]; exact hown
  have hins : (Cond.instantiable cls 6).before args s' = true := h _ (by simp [Bundle.ownAtoms])
  obtain ⟨vm₁, cX, kX, hfX, hkX, -, -, X₁, st1⟩ := Y.newCold hexec (own := own) (C := cls) (index := ik) (n := 6) hown' hk' hins hini'
    (g := F0 m pc ls rest) rfl (by rw [hb]; exact d0) (Nat.le_refl _) (Nat.le_refl _)
  generalize hT1 : (T.setVm vm₁).pushCell { cls := cX, slots := kX.instanceTypes.map defaultValue, vm := .none } = T1 at X₁ st1
  have hcat : (Value.ref T.heap.size).category = 1 := rfl
  have hcellA : T1.heap[T.heap.size]? = some (freshCell cX kX) := by rw [← hT1]; exact State.heap_pushCell_size _ _
  have d3' : decode c.code (pc + 3) = .ok (.dup, 1) := by rw [hb]; exact d3
  have d4' : decode c.code (pc + 4) = .ok (.ldc_w is, 3) := by rw [hb]; exact d4
  have hstr' : vk_R own is text sa s' := vk_R.warm hW0 hstr
  obtain ⟨U, hsteps, hrun, hend, hW, hsame, ce, hce, hO⟩ := X₁.ctorThrowS hexec htr (own := own) (cls := cls) (names := names) (ic := ic) hown' hcls hnames h (fun x hx => nomatch hx) hfX hkX hcellA (by rw [hhp, hT]; exact Nat.le_refl _) (msg := .ref sa) rfl
    (g := { method := m, pc := pc + 7, locals := ls, stack := .ref sa :: .ref T.heap.size :: .ref T.heap.size :: rest, locked := none }) rfl hsize rfl rfl (rest := rest) rfl
    (by rw [hb]; exact d7) (by rw [hb]; exact d10) hout hRframes (by simp only [List.map_cons, List.sum_cons, hcat]; omega) hlocks
  obtain ⟨f1, f2⟩ := vx_frame hsame
  rw [hhp] at f1 f2
  have hWs : s.WarmedH U.vm := State.WarmedH.trans hW0 hW
  have hcl : s.vm.findClass cls = some ce.cls := by
    have h9 := hO.cls
    rw [hvm] at h9
    exact h9
  have hall : s.sameButNew ({ U with vm := s.vm } : State) locs mc ms := by
    subst hA
    obtain ⟨e1, e2⟩ := hsame
    rw [State.setFrames_setFrames] at e1
    have h2 : (T.setVm s.vm).sameButNew ({ U with vm := s.vm } : State) [] (0 + 1) (0 + 6) := ⟨e1, e2⟩
    have h3 := X.same.trans h2
    rw [List.append_nil] at h3
    exact h3.mono hc hs
  refine ⟨U, ?_, .threw T.heap.size, hrun, hend, Or.inr ⟨T.heap.size, rfl, cls, ce, locs, hx U hWs.alike f1 (fun q hq => f2 q hq (fun z hz => nomatch hz)), hce, hO.vm, hcl, hWs, hall, hf⟩⟩
  refine st1 _ ?_
  show Steps p.tables e below (T1.setTop { method := m, pc := pc + 3, locals := ls, stack := .ref T.heap.size :: rest, locked := none }) _
  jvm_step X₁.here [X₁.here.top, hexec, d3', Value.category]
  exact X₁.ldcStringW hexec (own := own) (text := text) (index := is) (a := sa) hown' hstr'.1 hstr'.2
    (g := { method := m, pc := pc + 4, locals := ls, stack := .ref T.heap.size :: .ref T.heap.size :: rest, locked := none }) rfl d4' _ hsteps
end Ends
section Bodies
variable {l : Launch}
theorem vx_ofW {y : MethodName} {ws ws' : List Cond} {rm : Room} {Pc : Array Value → State → Prop} {Qc : Array Value → State → Outcome → State → Prop} {XC : String → State → State → Prop} {mc ms : Nat} {free : Addr → Prop} {cc : ByteArray} {maxL : Nat} {ret : Option FieldType}
    (hy : plainName y.cls = true) (hw : ws = Cond.code y cc maxL ret :: ws')
    (body : ∀ p e s m args below meth c s₁, BodyLoose p l y (headSpec ws rm) cc maxL ret e s m args below meth c s₁ → c.maxLocals = maxL → (∀ x ∈ c.exceptionTable.toList, False) → Pc args s →
      W p l e (headSpec ws rm).room s m args below meth c s.heap [] 0 0 (vx_MQ below Qc XC args s mc ms free) (entryFrame m args maxL)) : vx_Met l y ws rm Pc Qc XC mc ms free := by
  refine MetFree.of_bodyS (code := cc) (maxLocals := maxL) (ret := ret) hy ?_ ?_
  · intro args s m h hn
    obtain ⟨meth, c, h1, h2, h3, h4, h5, h6, -, -⟩ := Cond.code_spec hn (atoms_spec (ws := ws) h _ (by rw [hw]; exact List.mem_cons_self))
    exact ⟨meth, c, h1, h2, h3, h4, h5, h6⟩
  · intro p e s m args below meth c s₁ B hml hP _
    have hh0 : s₁.heap = s.heap := by rw [B.state]; rfl
    have ht : ∀ x ∈ c.exceptionTable.toList, False := by
      obtain ⟨meth9, c9, h1, h2, -, -, -, -, h7, -⟩ := Cond.code_spec B.named (atoms_spec (ws := ws) B.pre _ (by rw [hw]; exact List.mem_cons_self))
      cases Option.some.inj (h1.symm.trans B.method)
      cases Option.some.inj (h2.symm.trans (Stand.of_body B).code)
      intro x hx
      rw [Array.isEmpty_iff.mp h7] at hx
      cases hx
    obtain ⟨t, a1, o, b1, b2, b3⟩ := body p e s m args below meth c s₁ B hml ht hP s₁ hh0 (Stand.of_body B)
    exact ⟨t, o, a1, b1, b2, b3⟩
/-- the table of a body with handlers -/
theorem vx_table {p : Program} {x y : MethodName} {S : Spec} {cc bytes : ByteArray} {maxL maxL' : Nat} {ret ret' : Option FieldType} {e : Env} {s s₁ : State} {m : MethodId} {args : Array Value} {below : List Frame} {meth : Method} {c : Code} {hh : List (Nat × Nat × Nat × Nat)}
    (B : BodyLoose p l y S cc maxL ret e s m args below meth c s₁) (h : (Cond.codeWith y bytes maxL' ret' hh).before args s = true) : c.exceptionTable.toList = tableOf hh := by
  obtain ⟨m9, meth9, c9, hn9, h1, h2, -, -, h6, -⟩ := Cond.codeWith_spec h
  cases Option.some.inj (hn9.symm.trans B.named)
  cases Option.some.inj (h1.symm.trans B.method)
  cases Option.some.inj (h2.symm.trans (Stand.of_body B).code)
  rw [← h6, table_eq]
end Bodies
end VXA
/-! ===== END ===== -/
/-! ===== BEGIN a static call of a method with an exception table ===== -/
section VXS
variable {p : Program} {l : Launch} {e : Env} {R : Room} {s : State} {m : MethodId} {args : Array Value} {below : List Frame} {meth : Method} {c : Code} {T : State} {H : Heap} {locs : List Loc} {cells slots : Nat}
abbrev vx_CSW (R : Room) (s : State) (args : Array Value) (own : String) (index : Nat) (y : MethodName) (bytes : ByteArray) (maxL : Nat) (ret : Option FieldType) (hh : List (Nat × Nat × Nat × Nat)) (ws : List Cond) (rm : Room) (mc ms n : Nat) : Prop :=
  (rm.cells = mc ∧ rm.slots = ms ∧ rm.frames + 1 ≤ R.frames ∧ 8 + (maxL + 11) + rm.locals ≤ R.locals ∧ (∀ w ∈ ws, ∀ (a' : Array Value) (U : State), s.WarmedH U.vm → w.before a' U = true) ∧ Cond.codeWith y bytes maxL ret hh ∈ ws) ∧
  (Cond.codeWith y bytes maxL ret hh).before args s = true ∧ (Cond.initialized y.cls).before args s = true ∧ (y.cls ≠ "java/lang/invoke/MethodHandle" ∧ y.cls ≠ "java/lang/invoke/VarHandle") ∧
  (∀ sig, parseMethodDescriptor y.desc = some sig → n = sig.parameters.length) ∧ (Cond.methodLink own index y).before args s = true ∧ (Cond.static y).before args s = true
theorem vx_cwSW {own : String} {index maxL mc ms : Nat} {y : MethodName} {bytes : ByteArray} {ret : Option FieldType} {hh : List (Nat × Nat × Nat × Nat)} {Ts ws ws' : List Cond} {rm : Room} (n : Nat) (ht : ∀ w ∈ Ts, w.before args s = true) (hT : GoodIn Ts (va_wsS own index y ws)) (hw : ws = Cond.codeWith y bytes maxL ret hh :: ws') (hrc : rm.cells = mc) (hrs : rm.slots = ms)
    (hd : y.cls ≠ "java/lang/invoke/MethodHandle" ∧ y.cls ≠ "java/lang/invoke/VarHandle" ∧ (parseMethodDescriptor y.desc).map (fun d => d.parameters.length) = some n) (hR : rm.frames + 1 ≤ R.frames ∧ 8 + (maxL + 11) + rm.locals ≤ R.locals) :
    vx_CSW R s args own index y bytes maxL ret hh ws rm mc ms n := by
  have ok : ∀ w ∈ va_wsS own index y ws, w.before args s = true := fun w h => ht w (hT w h).1
  have hG : GoodIn Ts ws := fun w h => hT w (by unfold va_wsS; exact List.mem_append_right _ h)
  have hc : Cond.codeWith y bytes maxL ret hh ∈ ws := by rw [hw]; exact List.mem_cons_self
  refine ⟨⟨hrc, hrs, hR.1, hR.2, pay_in ht hG, hc⟩, ht _ (hG _ hc).1, ok _ (by simp [va_wsS]), ⟨hd.1, hd.2.1⟩, fun sig h => ?_, ok _ (by simp [va_wsS]), ok _ (by simp [va_wsS])⟩
  have h2 := hd.2.2
  rw [h] at h2
  exact (Option.some.inj h2).symm
theorem vx_callSW (X : Stand p l e R s m args below meth c T locs cells slots) (hexec : p.tables.exec = Jvm.exec) {own : String} {index : Nat} {y : MethodName} {bytes : ByteArray} {maxL : Nat} {ret : Option FieldType} {hh : List (Nat × Nat × Nat × Nat)}
    (hown : s.vm.findClass own = some m.cls) (hlink : (Cond.methodLink own index y).before args s = true) (hstat : (Cond.static y).before args s = true) (hinit : (Cond.initialized y.cls).before args s = true)
    (hcode : (Cond.codeWith y bytes maxL ret hh).before args s = true) (hy : y.cls ≠ "java/lang/invoke/MethodHandle" ∧ y.cls ≠ "java/lang/invoke/VarHandle")
    {W9 : Nat} {Pre : Pt → Array Value → Prop} {Post : Pt → Array Value → Option Value → Pt → Prop} (hK : Back l R p e below s args y 3 W9 Pre Post)
    {g : JFrame} (hg : g.method = m) (hsize : g.locals.size = c.maxLocals) {argsL rest : List Value} (hlen : ∀ sig, parseMethodDescriptor y.desc = some sig → argsL.length = sig.parameters.length)
    (hstack : g.stack = argsL.reverse ++ rest) (hW : 2 * g.monitorRoom + (rest.map fun v => v.category).sum ≤ W9) (hdg : decode c.code g.pc = .ok (.invokestatic index, 3))
    (hpre : ∀ vm₁, s.WarmedH vm₁ → Pre ⟨T.setVm vm₁, locs, cells, slots⟩ argsL.toArray) :
    ∃ (v : Option Value) (vm₁ : Vm) (B : Pt), s.WarmedH vm₁ ∧ Stand p l e R s m args below meth c B.U B.locs B.cells B.slots ∧ Post ⟨T.setVm vm₁, locs, cells, slots⟩ argsL.toArray v B ∧
      ∀ target, Steps p.tables e below (B.U.setTop { g with pc := g.pc + 3, stack := v.toList ++ rest }) target → Steps p.tables e below (T.setTop g) target := by
  obtain ⟨mk, methM, cM, hnamed, hmethM, -, -, -, -, -, -, hsigM⟩ := Cond.codeWith_spec hcode
  have hstatic : methM.isStatic = true := Cond.static_spec hnamed hmethM hstat
  obtain ⟨kP, hkP, -⟩ := className_of_methodNamed hnamed
  have hinitP : kP.init = .initialized := Cond.initialized_spec (findClass_of_methodNamed hnamed) hkP hinit
  obtain ⟨vm₁, X₁, hstep₁⟩ := X.invokestatic hexec hown hlink hnamed hmethM hstatic hkP hinitP hy (g := g) hg (argsL := argsL) (rest := rest) (hlen _ hsigM) hstack hdg
  obtain ⟨v, B, X', hpost, hsteps⟩ := hK m meth c ⟨T.setVm vm₁, locs, cells, slots⟩ { g with stack := rest } (.invokestatic index) mk argsL.toArray X₁ hg hsize hdg hW (X₁.named hnamed) (hpre vm₁ X₁.warmed)
  exact ⟨v, vm₁, B, X₁.warmed, X', hpost, fun target h => hstep₁ _ fun acts => by rw [doInvoke_state]; exact hsteps.trans h⟩
theorem vx_runSW {y : MethodName} {bytes cc : ByteArray} {maxL nL mc ms n index : Nat} {ret : Option FieldType} {hh : List (Nat × Nat × Nat × Nat)} {ws : List Cond} {rm : Room} {Pc : Array Value → State → Prop} {Qc : Array Value → State → Outcome → State → Prop} {free : Addr → Prop} {Ts : List Cond} {own : String} {As rest : List Value} {g : JFrame}
    (S : CallFix p m c cc nL s args Ts own) (hM : Met l y ws rm Pc Qc mc ms free) (cw : vx_CSW R s args own index y bytes maxL ret hh ws rm mc ms n) (hp : PreS s H Pc As)
    (hg : g.method = m) (hn : As.length = n) (hsize : g.locals.size = nL) (hstack : g.stack = As.reverse ++ rest) (hW : 2 * g.monitorRoom + (rest.map fun v => v.category).sum ≤ 8) (hdg : decode cc g.pc = .ok (.invokestatic index, 3)) (hf : cells + mc ≤ R.cells ∧ slots + ms ≤ R.slots) :
    va_Run p l e R s m args below meth c H locs cells slots mc ms g rest (Qc As.toArray) (free) := by
  obtain ⟨⟨hrc, hrs, hfr, hlo, hws, hcw⟩, hcode, hini, hy, hlen, hl, hstt⟩ := cw
  have hK : Back l R p e below s args y 3 8 (PreOf R mc ms Pc) (PostOf Qc mc ms free) := va_backW (hh := hh) (bytes := bytes) (maxL := maxL) (ret := ret) hM hp.1 hrc hrs hfr hlo hws hcw (fun a' U hW => word_at hW (Or.inl (by first | rfl | simp [Cond.onTables, Cond.keeps, Cond.steady])) hini)
  obtain ⟨hx, hb, hml, ho, -⟩ := S
  intro T hT X
  obtain ⟨v, vm₁, ⟨U', l2, c2, s2⟩, hW₁, X', ⟨g', mk, t, L, e1, e2, hq, h1, hL, h2, h3⟩, st⟩ := vx_callSW X hx (hh := hh) (bytes := bytes) (maxL := maxL) (ret := ret) ho hl hstt hini hcode hy hK hg (hsize.trans hml.symm) (argsL := As) (rest := rest) (fun sig h => hn.trans (hlen sig h)) hstack hW (by rw [hb]; exact hdg)
    (fun vm₁ hW₁ => ⟨hf.1, hf.2, hp.2 (T.setVm vm₁) hT hW₁⟩)
  dsimp only [Pt.U, Pt.locs, Pt.cells, Pt.slots] at X' e1 e2 h1 h2 h3 st
  subst h1; subst h2; subst h3
  exact ⟨v, (T.setVm vm₁).calling g' mk As.toArray, t, U', L, hT, X', hL, e1, e2, hq, st⟩
/-- not caught here, past rows that name other classes: it goes on to the caller -/
theorem vx_outP {p : Program} {l : Launch} {e : Env} {R : Room} {s : State} {m : MethodId} {args : Array Value} {below : List Frame} {meth : Method} {c : Code} {H : Heap} {locs : List Loc} {cells slots : Nat} {free : Addr → Prop} {ls : Array Slot} {rest : List Value} {Qc : Array Value → State → Outcome → State → Prop} {XC : String → State → State → Prop}
    {pc : Nat} {own E : String} {ce : Cell} {q : Addr} {mc ms : Nat} (hown : s.vm.findClass own = some m.cls) (hlocks : meth.locks = false)
    (hpass : ∀ z ∈ c.exceptionTable.toList, covers z pc = false ∨ (z.catchType ≠ 0 ∧ ∃ nm : String, (Cond.classLink own z.catchType nm).before args s = true ∧ va_Nc E nm s)) (hcell : H[q]? = some ce) (hv : ce.vm = .none) (hcl : s.vm.findClass E = some ce.cls)
    (hx : ∀ t : State, t.heap = H → s.vm.Alike t.vm → XC E s t) (hf : ∀ z ∈ locs, free z.base) (hc : cells ≤ mc) (hs : slots ≤ ms) :
    vx_W p l e R s m args below meth c H locs cells slots (vx_MQ below Qc XC args s mc ms free) (F0 m pc ls rest) q := by
  intro T hT X
  have hpl : e.platform.magicAccessors = ({} : Platform).magicAccessors := by rw [X.admits.platform]
  obtain ⟨vm', hW', X', st⟩ := X.outThrough hlocks q (g := F0 m pc ls rest) rfl rfl rfl (cell := ce) (by rw [hT]; exact hcell) (by rw [hv]; rfl)
    (by obtain ⟨k9, h9, -⟩ := Vm.findClass_spec hcl; exact ⟨k9, h9⟩) (fun z hz => by
      rcases hpass z hz with h | ⟨hz0, nm, hl1, hn1⟩
      · exact Or.inl h
      · obtain ⟨c6, hc6, hcl6⟩ := Cond.classLink_spec hown hl1 e.platform hpl
        obtain ⟨a8, b8, h1, h2, h3⟩ := hn1
        cases Option.some.inj (h1.symm.trans hcl)
        cases Option.some.inj (h2.symm.trans hc6)
        exact Or.inr ⟨hz0, _, hcl6, h3⟩)
  obtain ⟨g₀, hfr⟩ := X'.frames_eq
  have hcell9 : ((T.setVm vm').setFrames (.throwing q :: below)).heap[q]? = some ce := by
    show T.heap[q]? = some ce
    rw [hT]; exact hcell
  have hend : Ended ((T.setVm vm').setFrames (.throwing q :: below)) below (.threw q) := State.frames_setFrames _ (State.cur_lt_of_frames hfr)
  refine ⟨(T.setVm vm').setFrames (.throwing q :: below), ?_, .threw q, X'.here.running, hend, Or.inr ⟨q, rfl, E, ce, locs, hx _ hT (X'.ends _).1.alike, hcell9, hv, hcl, (X'.ends _).1, (X'.ends _).2.mono hc hs, hf⟩⟩
  rw [X.pushThrowing_eq]
  exact st
/-- a thing of a world lies in the heap -/
theorem vx_lt {D : va_G} {cl : List vw_C} {ws : va_W} {H1 : Heap} (h : va_P D cl ws H1) {k : Nat} {q : Nat × va_E} (hk : ws[k]? = some q) : q.1 < H1.size := (h k q hk).lt
end VXS
/-! ===== END ===== -/
/-! ===== BEGIN methods with a table of their own: called by a name, returning or throwing ===== -/
section VXH
/-! vx_backW, vx_callVX, vx_callSX, vx_callVW, vx_runVW, vx_runVX, vx_runSX, vx_ofWH follow the same proofs as their sisters above (Free/Laws.lean, Shelf42/LK1.lean); vx_outP calls Shelf42/NT130.lean (outThrough). -/
section
variable {l : Launch} {R : Room} {p : Program} {e : Env} {below : List Frame} {s : State} {sargs : Array Value} {y : MethodName} {len W9 : Nat}
theorem vx_backW {ws : List Cond} {rm : Room} {Pc : Array Value → State → Prop} {Qc : Array Value → State → Outcome → State → Prop} {XC : String → State → State → Prop} {mc ms : Nat} {free : Addr → Prop} {bytes : ByteArray} {maxL : Nat} {ret : Option FieldType} {hh : List (Nat × Nat × Nat × Nat)}
    (hM : vx_Met l y ws rm Pc Qc XC mc ms free) (hblind : FrameBlind Pc) (hrc : rm.cells = mc) (hrs : rm.slots = ms)
    (hframes : rm.frames + 1 ≤ R.frames) (hlocals : W9 + (maxL + 11) + rm.locals ≤ R.locals)
    (hws : ∀ w ∈ ws, ∀ a' U, s.WarmedH U.vm → w.before a' U = true) (hcode : Cond.codeWith y bytes maxL ret hh ∈ ws) (hinit : ∀ a' U, s.WarmedH U.vm → (Cond.initialized y.cls).before a' U = true) :
    vx_Back l R p e below s sargs y len W9 (PreOf R mc ms Pc) (PostOf Qc mc ms free) (vx_Post XC mc ms free) := by
  intro m meth c A g ig mk a X hg hsize hdg hW hn hp
  have h1 : (headSpec ws rm).pre.before a A.U = true := atoms_intro fun w hw => hws w hw _ _ X.warmed
  have h2 : (Cond.codeWith y bytes maxL ret hh).before a A.U = true := hws _ hcode _ _ X.warmed
  have h3 : (Cond.initialized y.cls).before a A.U = true := hinit _ _ X.warmed
  have h4 : A.cells + (headSpec ws rm).room.cells ≤ R.cells := by rw [show (headSpec ws rm).room.cells = mc from hrc]; exact hp.1
  have h5 : A.slots + (headSpec ws rm).room.slots ≤ R.slots := by rw [show (headSpec ws rm).room.slots = ms from hrs]; exact hp.2.1
  have hPc : Pc a (A.U.calling g mk a) := hblind _ _ _ _ hp.2.2
  obtain ⟨U, Ls, c0, s0⟩ := A
  dsimp only [Pt.U, Pt.locs, Pt.cells, Pt.slots] at h1 h2 h3 h4 h5 X hn hPc ⊢
  obtain ⟨m9, methY, cY, hn9, hmY, hcY, -, hlY, -⟩ := Cond.codeWith_spec h2
  cases Option.some.inj (hn9.symm.trans hn)
  obtain ⟨kY, hkY, -⟩ := className_of_methodNamed hn
  have hinitY : kY.init = .initialized := Cond.initialized_spec (findClass_of_methodNamed hn) hkY h3
  have h : At U g.method c below := by rw [hg]; exact X.here
  have hlocals9 : W9 + (maxL + 11) + (headSpec ws rm).room.locals ≤ R.locals := hlocals
  have happ : (headSpec ws rm).appliesLoose y e.platform (U.calling g mk a) = true :=
    Spec.appliesLoose_calling (g := g) h hdg hn hkY hinitY
      (X.room_calling (g := g) (R' := (headSpec ws rm).room) hsize hmY hcY hframes (by rw [hlY]; omega) h4 h5) h1
  obtain ⟨mid, hmid⟩ := h.above
  have hfr : (U.setTop g).frames = (.java g :: mid) ++ below := by rw [State.frames_setTop' g h.top, hmid]; rfl
  obtain ⟨o, s₂, hsteps, -, hend, hq⟩ := Steps.callFree hM p X.admits X.cas X.clock (acts := []) hfr happ hPc trivial
  have hq' : vx_Q Qc XC mc ms free a (U.calling g mk a) o s₂ := hq
  rw [State.frames_setTop' g h.top] at hend
  obtain ⟨g₀, hg0⟩ := Option.isSome_iff_exists.mp h.top
  obtain ⟨r, hr⟩ := State.topJava?_eq_some.mp hg0
  have hr' : (({ U with heap := s₂.heap, slotsUsed := s₂.slotsUsed } : State).setVm s₂.vm).frames = .java g₀ :: r := hr
  rcases hq' with ⟨hqc, L, hfe, hL⟩ | ⟨q, rfl, E, ce, L, hx, hce, hcv, hcl, hW₂, hsm, hL⟩
  · obtain ⟨⟨v, rfl⟩, hW₂, e2, q2, q3, q4, q5, q6⟩ := id hfe
    have e3 : s₂ = ({ (U.calling g mk a).setFrames s₂.frames with heap := s₂.heap, slotsUsed := s₂.slotsUsed } : State).setVm s₂.vm := by
      have : s₂ = ({ s₂ with vm := (U.calling g mk a).vm } : State).setVm s₂.vm := rfl
      rw [e2] at this
      exact this
    obtain ⟨c₂, i₂, len₂, hc₂, hd₂, hf₂⟩ := hend
    have hW' : U.WarmedH s₂.vm := hW₂
    have hcc : c₂ = c := by
      have h1 : s₂.code? g.method = U.code? g.method := by
        rw [State.code?_eq, State.code?_eq, hW'.alike.method?]
      exact Option.some.inj (hc₂.symm.trans (h1.trans h.code))
    subst hcc
    have hlen : len₂ = len := by rw [hdg] at hd₂; cases hd₂; rfl
    subst hlen
    have hs₂ : s₂ = (({ U with heap := s₂.heap, slotsUsed := s₂.slotsUsed } : State).setVm s₂.vm).setTop { g with pc := g.pc + len₂, stack := v.toList ++ g.stack } := by
      refine e3.trans ?_
      rw [hf₂, State.calling_eq h.top, State.setFrames_setFrames, State.setTop_of_frames _ hr', hr]
      rfl
    have hsame : U.sameButNew ({ U with heap := s₂.heap, slotsUsed := s₂.slotsUsed } : State) L mc ms := by
      refine ⟨?_, q2, q3, q4, q5, q6⟩
      obtain ⟨t, ht, -⟩ := State.frames_cons hr
      show ({ U with heap := s₂.heap, slotsUsed := s₂.slotsUsed } : State) = { U.setFrames U.frames with heap := s₂.heap, slotsUsed := s₂.slotsUsed }
      rw [State.setFrames_self ht]
    subst hg
    refine Or.inl ⟨v, ⟨(({ U with heap := s₂.heap, slotsUsed := s₂.slotsUsed } : State).setVm s₂.vm), Ls ++ L, c0 + mc, s0 + ms⟩,
      ⟨X.admits, X.cas, X.clock, X.frames, X.room, X.hears, X.method, X.code, (X.here.setHeapUsed s₂.heap s₂.slotsUsed).setVm hW'.alike, X.tail, State.WarmedH.trans X.warmed hW', X.limits, X.bytes, X.same.trans (hsame.setVm s.vm)⟩,
      ⟨g, mk, s₂, L, rfl, rfl, hqc, rfl, hL, rfl, rfl⟩, ?_⟩
    show Steps p.tables e below _ ((({ U with heap := s₂.heap, slotsUsed := s₂.slotsUsed } : State).setVm s₂.vm).setTop { g with pc := g.pc + len₂, stack := v.toList ++ g.stack })
    rw [← hs₂]
    exact hsteps
  · obtain ⟨e2, q2, q3, q4, q5, q6⟩ := id hsm
    have e3 : s₂ = ({ (U.calling g mk a).setFrames s₂.frames with heap := s₂.heap, slotsUsed := s₂.slotsUsed } : State).setVm s₂.vm := by
      have : s₂ = ({ s₂ with vm := (U.calling g mk a).vm } : State).setVm s₂.vm := rfl
      rw [e2] at this
      exact this
    have hf₂ : s₂.frames = .throwing q :: .java g :: U.frames.tail := hend
    have hW' : U.WarmedH s₂.vm := hW₂
    have hs₂ : s₂ = ((({ U with heap := s₂.heap, slotsUsed := s₂.slotsUsed } : State).setVm s₂.vm).setTop g).pushFrame (.throwing q) := by
      refine e3.trans ?_
      rw [hf₂, State.calling_eq h.top, State.setFrames_setFrames, State.pushFrame, State.frames_setTop _ hr', State.setTop_of_frames _ hr', State.setFrames_setFrames, hr]
      rfl
    have hsame : U.sameButNew ({ U with heap := s₂.heap, slotsUsed := s₂.slotsUsed } : State) L mc ms := by
      refine ⟨?_, q2, q3, q4, q5, q6⟩
      obtain ⟨t, ht, -⟩ := State.frames_cons hr
      show ({ U with heap := s₂.heap, slotsUsed := s₂.slotsUsed } : State) = { U.setFrames U.frames with heap := s₂.heap, slotsUsed := s₂.slotsUsed }
      rw [State.setFrames_self ht]
    subst hg
    refine Or.inr ⟨q, ⟨(({ U with heap := s₂.heap, slotsUsed := s₂.slotsUsed } : State).setVm s₂.vm), Ls ++ L, c0 + mc, s0 + ms⟩,
      ⟨X.admits, X.cas, X.clock, X.frames, X.room, X.hears, X.method, X.code, (X.here.setHeapUsed s₂.heap s₂.slotsUsed).setVm hW'.alike, X.tail, State.WarmedH.trans X.warmed hW', X.limits, X.bytes, X.same.trans (hsame.setVm s.vm)⟩,
      ⟨g, mk, s₂, L, E, ce, rfl, rfl, hx, hce, hcv, hcl, rfl, hL, rfl, rfl⟩, ?_⟩
    show Steps p.tables e below _ (((({ U with heap := s₂.heap, slotsUsed := s₂.slotsUsed } : State).setVm s₂.vm).setTop g).pushFrame (.throwing q))
    rw [← hs₂]
    exact hsteps
end
variable {p : Program} {l : Launch} {e : Env} {R : Room} {s : State} {m : MethodId} {args : Array Value} {below : List Frame} {meth : Method} {c : Code} {T : State} {H : Heap} {locs : List Loc} {cells slots : Nat}
theorem vx_callVX (X : Stand p l e R s m args below meth c T locs cells slots) (hexec : p.tables.exec = Jvm.exec) {own C : String} {index : Nat} {y : MethodName} {bytes : ByteArray} {maxL : Nat} {ret : Option FieldType} {hh : List (Nat × Nat × Nat × Nat)}
    (hown : s.vm.findClass own = some m.cls) (hlink : (Cond.methodLink own index y).before args s = true) (hinst : (Cond.instanceMethod y).before args s = true) (hsel : (Cond.selects C y y).before args s = true)
    (hcode : (Cond.codeWith y bytes maxL ret hh).before args s = true) (hy : y.cls ≠ "java/lang/invoke/MethodHandle" ∧ y.cls ≠ "java/lang/invoke/VarHandle")
    {W9 : Nat} {Pre : Pt → Array Value → Prop} {Post : Pt → Array Value → Option Value → Pt → Prop} {PostX : Pt → Array Value → Addr → Pt → Prop} (hK : vx_Back l R p e below s args y 3 W9 Pre Post PostX)
    {b : Addr} {cellB : Cell} (hcell : T.heap[b]? = some cellB) (hobj : cellB.vm.isStatics = false) (hcls : s.vm.findClass C = some cellB.cls)
    {g : JFrame} (hg : g.method = m) (hsize : g.locals.size = c.maxLocals) {argsL rest : List Value} (hlen : ∀ sig, parseMethodDescriptor y.desc = some sig → argsL.length = sig.parameters.length)
    (hstack : g.stack = argsL.reverse ++ .ref b :: rest) (hW : 2 * g.monitorRoom + (rest.map fun v => v.category).sum ≤ W9) (hdg : decode c.code g.pc = .ok (.invokevirtual index, 3))
    (hpre : ∀ vm₁, s.WarmedH vm₁ → Pre ⟨T.setVm vm₁, locs, cells, slots⟩ (Value.ref b :: argsL).toArray) :
    (∃ (v : Option Value) (vm₁ : Vm) (B : Pt), s.WarmedH vm₁ ∧ Stand p l e R s m args below meth c B.U B.locs B.cells B.slots ∧ Post ⟨T.setVm vm₁, locs, cells, slots⟩ (Value.ref b :: argsL).toArray v B ∧
      ∀ target, Steps p.tables e below (B.U.setTop { g with pc := g.pc + 3, stack := v.toList ++ rest }) target → Steps p.tables e below (T.setTop g) target) ∨
    (∃ (q : Addr) (vm₁ : Vm) (B : Pt), s.WarmedH vm₁ ∧ Stand p l e R s m args below meth c B.U B.locs B.cells B.slots ∧ PostX ⟨T.setVm vm₁, locs, cells, slots⟩ (Value.ref b :: argsL).toArray q B ∧
      Steps p.tables e below (T.setTop g) ((B.U.setTop { g with stack := rest }).pushFrame (.throwing q))) := by
  obtain ⟨mk, methM, hnamed, hmethM, hstM, habM⟩ := Cond.instanceMethod_spec hinst
  obtain ⟨m8, methM', cM, hn8, hmethM', -, -, -, -, -, -, hsigM⟩ := Cond.codeWith_spec hcode
  cases Option.some.inj (hn8.symm.trans hnamed)
  cases hmethM.symm.trans hmethM'
  obtain ⟨c2, r2, m2, q1, q2, q3, q4, kP, hkP, hkPi⟩ := Cond.selects_spec hsel
  cases hcls.symm.trans q1
  cases (State.methodFound?_of_named hnamed hy).symm.trans q2
  cases hnamed.symm.trans q3
  have hselP : selectMethod e.platform s.vm cellB.cls mk = .method mk := by rw [Launch.admits_selectMethod X.admits]; exact q4
  obtain ⟨vm₁, X₁, hstep₁⟩ := X.invokevirtual hexec hown hlink hnamed hmethM hstM hkP hkPi hy (a := b) (cell := cellB) hcell
    (fun z h => by rw [h] at hobj; cases hobj) hselP hmethM habM hkP hkPi (g := g) hg (argsL := argsL) (rest := rest) (hlen _ hsigM) hstack hdg
  rcases hK m meth c ⟨T.setVm vm₁, locs, cells, slots⟩ { g with stack := rest } (.invokevirtual index) mk (Value.ref b :: argsL).toArray X₁ hg hsize hdg hW (X₁.named hnamed) (hpre vm₁ X₁.warmed) with ⟨v, B, X', hpost, hsteps⟩ | ⟨q, B, X', hpost, hsteps⟩
  · exact Or.inl ⟨v, vm₁, B, X₁.warmed, X', hpost, fun target h => hstep₁ _ fun acts => by rw [doInvoke_state]; exact hsteps.trans h⟩
  · exact Or.inr ⟨q, vm₁, B, X₁.warmed, X', hpost, hstep₁ _ fun acts => by rw [doInvoke_state]; exact hsteps⟩
theorem vx_callSX (X : Stand p l e R s m args below meth c T locs cells slots) (hexec : p.tables.exec = Jvm.exec) {own : String} {index : Nat} {y : MethodName} {bytes : ByteArray} {maxL : Nat} {ret : Option FieldType} {hh : List (Nat × Nat × Nat × Nat)}
    (hown : s.vm.findClass own = some m.cls) (hlink : (Cond.methodLink own index y).before args s = true) (hstat : (Cond.static y).before args s = true) (hinit : (Cond.initialized y.cls).before args s = true)
    (hcode : (Cond.codeWith y bytes maxL ret hh).before args s = true) (hy : y.cls ≠ "java/lang/invoke/MethodHandle" ∧ y.cls ≠ "java/lang/invoke/VarHandle")
    {W9 : Nat} {Pre : Pt → Array Value → Prop} {Post : Pt → Array Value → Option Value → Pt → Prop} {PostX : Pt → Array Value → Addr → Pt → Prop} (hK : vx_Back l R p e below s args y 3 W9 Pre Post PostX)
    {g : JFrame} (hg : g.method = m) (hsize : g.locals.size = c.maxLocals) {argsL rest : List Value} (hlen : ∀ sig, parseMethodDescriptor y.desc = some sig → argsL.length = sig.parameters.length)
    (hstack : g.stack = argsL.reverse ++ rest) (hW : 2 * g.monitorRoom + (rest.map fun v => v.category).sum ≤ W9) (hdg : decode c.code g.pc = .ok (.invokestatic index, 3))
    (hpre : ∀ vm₁, s.WarmedH vm₁ → Pre ⟨T.setVm vm₁, locs, cells, slots⟩ argsL.toArray) :
    (∃ (v : Option Value) (vm₁ : Vm) (B : Pt), s.WarmedH vm₁ ∧ Stand p l e R s m args below meth c B.U B.locs B.cells B.slots ∧ Post ⟨T.setVm vm₁, locs, cells, slots⟩ argsL.toArray v B ∧
      ∀ target, Steps p.tables e below (B.U.setTop { g with pc := g.pc + 3, stack := v.toList ++ rest }) target → Steps p.tables e below (T.setTop g) target) ∨
    (∃ (q : Addr) (vm₁ : Vm) (B : Pt), s.WarmedH vm₁ ∧ Stand p l e R s m args below meth c B.U B.locs B.cells B.slots ∧ PostX ⟨T.setVm vm₁, locs, cells, slots⟩ argsL.toArray q B ∧
      Steps p.tables e below (T.setTop g) ((B.U.setTop { g with stack := rest }).pushFrame (.throwing q))) := by
  obtain ⟨mk, methM, cM, hnamed, hmethM, -, -, -, -, -, -, hsigM⟩ := Cond.codeWith_spec hcode
  have hstatic : methM.isStatic = true := Cond.static_spec hnamed hmethM hstat
  obtain ⟨kP, hkP, -⟩ := className_of_methodNamed hnamed
  have hinitP : kP.init = .initialized := Cond.initialized_spec (findClass_of_methodNamed hnamed) hkP hinit
  obtain ⟨vm₁, X₁, hstep₁⟩ := X.invokestatic hexec hown hlink hnamed hmethM hstatic hkP hinitP hy (g := g) hg (argsL := argsL) (rest := rest) (hlen _ hsigM) hstack hdg
  rcases hK m meth c ⟨T.setVm vm₁, locs, cells, slots⟩ { g with stack := rest } (.invokestatic index) mk argsL.toArray X₁ hg hsize hdg hW (X₁.named hnamed) (hpre vm₁ X₁.warmed) with ⟨v, B, X', hpost, hsteps⟩ | ⟨q, B, X', hpost, hsteps⟩
  · exact Or.inl ⟨v, vm₁, B, X₁.warmed, X', hpost, fun target h => hstep₁ _ fun acts => by rw [doInvoke_state]; exact hsteps.trans h⟩
  · exact Or.inr ⟨q, vm₁, B, X₁.warmed, X', hpost, hstep₁ _ fun acts => by rw [doInvoke_state]; exact hsteps⟩
theorem vx_callVW (X : Stand p l e R s m args below meth c T locs cells slots) (hexec : p.tables.exec = Jvm.exec) {own C : String} {index : Nat} {y : MethodName} {bytes : ByteArray} {maxL : Nat} {ret : Option FieldType} {hh : List (Nat × Nat × Nat × Nat)}
    (hown : s.vm.findClass own = some m.cls) (hlink : (Cond.methodLink own index y).before args s = true) (hinst : (Cond.instanceMethod y).before args s = true) (hsel : (Cond.selects C y y).before args s = true)
    (hcode : (Cond.codeWith y bytes maxL ret hh).before args s = true) (hy : y.cls ≠ "java/lang/invoke/MethodHandle" ∧ y.cls ≠ "java/lang/invoke/VarHandle")
    {W9 : Nat} {Pre : Pt → Array Value → Prop} {Post : Pt → Array Value → Option Value → Pt → Prop} (hK : Back l R p e below s args y 3 W9 Pre Post)
    {b : Addr} {cellB : Cell} (hcell : T.heap[b]? = some cellB) (hobj : cellB.vm.isStatics = false) (hcls : s.vm.findClass C = some cellB.cls)
    {g : JFrame} (hg : g.method = m) (hsize : g.locals.size = c.maxLocals) {argsL rest : List Value} (hlen : ∀ sig, parseMethodDescriptor y.desc = some sig → argsL.length = sig.parameters.length)
    (hstack : g.stack = argsL.reverse ++ .ref b :: rest) (hW : 2 * g.monitorRoom + (rest.map fun v => v.category).sum ≤ W9) (hdg : decode c.code g.pc = .ok (.invokevirtual index, 3))
    (hpre : ∀ vm₁, s.WarmedH vm₁ → Pre ⟨T.setVm vm₁, locs, cells, slots⟩ (Value.ref b :: argsL).toArray) :
    ∃ (v : Option Value) (vm₁ : Vm) (B : Pt), s.WarmedH vm₁ ∧ Stand p l e R s m args below meth c B.U B.locs B.cells B.slots ∧ Post ⟨T.setVm vm₁, locs, cells, slots⟩ (Value.ref b :: argsL).toArray v B ∧
      ∀ target, Steps p.tables e below (B.U.setTop { g with pc := g.pc + 3, stack := v.toList ++ rest }) target → Steps p.tables e below (T.setTop g) target := by
  obtain ⟨mk, methM, hnamed, hmethM, hstM, habM⟩ := Cond.instanceMethod_spec hinst
  obtain ⟨m8, methM', cM, hn8, hmethM', -, -, -, -, -, -, hsigM⟩ := Cond.codeWith_spec hcode
  cases Option.some.inj (hn8.symm.trans hnamed)
  cases hmethM.symm.trans hmethM'
  obtain ⟨c2, r2, m2, q1, q2, q3, q4, kP, hkP, hkPi⟩ := Cond.selects_spec hsel
  cases hcls.symm.trans q1
  cases (State.methodFound?_of_named hnamed hy).symm.trans q2
  cases hnamed.symm.trans q3
  have hselP : selectMethod e.platform s.vm cellB.cls mk = .method mk := by rw [Launch.admits_selectMethod X.admits]; exact q4
  obtain ⟨vm₁, X₁, hstep₁⟩ := X.invokevirtual hexec hown hlink hnamed hmethM hstM hkP hkPi hy (a := b) (cell := cellB) hcell
    (fun z h => by rw [h] at hobj; cases hobj) hselP hmethM habM hkP hkPi (g := g) hg (argsL := argsL) (rest := rest) (hlen _ hsigM) hstack hdg
  obtain ⟨v, B, X', hpost, hsteps⟩ := hK m meth c ⟨T.setVm vm₁, locs, cells, slots⟩ { g with stack := rest } (.invokevirtual index) mk (Value.ref b :: argsL).toArray X₁ hg hsize hdg hW (X₁.named hnamed) (hpre vm₁ X₁.warmed)
  exact ⟨v, vm₁, B, X₁.warmed, X', hpost, fun target h => hstep₁ _ fun acts => by rw [doInvoke_state]; exact hsteps.trans h⟩
abbrev vx_CVW (R : Room) (s : State) (args : Array Value) (own C : String) (index : Nat) (y : MethodName) (bytes : ByteArray) (maxL : Nat) (ret : Option FieldType) (hh : List (Nat × Nat × Nat × Nat)) (ws : List Cond) (rm : Room) (mc ms n : Nat) : Prop :=
  (rm.cells = mc ∧ rm.slots = ms ∧ rm.frames + 1 ≤ R.frames ∧ 8 + (maxL + 11) + rm.locals ≤ R.locals ∧ (∀ w ∈ ws, ∀ (a' : Array Value) (U : State), s.WarmedH U.vm → w.before a' U = true) ∧ Cond.codeWith y bytes maxL ret hh ∈ ws) ∧
  (Cond.codeWith y bytes maxL ret hh).before args s = true ∧ (Cond.initialized y.cls).before args s = true ∧ (y.cls ≠ "java/lang/invoke/MethodHandle" ∧ y.cls ≠ "java/lang/invoke/VarHandle") ∧
  (∀ sig, parseMethodDescriptor y.desc = some sig → n = sig.parameters.length) ∧ (Cond.methodLink own index y).before args s = true ∧ (Cond.instanceMethod y).before args s = true ∧ (Cond.selects C y y).before args s = true
theorem vx_cwVW {own C : String} {index maxL mc ms : Nat} {y : MethodName} {bytes : ByteArray} {ret : Option FieldType} {hh : List (Nat × Nat × Nat × Nat)} {Ts ws ws' : List Cond} {rm : Room} (n : Nat) (ht : ∀ w ∈ Ts, w.before args s = true) (hT : GoodIn Ts (wsV own index C y ws)) (hw : ws = Cond.codeWith y bytes maxL ret hh :: ws') (hrc : rm.cells = mc) (hrs : rm.slots = ms)
    (hd : y.cls = C ∧ y.cls ≠ "java/lang/invoke/MethodHandle" ∧ y.cls ≠ "java/lang/invoke/VarHandle" ∧ (parseMethodDescriptor y.desc).map (fun d => d.parameters.length) = some n) (hR : rm.frames + 1 ≤ R.frames ∧ 8 + (maxL + 11) + rm.locals ≤ R.locals) :
    vx_CVW R s args own C index y bytes maxL ret hh ws rm mc ms n := by
  obtain ⟨hC, hd⟩ := hd
  subst hC
  have ok : ∀ w ∈ wsV own index y.cls y ws, w.before args s = true := fun w h => ht w (hT w h).1
  have hG : GoodIn Ts ws := fun w h => hT w (by unfold wsV; exact List.mem_append_right _ h)
  have hc : Cond.codeWith y bytes maxL ret hh ∈ ws := by rw [hw]; exact List.mem_cons_self
  refine ⟨⟨hrc, hrs, hR.1, hR.2, pay_in ht hG, hc⟩, ht _ (hG _ hc).1, ok _ (by simp [wsV]), ⟨hd.1, hd.2.1⟩, fun sig h => ?_, ok _ (by simp [wsV]), ok _ (by simp [wsV]), ok _ (by simp [wsV])⟩
  have h2 := hd.2.2
  rw [h] at h2
  exact (Option.some.inj h2).symm
theorem vx_runVW {y : MethodName} {bytes cc : ByteArray} {maxL nL mc ms n index : Nat} {ret : Option FieldType} {hh : List (Nat × Nat × Nat × Nat)} {ws : List Cond} {rm : Room} {Pc : Array Value → State → Prop} {Qc : Array Value → State → Outcome → State → Prop} {free : Addr → Prop} {Ts : List Cond} {own C : String} {b : Addr} {As rest : List Value} {g : JFrame}
    (S : CallFix p m c cc nL s args Ts own) (hM : Met l y ws rm Pc Qc mc ms free) (cw : vx_CVW R s args own C index y bytes maxL ret hh ws rm mc ms n) (hp : PreV s H C b Pc As)
    (hg : g.method = m) (hn : As.length = n) (hsize : g.locals.size = nL) (hstack : g.stack = As.reverse ++ .ref b :: rest) (hW : 2 * g.monitorRoom + (rest.map fun v => v.category).sum ≤ 8) (hdg : decode cc g.pc = .ok (.invokevirtual index, 3)) (hf : cells + mc ≤ R.cells ∧ slots + ms ≤ R.slots) :
    va_Run p l e R s m args below meth c H locs cells slots mc ms g rest (Qc (Value.ref b :: As).toArray) free := by
  obtain ⟨⟨hrc, hrs, hfr, hlo, hws, hcw⟩, hcode, hini, hy, hlen, hl, hin, hse⟩ := cw
  have hK : Back l R p e below s args y 3 8 (PreOf R mc ms Pc) (PostOf Qc mc ms free) := va_backW (hh := hh) (bytes := bytes) (maxL := maxL) (ret := ret) hM hp.1 hrc hrs hfr hlo hws hcw (fun a' U hW => word_at hW (Or.inl (by first | rfl | simp [Cond.onTables, Cond.keeps, Cond.steady])) hini)
  obtain ⟨hx, hb, hml, ho, -⟩ := S
  obtain ⟨-, ⟨cellB, hcB, hoB, hclB⟩, hPc⟩ := hp
  intro T hT X
  obtain ⟨v, vm₁, ⟨U', l2, c2, s2⟩, hW₁, X', ⟨g', mk, t, L, e1, e2, hq, h1, hL, h2, h3⟩, st⟩ := vx_callVW X hx (C := C) (hh := hh) (bytes := bytes) (maxL := maxL) (ret := ret) ho hl hin hse hcode hy hK (by rw [hT]; exact hcB) hoB hclB hg (hsize.trans hml.symm) (argsL := As) (rest := rest) (fun sig h => hn.trans (hlen sig h)) hstack hW (by rw [hb]; exact hdg)
    (fun vm₁ hW₁ => ⟨hf.1, hf.2, hPc (T.setVm vm₁) hT hW₁⟩)
  dsimp only [Pt.U, Pt.locs, Pt.cells, Pt.slots] at X' e1 e2 h1 h2 h3 st
  subst h1; subst h2; subst h3
  exact ⟨v, (T.setVm vm₁).calling g' mk (Value.ref b :: As).toArray, t, U', L, hT, X', hL, e1, e2, hq, st⟩
section
variable {y : MethodName} {bytes cc : ByteArray} {maxL nL mc ms n index : Nat} {ret : Option FieldType} {ws : List Cond} {rm : Room} {Pc : Array Value → State → Prop} {Qc : Array Value → State → Outcome → State → Prop} {XC : String → State → State → Prop} {free : Addr → Prop} {Ts : List Cond} {own C : String} {b : Addr} {As rest : List Value} {g : JFrame}
theorem vx_runVX {hh : List (Nat × Nat × Nat × Nat)} (S : CallFix p m c cc nL s args Ts own) (hM : vx_Met l y ws rm Pc Qc XC mc ms free) (cw : vx_CVW R s args own C index y bytes maxL ret hh ws rm mc ms n) (hp : PreV s H C b Pc As)
    (hg : g.method = m) (hn : As.length = n) (hsize : g.locals.size = nL) (hstack : g.stack = As.reverse ++ .ref b :: rest) (hW : 2 * g.monitorRoom + (rest.map fun v => v.category).sum ≤ 8) (hdg : decode cc g.pc = .ok (.invokevirtual index, 3)) (hf : cells + mc ≤ R.cells ∧ slots + ms ≤ R.slots) :
    vx_Run p l e R s m args below meth c H locs cells slots mc ms g rest (Qc (Value.ref b :: As).toArray) XC free := by
  obtain ⟨⟨hrc, hrs, hfr, hlo, hws, hcw⟩, hcode, hini, hy, hlen, hl, hin, hse⟩ := cw
  have hK : vx_Back l R p e below s args y 3 8 (PreOf R mc ms Pc) (PostOf Qc mc ms free) (vx_Post XC mc ms free) := vx_backW (hh := hh) (bytes := bytes) (maxL := maxL) (ret := ret) hM hp.1 hrc hrs hfr hlo hws hcw (fun a' U hW => word_at hW (Or.inl (by first | rfl | simp [Cond.onTables, Cond.keeps, Cond.steady])) hini)
  obtain ⟨hx, hb, hml, ho, -⟩ := S
  obtain ⟨-, ⟨cellB, hcB, hoB, hclB⟩, hPc⟩ := hp
  intro T hT X
  rcases vx_callVX X hx (C := C) (hh := hh) (bytes := bytes) (maxL := maxL) (ret := ret) ho hl hin hse hcode hy hK (by rw [hT]; exact hcB) hoB hclB hg (hsize.trans hml.symm) (argsL := As) (rest := rest) (fun sig h => hn.trans (hlen sig h)) hstack hW (by rw [hb]; exact hdg)
    (fun vm₁ hW₁ => ⟨hf.1, hf.2, hPc (T.setVm vm₁) hT hW₁⟩) with ⟨v, vm₁, ⟨U', l2, c2, s2⟩, hW₁, X', ⟨g', mk, t, L, e1, e2, hq, h1, hL, h2, h3⟩, st⟩ | ⟨q, vm₁, ⟨U', l2, c2, s2⟩, hW₁, X', ⟨g', mk, t, L, E, ce, e1, e2, hq, hce, hcv, hcl, h1, hL, h2, h3⟩, st⟩
  · dsimp only [Pt.U, Pt.locs, Pt.cells, Pt.slots] at X' e1 e2 h1 h2 h3 st
    subst h1; subst h2; subst h3
    exact Or.inl ⟨v, (T.setVm vm₁).calling g' mk (Value.ref b :: As).toArray, t, U', L, hT, X', hL, e1, e2, hq, st⟩
  · dsimp only [Pt.U, Pt.locs, Pt.cells, Pt.slots] at X' e1 e2 h1 h2 h3 st hcl
    subst h1; subst h2; subst h3
    exact Or.inr ⟨q, (T.setVm vm₁).calling g' mk (Value.ref b :: As).toArray, t, U', L, E, ce, hT, X', hL, e1, e2, hq, hce, hcv, vx_cls hW₁ hcl, st⟩
theorem vx_runSX {hh : List (Nat × Nat × Nat × Nat)} (S : CallFix p m c cc nL s args Ts own) (hM : vx_Met l y ws rm Pc Qc XC mc ms free) (cw : vx_CSW R s args own index y bytes maxL ret hh ws rm mc ms n) (hp : PreS s H Pc As)
    (hg : g.method = m) (hn : As.length = n) (hsize : g.locals.size = nL) (hstack : g.stack = As.reverse ++ rest) (hW : 2 * g.monitorRoom + (rest.map fun v => v.category).sum ≤ 8) (hdg : decode cc g.pc = .ok (.invokestatic index, 3)) (hf : cells + mc ≤ R.cells ∧ slots + ms ≤ R.slots) :
    vx_Run p l e R s m args below meth c H locs cells slots mc ms g rest (Qc As.toArray) XC free := by
  obtain ⟨⟨hrc, hrs, hfr, hlo, hws, hcw⟩, hcode, hini, hy, hlen, hl, hstt⟩ := cw
  have hK : vx_Back l R p e below s args y 3 8 (PreOf R mc ms Pc) (PostOf Qc mc ms free) (vx_Post XC mc ms free) := vx_backW (hh := hh) (bytes := bytes) (maxL := maxL) (ret := ret) hM hp.1 hrc hrs hfr hlo hws hcw (fun a' U hW => word_at hW (Or.inl (by first | rfl | simp [Cond.onTables, Cond.keeps, Cond.steady])) hini)
  obtain ⟨hx, hb, hml, ho, -⟩ := S
  intro T hT X
  rcases vx_callSX X hx (hh := hh) (bytes := bytes) (maxL := maxL) (ret := ret) ho hl hstt hini hcode hy hK hg (hsize.trans hml.symm) (argsL := As) (rest := rest) (fun sig h => hn.trans (hlen sig h)) hstack hW (by rw [hb]; exact hdg)
    (fun vm₁ hW₁ => ⟨hf.1, hf.2, hp.2 (T.setVm vm₁) hT hW₁⟩) with ⟨v, vm₁, ⟨U', l2, c2, s2⟩, hW₁, X', ⟨g', mk, t, L, e1, e2, hq, h1, hL, h2, h3⟩, st⟩ | ⟨q, vm₁, ⟨U', l2, c2, s2⟩, hW₁, X', ⟨g', mk, t, L, E, ce, e1, e2, hq, hce, hcv, hcl, h1, hL, h2, h3⟩, st⟩
  · dsimp only [Pt.U, Pt.locs, Pt.cells, Pt.slots] at X' e1 e2 h1 h2 h3 st
    subst h1; subst h2; subst h3
    exact Or.inl ⟨v, (T.setVm vm₁).calling g' mk As.toArray, t, U', L, hT, X', hL, e1, e2, hq, st⟩
  · dsimp only [Pt.U, Pt.locs, Pt.cells, Pt.slots] at X' e1 e2 h1 h2 h3 st hcl
    subst h1; subst h2; subst h3
    exact Or.inr ⟨q, (T.setVm vm₁).calling g' mk As.toArray, t, U', L, E, ce, hT, X', hL, e1, e2, hq, hce, hcv, vx_cls hW₁ hcl, st⟩
end
end VXH
theorem vx_ofWH {l : Launch} {y : MethodName} {ws ws' : List Cond} {rm : Room} {Pc : Array Value → State → Prop} {Qc : Array Value → State → Outcome → State → Prop} {XC : String → State → State → Prop} {mc ms : Nat} {free : Addr → Prop} {cc : ByteArray} {maxL : Nat} {ret : Option FieldType} {hh : List (Nat × Nat × Nat × Nat)}
    (hy : plainName y.cls = true) (hw : ws = Cond.codeWith y cc maxL ret hh :: ws')
    (body : ∀ p e s m args below meth c s₁, BodyLoose p l y (headSpec ws rm) cc maxL ret e s m args below meth c s₁ → c.maxLocals = maxL → Pc args s →
      W p l e (headSpec ws rm).room s m args below meth c s.heap [] 0 0 (vx_MQ below Qc XC args s mc ms free) (entryFrame m args maxL)) : vx_Met l y ws rm Pc Qc XC mc ms free := by
  refine MetFree.of_bodyS (code := cc) (maxLocals := maxL) (ret := ret) hy ?_ ?_
  · intro args s m h hn
    obtain ⟨m9, meth, c, hn9, h1, h2, h3, h4, -, h5, h6, -⟩ := Cond.codeWith_spec (atoms_spec (ws := ws) h _ (by rw [hw]; exact List.mem_cons_self))
    cases hn.symm.trans hn9
    exact ⟨meth, c, h1, h2, h3, h4, h5, h6⟩
  · intro p e s m args below meth c s₁ B hml hP _
    have hh0 : s₁.heap = s.heap := by rw [B.state]; rfl
    obtain ⟨t, a1, o, b1, b2, b3⟩ := body p e s m args below meth c s₁ B hml hP s₁ hh0 (Stand.of_body B)
    exact ⟨t, o, a1, b1, b2, b3⟩
/-! ===== END ===== -/
end
section
def RX0 : String := "AlmsKernel"
def TX0 : u_T := fun k => match k with
  | 0 => ("AlmsKernel", "wages", "[I", true)
  | 1 => ("AlmsKernel", "purses", "[I", true)
  | 2 => ("AlmsKernel", "states", "[I", true)
  | 3 => ("AlmsKernel", "faultCounts", "[I", true)
  | 4 => ("AlmsKernel", "owners", "[I", true)
  | 5 => ("AlmsKernel", "holders", "[I", true)
  | 6 => ("AlmsKernel", "pages", "[I", true)
  | 7 => ("AlmsKernel", "there", "[Z", true)
  | 8 => ("AlmsKernel", "touchTicks", "[I", true)
  | 9 => ("AlmsKernel", "loanFrames", "[I", true)
  | 10 => ("AlmsKernel", "lenders", "[I", true)
  | 11 => ("AlmsKernel", "borrowers", "[I", true)
  | 12 => ("AlmsKernel", "lasting", "[Z", true)
  | 13 => ("AlmsKernel", "interests", "[I", true)
  | 14 => ("AlmsKernel", "loanCount", "I", false)
  | 15 => ("AlmsKernel", "rate", "I", false)
  | 16 => ("AlmsKernel", "now", "I", false)
  | 17 => ("AlmsKernel", "headTrack", "I", false)
  | _ => ("AlmsKernel", "chosenFrame", "I", false)
def tyX0 : Nat → FieldType := fun k => match k with
  | 0 => .array .int
  | 1 => .array .int
  | 2 => .array .int
  | 3 => .array .int
  | 4 => .array .int
  | 5 => .array .int
  | 6 => .array .int
  | 7 => .array .boolean
  | 8 => .array .int
  | 9 => .array .int
  | 10 => .array .int
  | 11 => .array .int
  | 12 => .array .boolean
  | 13 => .array .int
  | 14 => .int
  | 15 => .int
  | 16 => .int
  | 17 => .int
  | _ => .int
abbrev wsX00 : List Cond := u_ws RX0 TX0 19
theorem nmX0 : ∀ a, a < 19 → ∀ b, b < 19 → a ≠ b → (TX0 a).2.1 ≠ (TX0 b).2.1 := by decide +kernel
theorem tyX0_ok : ∀ k, k < 19 → parseFieldDescriptor (TX0 k).2.2.1 = some (tyX0 k) := by decide +kernel
abbrev cX0_init : ByteArray := prog_1_method_1_code
def yX0_init : MethodName := ⟨RX0, "<init>", "()V"⟩
abbrev cX0_setWage : ByteArray := prog_1_method_2_code
def yX0_setWage : MethodName := ⟨RX0, "setWage", "(II)I"⟩
abbrev cX0_setRate : ByteArray := prog_1_method_3_code
def yX0_setRate : MethodName := ⟨RX0, "setRate", "(I)I"⟩
abbrev cX0_buy : ByteArray := prog_1_method_4_code
def yX0_buy : MethodName := ⟨RX0, "buy", "(I)I"⟩
abbrev cX0_sell : ByteArray := prog_1_method_5_code
def yX0_sell : MethodName := ⟨RX0, "sell", "(I)I"⟩
abbrev cX0_drop : ByteArray := prog_1_method_6_code
def yX0_drop : MethodName := ⟨RX0, "drop", "(I)I"⟩
abbrev cX0_touch : ByteArray := prog_1_method_7_code
def yX0_touch : MethodName := ⟨RX0, "touch", "(II)I"⟩
abbrev cX0_payBack : ByteArray := prog_1_method_8_code
def yX0_payBack : MethodName := ⟨RX0, "payBack", "(I)I"⟩
abbrev cX0_advance : ByteArray := prog_1_method_9_code
def yX0_advance : MethodName := ⟨RX0, "advance", "(I)I"⟩
abbrev cX0_tick : ByteArray := prog_1_method_10_code
def yX0_tick : MethodName := ⟨RX0, "tick", "()I"⟩
abbrev cX0_owner : ByteArray := prog_1_method_11_code
def yX0_owner : MethodName := ⟨RX0, "owner", "(I)I"⟩
abbrev cX0_holder : ByteArray := prog_1_method_12_code
def yX0_holder : MethodName := ⟨RX0, "holder", "(I)I"⟩
abbrev cX0_holderByLog : ByteArray := prog_1_method_13_code
def yX0_holderByLog : MethodName := ⟨RX0, "holderByLog", "(I)I"⟩
abbrev cX0_pageIn : ByteArray := prog_1_method_14_code
def yX0_pageIn : MethodName := ⟨RX0, "pageIn", "(I)I"⟩
abbrev cX0_age : ByteArray := prog_1_method_15_code
def yX0_age : MethodName := ⟨RX0, "age", "(I)I"⟩
abbrev cX0_free : ByteArray := prog_1_method_16_code
def yX0_free : MethodName := ⟨RX0, "free", "()I"⟩
abbrev cX0_owns : ByteArray := prog_1_method_17_code
def yX0_owns : MethodName := ⟨RX0, "owns", "(I)I"⟩
abbrev cX0_borrowed : ByteArray := prog_1_method_18_code
def yX0_borrowed : MethodName := ⟨RX0, "borrowed", "(I)I"⟩
abbrev cX0_lent : ByteArray := prog_1_method_19_code
def yX0_lent : MethodName := ⟨RX0, "lent", "(I)I"⟩
abbrev cX0_stateOf : ByteArray := prog_1_method_20_code
def yX0_stateOf : MethodName := ⟨RX0, "stateOf", "(I)I"⟩
abbrev cX0_purse : ByteArray := prog_1_method_21_code
def yX0_purse : MethodName := ⟨RX0, "purse", "(I)I"⟩
abbrev cX0_faults : ByteArray := prog_1_method_22_code
def yX0_faults : MethodName := ⟨RX0, "faults", "(I)I"⟩
abbrev cX0_loans : ByteArray := prog_1_method_23_code
def yX0_loans : MethodName := ⟨RX0, "loans", "()I"⟩
abbrev cX0_lasts : ByteArray := prog_1_method_24_code
def yX0_lasts : MethodName := ⟨RX0, "lasts", "(I)Z"⟩
abbrev cX0_partiesOf : ByteArray := prog_1_method_25_code
def yX0_partiesOf : MethodName := ⟨RX0, "partiesOf", "(I)I"⟩
abbrev cX0_interest : ByteArray := prog_1_method_26_code
def yX0_interest : MethodName := ⟨RX0, "interest", "(I)I"⟩
abbrev cX0_head : ByteArray := prog_1_method_27_code
def yX0_head : MethodName := ⟨RX0, "head", "()I"⟩
abbrev cX0_requests : ByteArray := prog_1_method_28_code
def yX0_requests : MethodName := ⟨RX0, "requests", "()I"⟩
abbrev cX0_requestAt : ByteArray := prog_1_method_29_code
def yX0_requestAt : MethodName := ⟨RX0, "requestAt", "(I)I"⟩
abbrev cX0_isProcess : ByteArray := prog_1_method_30_code
def yX0_isProcess : MethodName := ⟨RX0, "isProcess", "(I)Z"⟩
abbrev cX0_isPage : ByteArray := prog_1_method_31_code
def yX0_isPage : MethodName := ⟨RX0, "isPage", "(I)Z"⟩
abbrev cX0_isFrame : ByteArray := prog_1_method_32_code
def yX0_isFrame : MethodName := ⟨RX0, "isFrame", "(I)Z"⟩
abbrev cX0_isLoan : ByteArray := prog_1_method_33_code
def yX0_isLoan : MethodName := ⟨RX0, "isLoan", "(I)Z"⟩
abbrev cX0_isComing : ByteArray := prog_1_method_34_code
def yX0_isComing : MethodName := ⟨RX0, "isComing", "(I)Z"⟩
abbrev cX0_ageOf : ByteArray := prog_1_method_35_code
def yX0_ageOf : MethodName := ⟨RX0, "ageOf", "(I)I"⟩
abbrev cX0_dropPage : ByteArray := prog_1_method_36_code
def yX0_dropPage : MethodName := ⟨RX0, "dropPage", "(I)V"⟩
abbrev cX0_lowestEmptyFrame : ByteArray := prog_1_method_37_code
def yX0_lowestEmptyFrame : MethodName := ⟨RX0, "lowestEmptyFrame", "(I)I"⟩
abbrev cX0_frameWithPage : ByteArray := prog_1_method_38_code
def yX0_frameWithPage : MethodName := ⟨RX0, "frameWithPage", "(II)I"⟩
abbrev cX0_oldestFrame : ByteArray := prog_1_method_39_code
def yX0_oldestFrame : MethodName := ⟨RX0, "oldestFrame", "(I)I"⟩
abbrev cX0_frameForFault : ByteArray := prog_1_method_40_code
def yX0_frameForFault : MethodName := ⟨RX0, "frameForFault", "(I)I"⟩
abbrev cX0_callIn : ByteArray := prog_1_method_41_code
def yX0_callIn : MethodName := ⟨RX0, "callIn", "(I)I"⟩
abbrev cX0_borrow : ByteArray := prog_1_method_42_code
def yX0_borrow : MethodName := ⟨RX0, "borrow", "(I)I"⟩
abbrev cX0_richestLender : ByteArray := prog_1_method_43_code
def yX0_richestLender : MethodName := ⟨RX0, "richestLender", "(I)I"⟩
abbrev cX0_frameToLend : ByteArray := prog_1_method_44_code
def yX0_frameToLend : MethodName := ⟨RX0, "frameToLend", "(I)I"⟩
abbrev cX0_countBorrowed : ByteArray := prog_1_method_45_code
def yX0_countBorrowed : MethodName := ⟨RX0, "countBorrowed", "(I)I"⟩
abbrev cX0_endLoan : ByteArray := prog_1_method_46_code
def yX0_endLoan : MethodName := ⟨RX0, "endLoan", "(I)V"⟩
abbrev cX0_passTick : ByteArray := prog_1_method_47_code
def yX0_passTick : MethodName := ⟨RX0, "passTick", "()V"⟩
abbrev cX0_payWages : ByteArray := prog_1_method_48_code
def yX0_payWages : MethodName := ⟨RX0, "payWages", "()V"⟩
abbrev cX0_chargeLoans : ByteArray := prog_1_method_49_code
def yX0_chargeLoans : MethodName := ⟨RX0, "chargeLoans", "()V"⟩
abbrev cX0_charge : ByteArray := prog_1_method_50_code
def yX0_charge : MethodName := ⟨RX0, "charge", "(I)V"⟩
abbrev cX0_putToSleep : ByteArray := prog_1_method_51_code
def yX0_putToSleep : MethodName := ⟨RX0, "putToSleep", "(I)V"⟩
abbrev cX0_giveAlms : ByteArray := prog_1_method_52_code
def yX0_giveAlms : MethodName := ⟨RX0, "giveAlms", "()V"⟩
abbrev cX0_richestGiver : ByteArray := prog_1_method_53_code
def yX0_richestGiver : MethodName := ⟨RX0, "richestGiver", "()I"⟩
abbrev cX0_trackOf : ByteArray := prog_1_method_54_code
def yX0_trackOf : MethodName := ⟨RX0, "trackOf", "(I)I"⟩
abbrev cX0_isRequested : ByteArray := prog_1_method_55_code
def yX0_isRequested : MethodName := ⟨RX0, "isRequested", "(I)Z"⟩
abbrev cX0_moveDisk : ByteArray := prog_1_method_56_code
def yX0_moveDisk : MethodName := ⟨RX0, "moveDisk", "()V"⟩
abbrev cX0_nearestRequest : ByteArray := prog_1_method_57_code
def yX0_nearestRequest : MethodName := ⟨RX0, "nearestRequest", "()I"⟩
abbrev cX0_finishRequest : ByteArray := prog_1_method_58_code
def yX0_finishRequest : MethodName := ⟨RX0, "finishRequest", "(I)V"⟩
def RX1 : String := "AlmsKernelModel"
def TX1 : u_T := fun k => match k with
  | _ => ("", "", "", false)
def tyX1 : Nat → FieldType := fun k => match k with
  | _ => .int
abbrev wsX10 : List Cond := u_ws RX1 TX1 0
theorem nmX1 : ∀ a, a < 0 → ∀ b, b < 0 → a ≠ b → (TX1 a).2.1 ≠ (TX1 b).2.1 := by decide +kernel
theorem tyX1_ok : ∀ k, k < 0 → parseFieldDescriptor (TX1 k).2.2.1 = some (tyX1 k) := by decide +kernel
def RJx145de : String := "java/io/Serializable"
def TJx145de : u_T := fun k => match k with
  | _ => ("", "", "", false)
def tyJx145de : Nat → FieldType := fun k => match k with
  | _ => .int
abbrev wsJx145de0 : List Cond := u_ws RJx145de TJx145de 0
theorem nmJx145de : ∀ a, a < 0 → ∀ b, b < 0 → a ≠ b → (TJx145de a).2.1 ≠ (TJx145de b).2.1 := by decide +kernel
theorem tyJx145de_ok : ∀ k, k < 0 → parseFieldDescriptor (TJx145de k).2.2.1 = some (tyJx145de k) := by decide +kernel
def RJ9 : String := "java/lang/Math"
def TJ9 : u_T := fun k => match k with
  | _ => ("", "", "", false)
def tyJ9 : Nat → FieldType := fun k => match k with
  | _ => .int
abbrev wsJ90 : List Cond := u_ws RJ9 TJ9 0
theorem nmJ9 : ∀ a, a < 0 → ∀ b, b < 0 → a ≠ b → (TJ9 a).2.1 ≠ (TJ9 b).2.1 := by decide +kernel
theorem tyJ9_ok : ∀ k, k < 0 → parseFieldDescriptor (TJ9 k).2.2.1 = some (tyJ9 k) := by decide +kernel
abbrev cJ9_abs_0f7a4 : ByteArray := prog_8_method_59_code
def yJ9_abs_0f7a4 : MethodName := ⟨RJ9, "abs", "(I)I"⟩
def RJ0 : String := "java/lang/String"
def TJ0 : u_T := fun k => match k with
  | _ => ("", "", "", false)
def tyJ0 : Nat → FieldType := fun k => match k with
  | _ => .int
abbrev wsJ00 : List Cond := u_ws RJ0 TJ0 0
theorem nmJ0 : ∀ a, a < 0 → ∀ b, b < 0 → a ≠ b → (TJ0 a).2.1 ≠ (TJ0 b).2.1 := by decide +kernel
theorem tyJ0_ok : ∀ k, k < 0 → parseFieldDescriptor (TJ0 k).2.2.1 = some (tyJ0 k) := by decide +kernel
def RJ7 : String := "java/util/Arrays"
def TJ7 : u_T := fun k => match k with
  | _ => ("", "", "", false)
def tyJ7 : Nat → FieldType := fun k => match k with
  | _ => .int
abbrev wsJ70 : List Cond := u_ws RJ7 TJ7 0
theorem nmJ7 : ∀ a, a < 0 → ∀ b, b < 0 → a ≠ b → (TJ7 a).2.1 ≠ (TJ7 b).2.1 := by decide +kernel
theorem tyJ7_ok : ∀ k, k < 0 → parseFieldDescriptor (TJ7 k).2.2.1 = some (tyJ7 k) := by decide +kernel
abbrev cJ7_fill_53178 : ByteArray := prog_12_method_103_code
def yJ7_fill_53178 : MethodName := ⟨RJ7, "fill", "([II)V"⟩
def RL : String := "AlmsKernelLaw"
abbrev cL_dice : ByteArray := method_2_code
def yL_dice : MethodName := ⟨RL, "dice", "([II)I"⟩
abbrev cL_act : ByteArray := method_3_code
def yL_act : MethodName := ⟨RL, "act", "(LAlmsKernel;III)I"⟩
abbrev cL_of : ByteArray := method_4_code
def yL_of : MethodName := ⟨RL, "of", "(LAlmsKernel;II)I"⟩
abbrev cL_all : ByteArray := method_5_code
def yL_all : MethodName := ⟨RL, "all", "(LAlmsKernel;)J"⟩
abbrev cL_keeps : ByteArray := method_6_code
def yL_keeps : MethodName := ⟨RL, "keeps", "(LAlmsKernel;[I)V"⟩
abbrev cL_coins : ByteArray := method_7_code
def yL_coins : MethodName := ⟨RL, "coins", "(LAlmsKernel;)I"⟩
abbrev cL_loanOf : ByteArray := method_8_code
def yL_loanOf : MethodName := ⟨RL, "loanOf", "(LAlmsKernel;I)I"⟩
abbrev cL_areFrames : ByteArray := method_9_code
def yL_areFrames : MethodName := ⟨RL, "areFrames", "(LAlmsKernel;)Z"⟩
abbrev cL_canLend : ByteArray := method_10_code
def yL_canLend : MethodName := ⟨RL, "canLend", "([III)Z"⟩
abbrev cL_isRight : ByteArray := method_11_code
def yL_isRight : MethodName := ⟨RL, "isRight", "(LAlmsKernel;[IIIIIII)Z"⟩
abbrev cL_isTouched : ByteArray := method_12_code
def yL_isTouched : MethodName := ⟨RL, "isTouched", "(LAlmsKernel;[IIII)Z"⟩
abbrev cL_isTicked : ByteArray := method_13_code
def yL_isTicked : MethodName := ⟨RL, "isTicked", "(LAlmsKernel;[I[II)Z"⟩
abbrev cL_isRefused : ByteArray := method_14_code
def yL_isRefused : MethodName := ⟨RL, "isRefused", "(LAlmsKernel;I)Z"⟩
abbrev cL_isTraded : ByteArray := method_15_code
def yL_isTraded : MethodName := ⟨RL, "isTraded", "(LAlmsKernel;IIZ)Z"⟩
abbrev cL_law : ByteArray := code
def yL_law : MethodName := ⟨RL, "law", "([I)Z"⟩
def wsJ7_fill_53178 : List Cond := .code yJ7_fill_53178 cJ7_fill_53178 4 none :: ([])
def wsX0_init_r1 : List Cond := [Cond.methodLink RX0 3 objectInit, Cond.instanceMethod objectInit, Cond.code objectInit ⟨#[0xb1]⟩ 1 none, Cond.arrayClass .int, Cond.fieldLink RX0 9 "AlmsKernel" "wages" "[I", Cond.fieldLink RX0 13 "AlmsKernel" "purses" "[I", Cond.fieldLink RX0 16 "AlmsKernel" "states" "[I", Cond.fieldLink RX0 19 "AlmsKernel" "faultCounts" "[I", Cond.fieldLink RX0 22 "AlmsKernel" "owners" "[I", Cond.fieldLink RX0 25 "AlmsKernel" "holders" "[I", Cond.fieldLink RX0 28 "AlmsKernel" "pages" "[I", Cond.arrayClass .boolean, Cond.fieldLink RX0 31 "AlmsKernel" "there" "[Z", Cond.fieldLink RX0 35 "AlmsKernel" "touchTicks" "[I", Cond.fieldLink RX0 38 "AlmsKernel" "loanFrames" "[I", Cond.fieldLink RX0 41 "AlmsKernel" "lenders" "[I", Cond.fieldLink RX0 44 "AlmsKernel" "borrowers" "[I", Cond.fieldLink RX0 47 "AlmsKernel" "lasting" "[Z", Cond.fieldLink RX0 50 "AlmsKernel" "interests" "[I", Cond.fieldLink RX0 53 "AlmsKernel" "loanCount" "I", Cond.fieldLink RX0 57 "AlmsKernel" "rate" "I", Cond.fieldLink RX0 60 "AlmsKernel" "now" "I", Cond.fieldLink RX0 63 "AlmsKernel" "headTrack" "I", Cond.fieldLink RX0 66 "AlmsKernel" "chosenFrame" "I"]
def wsX0_init_r2 : List Cond := [Cond.methodLink RX0 69 yJ7_fill_53178, Cond.static yJ7_fill_53178, Cond.initialized RJ7, Cond.code yJ7_fill_53178 cJ7_fill_53178 4 none]
def wsX0_init : List Cond := .code yX0_init cX0_init 1 none :: ((wsX0_init_r1 ++ wsX0_init_r2) ++ wsX00)
def wsX0_isProcess : List Cond := .code yX0_isProcess cX0_isProcess 1 (some .boolean) :: ([])
def wsX0_setWage : List Cond := .code yX0_setWage cX0_setWage 4 (some .int) :: ([.classLink RX0 79 "java/lang/IndexOutOfBoundsException", .initialized "java/lang/IndexOutOfBoundsException", .classLink RX0 86 "java/lang/IllegalArgumentException", .initialized "java/lang/IllegalArgumentException", .fieldLink RX0 9 "AlmsKernel" "wages" "[I", .methodLink RX0 75 yX0_isProcess, .static yX0_isProcess, .initialized RX0, .code yX0_isProcess cX0_isProcess 1 (some .boolean)] ++ wsX00 ++ (vx_atS RX0 83 "java/lang/IndexOutOfBoundsException" ["java/lang/RuntimeException", "java/lang/Exception"]).filter goodWord ++ (vx_atS RX0 90 "java/lang/IllegalArgumentException" ["java/lang/RuntimeException", "java/lang/Exception"]).filter goodWord)
def wsX0_setRate : List Cond := .code yX0_setRate cX0_setRate 3 (some .int) :: ([.classLink RX0 86 "java/lang/IllegalArgumentException", .initialized "java/lang/IllegalArgumentException", .fieldLink RX0 57 "AlmsKernel" "rate" "I"] ++ wsX00 ++ (vx_atS RX0 90 "java/lang/IllegalArgumentException" ["java/lang/RuntimeException", "java/lang/Exception"]).filter goodWord)
def wsX0_isFrame : List Cond := .code yX0_isFrame cX0_isFrame 1 (some .boolean) :: ([])
def wsX0_buy : List Cond := .code yX0_buy cX0_buy 3 (some .int) :: ([.classLink RX0 79 "java/lang/IndexOutOfBoundsException", .initialized "java/lang/IndexOutOfBoundsException", .classLink RX0 93 "java/lang/IllegalStateException", .initialized "java/lang/IllegalStateException", .fieldLink RX0 16 "AlmsKernel" "states" "[I", .fieldLink RX0 13 "AlmsKernel" "purses" "[I", .fieldLink RX0 22 "AlmsKernel" "owners" "[I", .fieldLink RX0 25 "AlmsKernel" "holders" "[I", .methodLink RX0 75 yX0_isProcess, .static yX0_isProcess, .initialized RX0, .code yX0_isProcess cX0_isProcess 1 (some .boolean), .methodLink RX0 98 yX0_lowestEmptyFrame, .instanceMethod yX0_lowestEmptyFrame, .selects RX0 yX0_lowestEmptyFrame yX0_lowestEmptyFrame, .code yX0_lowestEmptyFrame cX0_lowestEmptyFrame 3 (some .int), .fieldLink RX0 28 "AlmsKernel" "pages" "[I", .methodLink RX0 102 yX0_isFrame, .static yX0_isFrame, .code yX0_isFrame cX0_isFrame 1 (some .boolean)] ++ wsX00 ++ (vx_atS RX0 83 "java/lang/IndexOutOfBoundsException" ["java/lang/RuntimeException", "java/lang/Exception"]).filter goodWord ++ (vx_atS RX0 97 "java/lang/IllegalStateException" ["java/lang/RuntimeException", "java/lang/Exception"]).filter goodWord)
def wsX0_sell : List Cond := .code yX0_sell cX0_sell 3 (some .int) :: ([.classLink RX0 79 "java/lang/IndexOutOfBoundsException", .initialized "java/lang/IndexOutOfBoundsException", .classLink RX0 93 "java/lang/IllegalStateException", .initialized "java/lang/IllegalStateException", .fieldLink RX0 22 "AlmsKernel" "owners" "[I", .fieldLink RX0 25 "AlmsKernel" "holders" "[I", .fieldLink RX0 28 "AlmsKernel" "pages" "[I", .fieldLink RX0 16 "AlmsKernel" "states" "[I", .fieldLink RX0 13 "AlmsKernel" "purses" "[I", .methodLink RX0 102 yX0_isFrame, .static yX0_isFrame, .initialized RX0, .code yX0_isFrame cX0_isFrame 1 (some .boolean), .methodLink RX0 75 yX0_isProcess, .static yX0_isProcess, .code yX0_isProcess cX0_isProcess 1 (some .boolean)] ++ wsX00 ++ (vx_atS RX0 83 "java/lang/IndexOutOfBoundsException" ["java/lang/RuntimeException", "java/lang/Exception"]).filter goodWord ++ (vx_atS RX0 97 "java/lang/IllegalStateException" ["java/lang/RuntimeException", "java/lang/Exception"]).filter goodWord)
def wsX0_drop : List Cond := .code yX0_drop cX0_drop 3 (some .int) :: ([.classLink RX0 79 "java/lang/IndexOutOfBoundsException", .initialized "java/lang/IndexOutOfBoundsException", .classLink RX0 93 "java/lang/IllegalStateException", .initialized "java/lang/IllegalStateException", .fieldLink RX0 31 "AlmsKernel" "there" "[Z", .fieldLink RX0 28 "AlmsKernel" "pages" "[I", .methodLink RX0 102 yX0_isFrame, .static yX0_isFrame, .initialized RX0, .code yX0_isFrame cX0_isFrame 1 (some .boolean), .methodLink RX0 115 yX0_dropPage, .instanceMethod yX0_dropPage, .selects RX0 yX0_dropPage yX0_dropPage, .code yX0_dropPage cX0_dropPage 2 none, .fieldLink RX0 66 "AlmsKernel" "chosenFrame" "I"] ++ wsX00 ++ (vx_atS RX0 83 "java/lang/IndexOutOfBoundsException" ["java/lang/RuntimeException", "java/lang/Exception"]).filter goodWord ++ (vx_atS RX0 97 "java/lang/IllegalStateException" ["java/lang/RuntimeException", "java/lang/Exception"]).filter goodWord)
def wsX0_isPage : List Cond := .code yX0_isPage cX0_isPage 1 (some .boolean) :: ([])
def wsX0_isComing : List Cond := .code yX0_isComing cX0_isComing 2 (some .boolean) :: ([.fieldLink RX0 28 "AlmsKernel" "pages" "[I", .fieldLink RX0 31 "AlmsKernel" "there" "[Z", .methodLink RX0 102 yX0_isFrame, .static yX0_isFrame, .initialized RX0, .code yX0_isFrame cX0_isFrame 1 (some .boolean)] ++ wsX00)
def wsX0_countBorrowed : List Cond := .code yX0_countBorrowed cX0_countBorrowed 4 (some .int) :: ([.fieldLink RX0 25 "AlmsKernel" "holders" "[I", .fieldLink RX0 22 "AlmsKernel" "owners" "[I"] ++ wsX00)
def wsX0_ageOf : List Cond := .code yX0_ageOf cX0_ageOf 2 (some .int) :: ([.fieldLink RX0 31 "AlmsKernel" "there" "[Z", .fieldLink RX0 60 "AlmsKernel" "now" "I", .fieldLink RX0 35 "AlmsKernel" "touchTicks" "[I"] ++ wsX00)
def wsX0_touch_r1 : List Cond := [Cond.classLink RX0 79 "java/lang/IndexOutOfBoundsException", Cond.initialized "java/lang/IndexOutOfBoundsException", Cond.classLink RX0 93 "java/lang/IllegalStateException", Cond.initialized "java/lang/IllegalStateException", Cond.fieldLink RX0 16 "AlmsKernel" "states" "[I", Cond.fieldLink RX0 35 "AlmsKernel" "touchTicks" "[I", Cond.fieldLink RX0 60 "AlmsKernel" "now" "I", Cond.fieldLink RX0 28 "AlmsKernel" "pages" "[I", Cond.fieldLink RX0 31 "AlmsKernel" "there" "[Z", Cond.fieldLink RX0 19 "AlmsKernel" "faultCounts" "[I", Cond.methodLink RX0 75 yX0_isProcess, Cond.static yX0_isProcess, Cond.initialized RX0, Cond.code yX0_isProcess cX0_isProcess 1 (some .boolean), Cond.methodLink RX0 119 yX0_isPage, Cond.static yX0_isPage, Cond.code yX0_isPage cX0_isPage 1 (some .boolean), Cond.methodLink RX0 126 yX0_frameWithPage, Cond.instanceMethod yX0_frameWithPage, Cond.selects RX0 yX0_frameWithPage yX0_frameWithPage, Cond.code yX0_frameWithPage cX0_frameWithPage 4 (some .int), Cond.fieldLink RX0 25 "AlmsKernel" "holders" "[I", Cond.methodLink RX0 102 yX0_isFrame, Cond.static yX0_isFrame]
def wsX0_touch_r2 : List Cond := [Cond.code yX0_isFrame cX0_isFrame 1 (some .boolean), Cond.methodLink RX0 130 yX0_frameForFault, Cond.instanceMethod yX0_frameForFault, Cond.selects RX0 yX0_frameForFault yX0_frameForFault, Cond.code yX0_frameForFault cX0_frameForFault 3 (some .int), Cond.methodLink RX0 98 yX0_lowestEmptyFrame, Cond.instanceMethod yX0_lowestEmptyFrame, Cond.selects RX0 yX0_lowestEmptyFrame yX0_lowestEmptyFrame, Cond.code yX0_lowestEmptyFrame cX0_lowestEmptyFrame 3 (some .int), Cond.methodLink RX0 167 yX0_callIn, Cond.instanceMethod yX0_callIn, Cond.selects RX0 yX0_callIn yX0_callIn, Cond.code yX0_callIn cX0_callIn 3 (some .int), Cond.fieldLink RX0 53 "AlmsKernel" "loanCount" "I", Cond.fieldLink RX0 47 "AlmsKernel" "lasting" "[Z", Cond.fieldLink RX0 41 "AlmsKernel" "lenders" "[I", Cond.fieldLink RX0 38 "AlmsKernel" "loanFrames" "[I", Cond.methodLink RX0 140 yX0_isComing, Cond.instanceMethod yX0_isComing, Cond.selects RX0 yX0_isComing yX0_isComing, Cond.code yX0_isComing cX0_isComing 2 (some .boolean), Cond.methodLink RX0 145 yX0_endLoan, Cond.instanceMethod yX0_endLoan, Cond.selects RX0 yX0_endLoan yX0_endLoan]
def wsX0_touch_r3 : List Cond := [Cond.code yX0_endLoan cX0_endLoan 3 none, Cond.fieldLink RX0 22 "AlmsKernel" "owners" "[I", Cond.methodLink RX0 115 yX0_dropPage, Cond.instanceMethod yX0_dropPage, Cond.selects RX0 yX0_dropPage yX0_dropPage, Cond.code yX0_dropPage cX0_dropPage 2 none, Cond.fieldLink RX0 66 "AlmsKernel" "chosenFrame" "I", Cond.methodLink RX0 170 yX0_borrow, Cond.instanceMethod yX0_borrow, Cond.selects RX0 yX0_borrow yX0_borrow, Cond.code yX0_borrow cX0_borrow 4 (some .int), Cond.fieldLink RX0 13 "AlmsKernel" "purses" "[I", Cond.fieldLink RX0 57 "AlmsKernel" "rate" "I", Cond.fieldLink RX0 44 "AlmsKernel" "borrowers" "[I", Cond.methodLink RX0 159 yX0_countBorrowed, Cond.instanceMethod yX0_countBorrowed, Cond.selects RX0 yX0_countBorrowed yX0_countBorrowed, Cond.code yX0_countBorrowed cX0_countBorrowed 4 (some .int), Cond.methodLink RX0 176 yX0_richestLender, Cond.instanceMethod yX0_richestLender, Cond.selects RX0 yX0_richestLender yX0_richestLender, Cond.code yX0_richestLender cX0_richestLender 5 (some .int), Cond.methodLink RX0 179 yX0_frameToLend, Cond.instanceMethod yX0_frameToLend]
def wsX0_touch_r4 : List Cond := [Cond.selects RX0 yX0_frameToLend yX0_frameToLend, Cond.code yX0_frameToLend cX0_frameToLend 5 (some .int), Cond.methodLink RX0 156 yX0_ageOf, Cond.instanceMethod yX0_ageOf, Cond.selects RX0 yX0_ageOf yX0_ageOf, Cond.code yX0_ageOf cX0_ageOf 2 (some .int), Cond.methodLink RX0 173 yX0_oldestFrame, Cond.instanceMethod yX0_oldestFrame, Cond.selects RX0 yX0_oldestFrame yX0_oldestFrame, Cond.code yX0_oldestFrame cX0_oldestFrame 5 (some .int)]
def wsX0_touch : List Cond := .code yX0_touch cX0_touch 5 (some .int) :: ((wsX0_touch_r1 ++ (wsX0_touch_r2 ++ (wsX0_touch_r3 ++ wsX0_touch_r4))) ++ wsX00 ++ (vx_atS RX0 83 "java/lang/IndexOutOfBoundsException" ["java/lang/RuntimeException", "java/lang/Exception"]).filter goodWord ++ (vx_atS RX0 97 "java/lang/IllegalStateException" ["java/lang/RuntimeException", "java/lang/Exception"]).filter goodWord)
def wsX0_isLoan : List Cond := .code yX0_isLoan cX0_isLoan 2 (some .boolean) :: ([.fieldLink RX0 53 "AlmsKernel" "loanCount" "I"] ++ wsX00)
def wsX0_payBack_r1 : List Cond := [Cond.classLink RX0 79 "java/lang/IndexOutOfBoundsException", Cond.initialized "java/lang/IndexOutOfBoundsException", Cond.classLink RX0 93 "java/lang/IllegalStateException", Cond.initialized "java/lang/IllegalStateException", Cond.fieldLink RX0 47 "AlmsKernel" "lasting" "[Z", Cond.fieldLink RX0 38 "AlmsKernel" "loanFrames" "[I", Cond.fieldLink RX0 41 "AlmsKernel" "lenders" "[I", Cond.methodLink RX0 135 yX0_isLoan, Cond.instanceMethod yX0_isLoan, Cond.selects RX0 yX0_isLoan yX0_isLoan, Cond.initialized RX0, Cond.code yX0_isLoan cX0_isLoan 2 (some .boolean), Cond.fieldLink RX0 53 "AlmsKernel" "loanCount" "I", Cond.methodLink RX0 140 yX0_isComing, Cond.instanceMethod yX0_isComing, Cond.selects RX0 yX0_isComing yX0_isComing, Cond.code yX0_isComing cX0_isComing 2 (some .boolean), Cond.fieldLink RX0 28 "AlmsKernel" "pages" "[I", Cond.fieldLink RX0 31 "AlmsKernel" "there" "[Z", Cond.methodLink RX0 102 yX0_isFrame, Cond.static yX0_isFrame, Cond.code yX0_isFrame cX0_isFrame 1 (some .boolean), Cond.methodLink RX0 145 yX0_endLoan, Cond.instanceMethod yX0_endLoan]
def wsX0_payBack_r2 : List Cond := [Cond.selects RX0 yX0_endLoan yX0_endLoan, Cond.code yX0_endLoan cX0_endLoan 3 none, Cond.fieldLink RX0 25 "AlmsKernel" "holders" "[I", Cond.fieldLink RX0 22 "AlmsKernel" "owners" "[I", Cond.methodLink RX0 115 yX0_dropPage, Cond.instanceMethod yX0_dropPage, Cond.selects RX0 yX0_dropPage yX0_dropPage, Cond.code yX0_dropPage cX0_dropPage 2 none, Cond.fieldLink RX0 66 "AlmsKernel" "chosenFrame" "I"]
def wsX0_payBack : List Cond := .code yX0_payBack cX0_payBack 2 (some .int) :: ((wsX0_payBack_r1 ++ wsX0_payBack_r2) ++ wsX00 ++ (vx_atS RX0 83 "java/lang/IndexOutOfBoundsException" ["java/lang/RuntimeException", "java/lang/Exception"]).filter goodWord ++ (vx_atS RX0 97 "java/lang/IllegalStateException" ["java/lang/RuntimeException", "java/lang/Exception"]).filter goodWord)
def wsX0_advance_r1 : List Cond := [Cond.classLink RX0 86 "java/lang/IllegalArgumentException", Cond.initialized "java/lang/IllegalArgumentException", Cond.classLink RX0 93 "java/lang/IllegalStateException", Cond.initialized "java/lang/IllegalStateException", Cond.fieldLink RX0 60 "AlmsKernel" "now" "I", Cond.constant RX0 150 (50000), Cond.methodLink RX0 153 yX0_passTick, Cond.instanceMethod yX0_passTick, Cond.selects RX0 yX0_passTick yX0_passTick, Cond.initialized RX0, Cond.code yX0_passTick cX0_passTick 1 none, Cond.methodLink RX0 184 yX0_payWages, Cond.instanceMethod yX0_payWages, Cond.selects RX0 yX0_payWages yX0_payWages, Cond.code yX0_payWages cX0_payWages 2 none, Cond.fieldLink RX0 16 "AlmsKernel" "states" "[I", Cond.fieldLink RX0 13 "AlmsKernel" "purses" "[I", Cond.fieldLink RX0 9 "AlmsKernel" "wages" "[I", Cond.methodLink RX0 187 yX0_chargeLoans, Cond.instanceMethod yX0_chargeLoans, Cond.selects RX0 yX0_chargeLoans yX0_chargeLoans, Cond.code yX0_chargeLoans cX0_chargeLoans 2 none, Cond.fieldLink RX0 53 "AlmsKernel" "loanCount" "I", Cond.fieldLink RX0 47 "AlmsKernel" "lasting" "[Z"]
def wsX0_advance_r2 : List Cond := [Cond.methodLink RX0 196 yX0_charge, Cond.instanceMethod yX0_charge, Cond.selects RX0 yX0_charge yX0_charge, Cond.code yX0_charge cX0_charge 4 none, Cond.fieldLink RX0 44 "AlmsKernel" "borrowers" "[I", Cond.fieldLink RX0 41 "AlmsKernel" "lenders" "[I", Cond.fieldLink RX0 57 "AlmsKernel" "rate" "I", Cond.fieldLink RX0 50 "AlmsKernel" "interests" "[I", Cond.methodLink RX0 75 yX0_isProcess, Cond.static yX0_isProcess, Cond.code yX0_isProcess cX0_isProcess 1 (some .boolean), Cond.methodLink RX0 199 yX0_putToSleep, Cond.instanceMethod yX0_putToSleep, Cond.selects RX0 yX0_putToSleep yX0_putToSleep, Cond.code yX0_putToSleep cX0_putToSleep 3 none, Cond.fieldLink RX0 25 "AlmsKernel" "holders" "[I", Cond.methodLink RX0 140 yX0_isComing, Cond.instanceMethod yX0_isComing, Cond.selects RX0 yX0_isComing yX0_isComing, Cond.code yX0_isComing cX0_isComing 2 (some .boolean), Cond.fieldLink RX0 28 "AlmsKernel" "pages" "[I", Cond.fieldLink RX0 31 "AlmsKernel" "there" "[Z", Cond.methodLink RX0 102 yX0_isFrame, Cond.static yX0_isFrame]
def wsX0_advance_r3 : List Cond := [Cond.code yX0_isFrame cX0_isFrame 1 (some .boolean), Cond.methodLink RX0 115 yX0_dropPage, Cond.instanceMethod yX0_dropPage, Cond.selects RX0 yX0_dropPage yX0_dropPage, Cond.code yX0_dropPage cX0_dropPage 2 none, Cond.fieldLink RX0 66 "AlmsKernel" "chosenFrame" "I", Cond.methodLink RX0 145 yX0_endLoan, Cond.instanceMethod yX0_endLoan, Cond.selects RX0 yX0_endLoan yX0_endLoan, Cond.code yX0_endLoan cX0_endLoan 3 none, Cond.fieldLink RX0 38 "AlmsKernel" "loanFrames" "[I", Cond.fieldLink RX0 22 "AlmsKernel" "owners" "[I", Cond.methodLink RX0 190 yX0_giveAlms, Cond.instanceMethod yX0_giveAlms, Cond.selects RX0 yX0_giveAlms yX0_giveAlms, Cond.code yX0_giveAlms cX0_giveAlms 3 none, Cond.methodLink RX0 202 yX0_richestGiver, Cond.instanceMethod yX0_richestGiver, Cond.selects RX0 yX0_richestGiver yX0_richestGiver, Cond.code yX0_richestGiver cX0_richestGiver 4 (some .int), Cond.methodLink RX0 193 yX0_moveDisk, Cond.instanceMethod yX0_moveDisk, Cond.selects RX0 yX0_moveDisk yX0_moveDisk, Cond.code yX0_moveDisk cX0_moveDisk 2 none]
def wsX0_advance_r4 : List Cond := [Cond.fieldLink RX0 63 "AlmsKernel" "headTrack" "I", Cond.methodLink RX0 209 yX0_nearestRequest, Cond.instanceMethod yX0_nearestRequest, Cond.selects RX0 yX0_nearestRequest yX0_nearestRequest, Cond.code yX0_nearestRequest cX0_nearestRequest 7 (some .int), Cond.methodLink RX0 215 Lib.Math.abs.name, Cond.static Lib.Math.abs.name, Cond.initialized "java/lang/Math", Cond.code Lib.Math.abs.name Lib.Math.abs.code 1 (some .int), Cond.methodLink RX0 206 yX0_trackOf, Cond.instanceMethod yX0_trackOf, Cond.selects RX0 yX0_trackOf yX0_trackOf, Cond.code yX0_trackOf cX0_trackOf 2 (some .int), Cond.methodLink RX0 212 yX0_finishRequest, Cond.instanceMethod yX0_finishRequest, Cond.selects RX0 yX0_finishRequest yX0_finishRequest, Cond.code yX0_finishRequest cX0_finishRequest 3 none, Cond.fieldLink RX0 35 "AlmsKernel" "touchTicks" "[I"]
def wsX0_advance : List Cond := .code yX0_advance cX0_advance 3 (some .int) :: ((wsX0_advance_r1 ++ (wsX0_advance_r2 ++ (wsX0_advance_r3 ++ wsX0_advance_r4))) ++ wsX00 ++ (vx_atS RX0 90 "java/lang/IllegalArgumentException" ["java/lang/RuntimeException", "java/lang/Exception"]).filter goodWord ++ (vx_atS RX0 97 "java/lang/IllegalStateException" ["java/lang/RuntimeException", "java/lang/Exception"]).filter goodWord)
def wsX0_tick : List Cond := .code yX0_tick cX0_tick 1 (some .int) :: ([.fieldLink RX0 60 "AlmsKernel" "now" "I"] ++ wsX00)
def wsX0_owner : List Cond := .code yX0_owner cX0_owner 2 (some .int) :: ([.classLink RX0 79 "java/lang/IndexOutOfBoundsException", .initialized "java/lang/IndexOutOfBoundsException", .fieldLink RX0 22 "AlmsKernel" "owners" "[I", .methodLink RX0 102 yX0_isFrame, .static yX0_isFrame, .initialized RX0, .code yX0_isFrame cX0_isFrame 1 (some .boolean)] ++ wsX00 ++ (vx_atS RX0 83 "java/lang/IndexOutOfBoundsException" ["java/lang/RuntimeException", "java/lang/Exception"]).filter goodWord)
def wsX0_holder : List Cond := .code yX0_holder cX0_holder 2 (some .int) :: ([.classLink RX0 79 "java/lang/IndexOutOfBoundsException", .initialized "java/lang/IndexOutOfBoundsException", .fieldLink RX0 25 "AlmsKernel" "holders" "[I", .methodLink RX0 102 yX0_isFrame, .static yX0_isFrame, .initialized RX0, .code yX0_isFrame cX0_isFrame 1 (some .boolean)] ++ wsX00 ++ (vx_atS RX0 83 "java/lang/IndexOutOfBoundsException" ["java/lang/RuntimeException", "java/lang/Exception"]).filter goodWord)
def wsX0_holderByLog : List Cond := .code yX0_holderByLog cX0_holderByLog 3 (some .int) :: ([.classLink RX0 79 "java/lang/IndexOutOfBoundsException", .initialized "java/lang/IndexOutOfBoundsException", .fieldLink RX0 53 "AlmsKernel" "loanCount" "I", .fieldLink RX0 47 "AlmsKernel" "lasting" "[Z", .fieldLink RX0 38 "AlmsKernel" "loanFrames" "[I", .fieldLink RX0 44 "AlmsKernel" "borrowers" "[I", .fieldLink RX0 22 "AlmsKernel" "owners" "[I", .methodLink RX0 102 yX0_isFrame, .static yX0_isFrame, .initialized RX0, .code yX0_isFrame cX0_isFrame 1 (some .boolean)] ++ wsX00 ++ (vx_atS RX0 83 "java/lang/IndexOutOfBoundsException" ["java/lang/RuntimeException", "java/lang/Exception"]).filter goodWord)
def wsX0_pageIn : List Cond := .code yX0_pageIn cX0_pageIn 2 (some .int) :: ([.classLink RX0 79 "java/lang/IndexOutOfBoundsException", .initialized "java/lang/IndexOutOfBoundsException", .fieldLink RX0 28 "AlmsKernel" "pages" "[I", .methodLink RX0 102 yX0_isFrame, .static yX0_isFrame, .initialized RX0, .code yX0_isFrame cX0_isFrame 1 (some .boolean)] ++ wsX00 ++ (vx_atS RX0 83 "java/lang/IndexOutOfBoundsException" ["java/lang/RuntimeException", "java/lang/Exception"]).filter goodWord)
def wsX0_age : List Cond := .code yX0_age cX0_age 2 (some .int) :: ([.classLink RX0 79 "java/lang/IndexOutOfBoundsException", .initialized "java/lang/IndexOutOfBoundsException", .methodLink RX0 102 yX0_isFrame, .static yX0_isFrame, .initialized RX0, .code yX0_isFrame cX0_isFrame 1 (some .boolean), .methodLink RX0 156 yX0_ageOf, .instanceMethod yX0_ageOf, .selects RX0 yX0_ageOf yX0_ageOf, .code yX0_ageOf cX0_ageOf 2 (some .int), .fieldLink RX0 31 "AlmsKernel" "there" "[Z", .fieldLink RX0 60 "AlmsKernel" "now" "I", .fieldLink RX0 35 "AlmsKernel" "touchTicks" "[I"] ++ wsX00 ++ (vx_atS RX0 83 "java/lang/IndexOutOfBoundsException" ["java/lang/RuntimeException", "java/lang/Exception"]).filter goodWord)
def wsX0_free : List Cond := .code yX0_free cX0_free 3 (some .int) :: ([.fieldLink RX0 22 "AlmsKernel" "owners" "[I"] ++ wsX00)
def wsX0_owns : List Cond := .code yX0_owns cX0_owns 4 (some .int) :: ([.classLink RX0 79 "java/lang/IndexOutOfBoundsException", .initialized "java/lang/IndexOutOfBoundsException", .fieldLink RX0 22 "AlmsKernel" "owners" "[I", .methodLink RX0 75 yX0_isProcess, .static yX0_isProcess, .initialized RX0, .code yX0_isProcess cX0_isProcess 1 (some .boolean)] ++ wsX00 ++ (vx_atS RX0 83 "java/lang/IndexOutOfBoundsException" ["java/lang/RuntimeException", "java/lang/Exception"]).filter goodWord)
def wsX0_borrowed : List Cond := .code yX0_borrowed cX0_borrowed 2 (some .int) :: ([.classLink RX0 79 "java/lang/IndexOutOfBoundsException", .initialized "java/lang/IndexOutOfBoundsException", .methodLink RX0 75 yX0_isProcess, .static yX0_isProcess, .initialized RX0, .code yX0_isProcess cX0_isProcess 1 (some .boolean), .methodLink RX0 159 yX0_countBorrowed, .instanceMethod yX0_countBorrowed, .selects RX0 yX0_countBorrowed yX0_countBorrowed, .code yX0_countBorrowed cX0_countBorrowed 4 (some .int), .fieldLink RX0 25 "AlmsKernel" "holders" "[I", .fieldLink RX0 22 "AlmsKernel" "owners" "[I"] ++ wsX00 ++ (vx_atS RX0 83 "java/lang/IndexOutOfBoundsException" ["java/lang/RuntimeException", "java/lang/Exception"]).filter goodWord)
def wsX0_lent : List Cond := .code yX0_lent cX0_lent 4 (some .int) :: ([.classLink RX0 79 "java/lang/IndexOutOfBoundsException", .initialized "java/lang/IndexOutOfBoundsException", .fieldLink RX0 22 "AlmsKernel" "owners" "[I", .fieldLink RX0 25 "AlmsKernel" "holders" "[I", .methodLink RX0 75 yX0_isProcess, .static yX0_isProcess, .initialized RX0, .code yX0_isProcess cX0_isProcess 1 (some .boolean)] ++ wsX00 ++ (vx_atS RX0 83 "java/lang/IndexOutOfBoundsException" ["java/lang/RuntimeException", "java/lang/Exception"]).filter goodWord)
def wsX0_stateOf : List Cond := .code yX0_stateOf cX0_stateOf 2 (some .int) :: ([.classLink RX0 79 "java/lang/IndexOutOfBoundsException", .initialized "java/lang/IndexOutOfBoundsException", .fieldLink RX0 16 "AlmsKernel" "states" "[I", .methodLink RX0 75 yX0_isProcess, .static yX0_isProcess, .initialized RX0, .code yX0_isProcess cX0_isProcess 1 (some .boolean)] ++ wsX00 ++ (vx_atS RX0 83 "java/lang/IndexOutOfBoundsException" ["java/lang/RuntimeException", "java/lang/Exception"]).filter goodWord)
def wsX0_purse : List Cond := .code yX0_purse cX0_purse 2 (some .int) :: ([.classLink RX0 79 "java/lang/IndexOutOfBoundsException", .initialized "java/lang/IndexOutOfBoundsException", .fieldLink RX0 13 "AlmsKernel" "purses" "[I", .methodLink RX0 75 yX0_isProcess, .static yX0_isProcess, .initialized RX0, .code yX0_isProcess cX0_isProcess 1 (some .boolean)] ++ wsX00 ++ (vx_atS RX0 83 "java/lang/IndexOutOfBoundsException" ["java/lang/RuntimeException", "java/lang/Exception"]).filter goodWord)
def wsX0_faults : List Cond := .code yX0_faults cX0_faults 2 (some .int) :: ([.classLink RX0 79 "java/lang/IndexOutOfBoundsException", .initialized "java/lang/IndexOutOfBoundsException", .fieldLink RX0 19 "AlmsKernel" "faultCounts" "[I", .methodLink RX0 75 yX0_isProcess, .static yX0_isProcess, .initialized RX0, .code yX0_isProcess cX0_isProcess 1 (some .boolean)] ++ wsX00 ++ (vx_atS RX0 83 "java/lang/IndexOutOfBoundsException" ["java/lang/RuntimeException", "java/lang/Exception"]).filter goodWord)
def wsX0_loans : List Cond := .code yX0_loans cX0_loans 1 (some .int) :: ([.fieldLink RX0 53 "AlmsKernel" "loanCount" "I"] ++ wsX00)
def wsX0_lasts : List Cond := .code yX0_lasts cX0_lasts 2 (some .boolean) :: ([.classLink RX0 79 "java/lang/IndexOutOfBoundsException", .initialized "java/lang/IndexOutOfBoundsException", .fieldLink RX0 47 "AlmsKernel" "lasting" "[Z", .methodLink RX0 135 yX0_isLoan, .instanceMethod yX0_isLoan, .selects RX0 yX0_isLoan yX0_isLoan, .initialized RX0, .code yX0_isLoan cX0_isLoan 2 (some .boolean), .fieldLink RX0 53 "AlmsKernel" "loanCount" "I"] ++ wsX00 ++ (vx_atS RX0 83 "java/lang/IndexOutOfBoundsException" ["java/lang/RuntimeException", "java/lang/Exception"]).filter goodWord)
def wsX0_partiesOf : List Cond := .code yX0_partiesOf cX0_partiesOf 2 (some .int) :: ([.classLink RX0 79 "java/lang/IndexOutOfBoundsException", .initialized "java/lang/IndexOutOfBoundsException", .fieldLink RX0 38 "AlmsKernel" "loanFrames" "[I", .fieldLink RX0 41 "AlmsKernel" "lenders" "[I", .fieldLink RX0 44 "AlmsKernel" "borrowers" "[I", .methodLink RX0 135 yX0_isLoan, .instanceMethod yX0_isLoan, .selects RX0 yX0_isLoan yX0_isLoan, .initialized RX0, .code yX0_isLoan cX0_isLoan 2 (some .boolean), .fieldLink RX0 53 "AlmsKernel" "loanCount" "I"] ++ wsX00 ++ (vx_atS RX0 83 "java/lang/IndexOutOfBoundsException" ["java/lang/RuntimeException", "java/lang/Exception"]).filter goodWord)
def wsX0_interest : List Cond := .code yX0_interest cX0_interest 2 (some .int) :: ([.classLink RX0 79 "java/lang/IndexOutOfBoundsException", .initialized "java/lang/IndexOutOfBoundsException", .fieldLink RX0 50 "AlmsKernel" "interests" "[I", .methodLink RX0 135 yX0_isLoan, .instanceMethod yX0_isLoan, .selects RX0 yX0_isLoan yX0_isLoan, .initialized RX0, .code yX0_isLoan cX0_isLoan 2 (some .boolean), .fieldLink RX0 53 "AlmsKernel" "loanCount" "I"] ++ wsX00 ++ (vx_atS RX0 83 "java/lang/IndexOutOfBoundsException" ["java/lang/RuntimeException", "java/lang/Exception"]).filter goodWord)
def wsX0_head : List Cond := .code yX0_head cX0_head 1 (some .int) :: ([.fieldLink RX0 63 "AlmsKernel" "headTrack" "I"] ++ wsX00)
def wsX0_requests : List Cond := .code yX0_requests cX0_requests 3 (some .int) :: ([.methodLink RX0 140 yX0_isComing, .instanceMethod yX0_isComing, .selects RX0 yX0_isComing yX0_isComing, .initialized RX0, .code yX0_isComing cX0_isComing 2 (some .boolean), .fieldLink RX0 28 "AlmsKernel" "pages" "[I", .fieldLink RX0 31 "AlmsKernel" "there" "[Z", .methodLink RX0 102 yX0_isFrame, .static yX0_isFrame, .code yX0_isFrame cX0_isFrame 1 (some .boolean)] ++ wsX00)
def wsX0_isRequested : List Cond := .code yX0_isRequested cX0_isRequested 3 (some .boolean) :: ([.methodLink RX0 140 yX0_isComing, .instanceMethod yX0_isComing, .selects RX0 yX0_isComing yX0_isComing, .initialized RX0, .code yX0_isComing cX0_isComing 2 (some .boolean), .fieldLink RX0 28 "AlmsKernel" "pages" "[I", .fieldLink RX0 31 "AlmsKernel" "there" "[Z", .methodLink RX0 102 yX0_isFrame, .static yX0_isFrame, .code yX0_isFrame cX0_isFrame 1 (some .boolean), .methodLink RX0 206 yX0_trackOf, .instanceMethod yX0_trackOf, .selects RX0 yX0_trackOf yX0_trackOf, .code yX0_trackOf cX0_trackOf 2 (some .int), .fieldLink RX0 25 "AlmsKernel" "holders" "[I"] ++ wsX00)
def wsX0_requestAt : List Cond := .code yX0_requestAt cX0_requestAt 4 (some .int) :: ([.classLink RX0 79 "java/lang/IndexOutOfBoundsException", .initialized "java/lang/IndexOutOfBoundsException", .methodLink RX0 164 yX0_isRequested, .instanceMethod yX0_isRequested, .selects RX0 yX0_isRequested yX0_isRequested, .initialized RX0, .code yX0_isRequested cX0_isRequested 3 (some .boolean), .methodLink RX0 140 yX0_isComing, .instanceMethod yX0_isComing, .selects RX0 yX0_isComing yX0_isComing, .code yX0_isComing cX0_isComing 2 (some .boolean), .fieldLink RX0 28 "AlmsKernel" "pages" "[I", .fieldLink RX0 31 "AlmsKernel" "there" "[Z", .methodLink RX0 102 yX0_isFrame, .static yX0_isFrame, .code yX0_isFrame cX0_isFrame 1 (some .boolean), .methodLink RX0 206 yX0_trackOf, .instanceMethod yX0_trackOf, .selects RX0 yX0_trackOf yX0_trackOf, .code yX0_trackOf cX0_trackOf 2 (some .int), .fieldLink RX0 25 "AlmsKernel" "holders" "[I"] ++ wsX00 ++ (vx_atS RX0 83 "java/lang/IndexOutOfBoundsException" ["java/lang/RuntimeException", "java/lang/Exception"]).filter goodWord)
def wsJ9_abs_0f7a4 : List Cond := .code yJ9_abs_0f7a4 cJ9_abs_0f7a4 1 (some .int) :: ([])
def wsL_dice : List Cond := .code yL_dice cL_dice 2 (some .int) :: ([.constant RL 7 (1359893119), .constant RL 8 (2147483647)])
def wsL_act_r1 : List Cond := [Cond.classLink RL 37 "java/lang/IndexOutOfBoundsException", Cond.classLink RL 39 "java/lang/IllegalArgumentException", Cond.classLink RL 41 "java/lang/IllegalStateException", Cond.methodLink RL 9 yX0_setWage, Cond.instanceMethod yX0_setWage, Cond.selects RX0 yX0_setWage yX0_setWage, Cond.initialized RX0, Cond.code yX0_setWage cX0_setWage 4 (some .int), Cond.classLink RX0 79 "java/lang/IndexOutOfBoundsException", Cond.initialized "java/lang/IndexOutOfBoundsException", Cond.classLink RX0 86 "java/lang/IllegalArgumentException", Cond.initialized "java/lang/IllegalArgumentException", Cond.fieldLink RX0 9 "AlmsKernel" "wages" "[I", Cond.methodLink RX0 75 yX0_isProcess, Cond.static yX0_isProcess, Cond.code yX0_isProcess cX0_isProcess 1 (some .boolean), Cond.methodLink RL 15 yX0_setRate, Cond.instanceMethod yX0_setRate, Cond.selects RX0 yX0_setRate yX0_setRate, Cond.code yX0_setRate cX0_setRate 3 (some .int), Cond.fieldLink RX0 57 "AlmsKernel" "rate" "I", Cond.methodLink RL 19 yX0_buy, Cond.instanceMethod yX0_buy, Cond.selects RX0 yX0_buy yX0_buy]
def wsL_act_r2 : List Cond := [Cond.code yX0_buy cX0_buy 3 (some .int), Cond.classLink RX0 93 "java/lang/IllegalStateException", Cond.initialized "java/lang/IllegalStateException", Cond.fieldLink RX0 16 "AlmsKernel" "states" "[I", Cond.fieldLink RX0 13 "AlmsKernel" "purses" "[I", Cond.fieldLink RX0 22 "AlmsKernel" "owners" "[I", Cond.fieldLink RX0 25 "AlmsKernel" "holders" "[I", Cond.methodLink RX0 98 yX0_lowestEmptyFrame, Cond.instanceMethod yX0_lowestEmptyFrame, Cond.selects RX0 yX0_lowestEmptyFrame yX0_lowestEmptyFrame, Cond.code yX0_lowestEmptyFrame cX0_lowestEmptyFrame 3 (some .int), Cond.fieldLink RX0 28 "AlmsKernel" "pages" "[I", Cond.methodLink RX0 102 yX0_isFrame, Cond.static yX0_isFrame, Cond.code yX0_isFrame cX0_isFrame 1 (some .boolean), Cond.methodLink RL 22 yX0_sell, Cond.instanceMethod yX0_sell, Cond.selects RX0 yX0_sell yX0_sell, Cond.code yX0_sell cX0_sell 3 (some .int), Cond.methodLink RL 25 yX0_drop, Cond.instanceMethod yX0_drop, Cond.selects RX0 yX0_drop yX0_drop, Cond.code yX0_drop cX0_drop 3 (some .int), Cond.fieldLink RX0 31 "AlmsKernel" "there" "[Z"]
def wsL_act_r3 : List Cond := [Cond.methodLink RX0 115 yX0_dropPage, Cond.instanceMethod yX0_dropPage, Cond.selects RX0 yX0_dropPage yX0_dropPage, Cond.code yX0_dropPage cX0_dropPage 2 none, Cond.fieldLink RX0 66 "AlmsKernel" "chosenFrame" "I", Cond.methodLink RL 28 yX0_touch, Cond.instanceMethod yX0_touch, Cond.selects RX0 yX0_touch yX0_touch, Cond.code yX0_touch cX0_touch 5 (some .int), Cond.fieldLink RX0 35 "AlmsKernel" "touchTicks" "[I", Cond.fieldLink RX0 60 "AlmsKernel" "now" "I", Cond.fieldLink RX0 19 "AlmsKernel" "faultCounts" "[I", Cond.methodLink RX0 119 yX0_isPage, Cond.static yX0_isPage, Cond.code yX0_isPage cX0_isPage 1 (some .boolean), Cond.methodLink RX0 126 yX0_frameWithPage, Cond.instanceMethod yX0_frameWithPage, Cond.selects RX0 yX0_frameWithPage yX0_frameWithPage, Cond.code yX0_frameWithPage cX0_frameWithPage 4 (some .int), Cond.methodLink RX0 130 yX0_frameForFault, Cond.instanceMethod yX0_frameForFault, Cond.selects RX0 yX0_frameForFault yX0_frameForFault, Cond.code yX0_frameForFault cX0_frameForFault 3 (some .int), Cond.methodLink RX0 167 yX0_callIn]
def wsL_act_r4 : List Cond := [Cond.instanceMethod yX0_callIn, Cond.selects RX0 yX0_callIn yX0_callIn, Cond.code yX0_callIn cX0_callIn 3 (some .int), Cond.fieldLink RX0 53 "AlmsKernel" "loanCount" "I", Cond.fieldLink RX0 47 "AlmsKernel" "lasting" "[Z", Cond.fieldLink RX0 41 "AlmsKernel" "lenders" "[I", Cond.fieldLink RX0 38 "AlmsKernel" "loanFrames" "[I", Cond.methodLink RX0 140 yX0_isComing, Cond.instanceMethod yX0_isComing, Cond.selects RX0 yX0_isComing yX0_isComing, Cond.code yX0_isComing cX0_isComing 2 (some .boolean), Cond.methodLink RX0 145 yX0_endLoan, Cond.instanceMethod yX0_endLoan, Cond.selects RX0 yX0_endLoan yX0_endLoan, Cond.code yX0_endLoan cX0_endLoan 3 none, Cond.methodLink RX0 170 yX0_borrow, Cond.instanceMethod yX0_borrow, Cond.selects RX0 yX0_borrow yX0_borrow, Cond.code yX0_borrow cX0_borrow 4 (some .int), Cond.fieldLink RX0 44 "AlmsKernel" "borrowers" "[I", Cond.methodLink RX0 159 yX0_countBorrowed, Cond.instanceMethod yX0_countBorrowed, Cond.selects RX0 yX0_countBorrowed yX0_countBorrowed, Cond.code yX0_countBorrowed cX0_countBorrowed 4 (some .int)]
def wsL_act_r5 : List Cond := [Cond.methodLink RX0 176 yX0_richestLender, Cond.instanceMethod yX0_richestLender, Cond.selects RX0 yX0_richestLender yX0_richestLender, Cond.code yX0_richestLender cX0_richestLender 5 (some .int), Cond.methodLink RX0 179 yX0_frameToLend, Cond.instanceMethod yX0_frameToLend, Cond.selects RX0 yX0_frameToLend yX0_frameToLend, Cond.code yX0_frameToLend cX0_frameToLend 5 (some .int), Cond.methodLink RX0 156 yX0_ageOf, Cond.instanceMethod yX0_ageOf, Cond.selects RX0 yX0_ageOf yX0_ageOf, Cond.code yX0_ageOf cX0_ageOf 2 (some .int), Cond.methodLink RX0 173 yX0_oldestFrame, Cond.instanceMethod yX0_oldestFrame, Cond.selects RX0 yX0_oldestFrame yX0_oldestFrame, Cond.code yX0_oldestFrame cX0_oldestFrame 5 (some .int), Cond.methodLink RL 31 yX0_payBack, Cond.instanceMethod yX0_payBack, Cond.selects RX0 yX0_payBack yX0_payBack, Cond.code yX0_payBack cX0_payBack 2 (some .int), Cond.methodLink RX0 135 yX0_isLoan, Cond.instanceMethod yX0_isLoan, Cond.selects RX0 yX0_isLoan yX0_isLoan, Cond.code yX0_isLoan cX0_isLoan 2 (some .boolean)]
def wsL_act_r6 : List Cond := [Cond.methodLink RL 34 yX0_advance, Cond.instanceMethod yX0_advance, Cond.selects RX0 yX0_advance yX0_advance, Cond.code yX0_advance cX0_advance 3 (some .int), Cond.constant RX0 150 (50000), Cond.methodLink RX0 153 yX0_passTick, Cond.instanceMethod yX0_passTick, Cond.selects RX0 yX0_passTick yX0_passTick, Cond.code yX0_passTick cX0_passTick 1 none, Cond.methodLink RX0 184 yX0_payWages, Cond.instanceMethod yX0_payWages, Cond.selects RX0 yX0_payWages yX0_payWages, Cond.code yX0_payWages cX0_payWages 2 none, Cond.methodLink RX0 187 yX0_chargeLoans, Cond.instanceMethod yX0_chargeLoans, Cond.selects RX0 yX0_chargeLoans yX0_chargeLoans, Cond.code yX0_chargeLoans cX0_chargeLoans 2 none, Cond.methodLink RX0 196 yX0_charge, Cond.instanceMethod yX0_charge, Cond.selects RX0 yX0_charge yX0_charge, Cond.code yX0_charge cX0_charge 4 none, Cond.fieldLink RX0 50 "AlmsKernel" "interests" "[I", Cond.methodLink RX0 199 yX0_putToSleep, Cond.instanceMethod yX0_putToSleep]
def wsL_act_r7 : List Cond := [Cond.selects RX0 yX0_putToSleep yX0_putToSleep, Cond.code yX0_putToSleep cX0_putToSleep 3 none, Cond.methodLink RX0 190 yX0_giveAlms, Cond.instanceMethod yX0_giveAlms, Cond.selects RX0 yX0_giveAlms yX0_giveAlms, Cond.code yX0_giveAlms cX0_giveAlms 3 none, Cond.methodLink RX0 202 yX0_richestGiver, Cond.instanceMethod yX0_richestGiver, Cond.selects RX0 yX0_richestGiver yX0_richestGiver, Cond.code yX0_richestGiver cX0_richestGiver 4 (some .int), Cond.methodLink RX0 193 yX0_moveDisk, Cond.instanceMethod yX0_moveDisk, Cond.selects RX0 yX0_moveDisk yX0_moveDisk, Cond.code yX0_moveDisk cX0_moveDisk 2 none, Cond.fieldLink RX0 63 "AlmsKernel" "headTrack" "I", Cond.methodLink RX0 209 yX0_nearestRequest, Cond.instanceMethod yX0_nearestRequest, Cond.selects RX0 yX0_nearestRequest yX0_nearestRequest, Cond.code yX0_nearestRequest cX0_nearestRequest 7 (some .int), Cond.methodLink RX0 215 Lib.Math.abs.name, Cond.static Lib.Math.abs.name, Cond.initialized "java/lang/Math", Cond.code Lib.Math.abs.name Lib.Math.abs.code 1 (some .int), Cond.methodLink RX0 206 yX0_trackOf]
def wsL_act_r8 : List Cond := [Cond.instanceMethod yX0_trackOf, Cond.selects RX0 yX0_trackOf yX0_trackOf, Cond.code yX0_trackOf cX0_trackOf 2 (some .int), Cond.methodLink RX0 212 yX0_finishRequest, Cond.instanceMethod yX0_finishRequest, Cond.selects RX0 yX0_finishRequest yX0_finishRequest, Cond.code yX0_finishRequest cX0_finishRequest 3 none]
def wsL_act : List Cond := .codeWith yL_act cL_act 5 (some .int) [(0, 98, 99, 37), (0, 98, 105, 39), (0, 98, 111, 41)] :: ((wsL_act_r1 ++ (wsL_act_r2 ++ (wsL_act_r3 ++ (wsL_act_r4 ++ (wsL_act_r5 ++ (wsL_act_r6 ++ (wsL_act_r7 ++ wsL_act_r8))))))) ++ wsX00 ++ (vx_atS RX0 83 "java/lang/IndexOutOfBoundsException" ["java/lang/RuntimeException", "java/lang/Exception"]).filter goodWord ++ (vx_atS RX0 90 "java/lang/IllegalArgumentException" ["java/lang/RuntimeException", "java/lang/Exception"]).filter goodWord ++ (vx_atS RX0 97 "java/lang/IllegalStateException" ["java/lang/RuntimeException", "java/lang/Exception"]).filter goodWord)
def wsL_of_r1 : List Cond := [Cond.classLink RL 37 "java/lang/IndexOutOfBoundsException", Cond.methodLink RL 43 yX0_owner, Cond.instanceMethod yX0_owner, Cond.selects RX0 yX0_owner yX0_owner, Cond.initialized RX0, Cond.code yX0_owner cX0_owner 2 (some .int), Cond.classLink RX0 79 "java/lang/IndexOutOfBoundsException", Cond.initialized "java/lang/IndexOutOfBoundsException", Cond.fieldLink RX0 22 "AlmsKernel" "owners" "[I", Cond.methodLink RX0 102 yX0_isFrame, Cond.static yX0_isFrame, Cond.code yX0_isFrame cX0_isFrame 1 (some .boolean), Cond.methodLink RL 46 yX0_holder, Cond.instanceMethod yX0_holder, Cond.selects RX0 yX0_holder yX0_holder, Cond.code yX0_holder cX0_holder 2 (some .int), Cond.fieldLink RX0 25 "AlmsKernel" "holders" "[I", Cond.methodLink RL 49 yX0_holderByLog, Cond.instanceMethod yX0_holderByLog, Cond.selects RX0 yX0_holderByLog yX0_holderByLog, Cond.code yX0_holderByLog cX0_holderByLog 3 (some .int), Cond.fieldLink RX0 53 "AlmsKernel" "loanCount" "I", Cond.fieldLink RX0 47 "AlmsKernel" "lasting" "[Z", Cond.fieldLink RX0 38 "AlmsKernel" "loanFrames" "[I"]
def wsL_of_r2 : List Cond := [Cond.fieldLink RX0 44 "AlmsKernel" "borrowers" "[I", Cond.methodLink RL 52 yX0_pageIn, Cond.instanceMethod yX0_pageIn, Cond.selects RX0 yX0_pageIn yX0_pageIn, Cond.code yX0_pageIn cX0_pageIn 2 (some .int), Cond.fieldLink RX0 28 "AlmsKernel" "pages" "[I", Cond.methodLink RL 55 yX0_age, Cond.instanceMethod yX0_age, Cond.selects RX0 yX0_age yX0_age, Cond.code yX0_age cX0_age 2 (some .int), Cond.methodLink RX0 156 yX0_ageOf, Cond.instanceMethod yX0_ageOf, Cond.selects RX0 yX0_ageOf yX0_ageOf, Cond.code yX0_ageOf cX0_ageOf 2 (some .int), Cond.fieldLink RX0 31 "AlmsKernel" "there" "[Z", Cond.fieldLink RX0 60 "AlmsKernel" "now" "I", Cond.fieldLink RX0 35 "AlmsKernel" "touchTicks" "[I", Cond.methodLink RL 58 yX0_owns, Cond.instanceMethod yX0_owns, Cond.selects RX0 yX0_owns yX0_owns, Cond.code yX0_owns cX0_owns 4 (some .int), Cond.methodLink RX0 75 yX0_isProcess, Cond.static yX0_isProcess, Cond.code yX0_isProcess cX0_isProcess 1 (some .boolean)]
def wsL_of_r3 : List Cond := [Cond.methodLink RL 61 yX0_borrowed, Cond.instanceMethod yX0_borrowed, Cond.selects RX0 yX0_borrowed yX0_borrowed, Cond.code yX0_borrowed cX0_borrowed 2 (some .int), Cond.methodLink RX0 159 yX0_countBorrowed, Cond.instanceMethod yX0_countBorrowed, Cond.selects RX0 yX0_countBorrowed yX0_countBorrowed, Cond.code yX0_countBorrowed cX0_countBorrowed 4 (some .int), Cond.methodLink RL 64 yX0_lent, Cond.instanceMethod yX0_lent, Cond.selects RX0 yX0_lent yX0_lent, Cond.code yX0_lent cX0_lent 4 (some .int), Cond.methodLink RL 67 yX0_stateOf, Cond.instanceMethod yX0_stateOf, Cond.selects RX0 yX0_stateOf yX0_stateOf, Cond.code yX0_stateOf cX0_stateOf 2 (some .int), Cond.fieldLink RX0 16 "AlmsKernel" "states" "[I", Cond.methodLink RL 70 yX0_purse, Cond.instanceMethod yX0_purse, Cond.selects RX0 yX0_purse yX0_purse, Cond.code yX0_purse cX0_purse 2 (some .int), Cond.fieldLink RX0 13 "AlmsKernel" "purses" "[I", Cond.methodLink RL 73 yX0_faults, Cond.instanceMethod yX0_faults]
def wsL_of_r4 : List Cond := [Cond.selects RX0 yX0_faults yX0_faults, Cond.code yX0_faults cX0_faults 2 (some .int), Cond.fieldLink RX0 19 "AlmsKernel" "faultCounts" "[I", Cond.methodLink RL 76 yX0_lasts, Cond.instanceMethod yX0_lasts, Cond.selects RX0 yX0_lasts yX0_lasts, Cond.code yX0_lasts cX0_lasts 2 (some .boolean), Cond.methodLink RX0 135 yX0_isLoan, Cond.instanceMethod yX0_isLoan, Cond.selects RX0 yX0_isLoan yX0_isLoan, Cond.code yX0_isLoan cX0_isLoan 2 (some .boolean), Cond.methodLink RL 80 yX0_partiesOf, Cond.instanceMethod yX0_partiesOf, Cond.selects RX0 yX0_partiesOf yX0_partiesOf, Cond.code yX0_partiesOf cX0_partiesOf 2 (some .int), Cond.fieldLink RX0 41 "AlmsKernel" "lenders" "[I", Cond.methodLink RL 83 yX0_interest, Cond.instanceMethod yX0_interest, Cond.selects RX0 yX0_interest yX0_interest, Cond.code yX0_interest cX0_interest 2 (some .int), Cond.fieldLink RX0 50 "AlmsKernel" "interests" "[I", Cond.methodLink RL 86 yX0_requestAt, Cond.instanceMethod yX0_requestAt, Cond.selects RX0 yX0_requestAt yX0_requestAt]
def wsL_of_r5 : List Cond := [Cond.code yX0_requestAt cX0_requestAt 4 (some .int), Cond.methodLink RX0 164 yX0_isRequested, Cond.instanceMethod yX0_isRequested, Cond.selects RX0 yX0_isRequested yX0_isRequested, Cond.code yX0_isRequested cX0_isRequested 3 (some .boolean), Cond.methodLink RX0 140 yX0_isComing, Cond.instanceMethod yX0_isComing, Cond.selects RX0 yX0_isComing yX0_isComing, Cond.code yX0_isComing cX0_isComing 2 (some .boolean), Cond.methodLink RX0 206 yX0_trackOf, Cond.instanceMethod yX0_trackOf, Cond.selects RX0 yX0_trackOf yX0_trackOf, Cond.code yX0_trackOf cX0_trackOf 2 (some .int)]
def wsL_of : List Cond := .codeWith yL_of cL_of 4 (some .int) [(0, 202, 203, 37)] :: ((wsL_of_r1 ++ (wsL_of_r2 ++ (wsL_of_r3 ++ (wsL_of_r4 ++ wsL_of_r5)))) ++ wsX00 ++ (vx_atS RX0 83 "java/lang/IndexOutOfBoundsException" ["java/lang/RuntimeException", "java/lang/Exception"]).filter goodWord)
def wsL_all_r1 : List Cond := [Cond.constantLong RL 93 (31), Cond.constantLong RL 98 (1009), Cond.constantLong RL 103 (65537), Cond.constantLong RL 108 (1000003), Cond.constantLong RL 110 (961), Cond.constantLong RL 112 (29791), Cond.methodLink RL 89 yX0_tick, Cond.instanceMethod yX0_tick, Cond.selects RX0 yX0_tick yX0_tick, Cond.initialized RX0, Cond.code yX0_tick cX0_tick 1 (some .int), Cond.fieldLink RX0 60 "AlmsKernel" "now" "I", Cond.methodLink RL 95 yX0_head, Cond.instanceMethod yX0_head, Cond.selects RX0 yX0_head yX0_head, Cond.code yX0_head cX0_head 1 (some .int), Cond.fieldLink RX0 63 "AlmsKernel" "headTrack" "I", Cond.methodLink RL 100 yX0_requests, Cond.instanceMethod yX0_requests, Cond.selects RX0 yX0_requests yX0_requests, Cond.code yX0_requests cX0_requests 3 (some .int), Cond.methodLink RX0 140 yX0_isComing, Cond.instanceMethod yX0_isComing, Cond.selects RX0 yX0_isComing yX0_isComing]
def wsL_all_r2 : List Cond := [Cond.code yX0_isComing cX0_isComing 2 (some .boolean), Cond.fieldLink RX0 28 "AlmsKernel" "pages" "[I", Cond.fieldLink RX0 31 "AlmsKernel" "there" "[Z", Cond.methodLink RX0 102 yX0_isFrame, Cond.static yX0_isFrame, Cond.code yX0_isFrame cX0_isFrame 1 (some .boolean), Cond.methodLink RL 105 yX0_loans, Cond.instanceMethod yX0_loans, Cond.selects RX0 yX0_loans yX0_loans, Cond.code yX0_loans cX0_loans 1 (some .int), Cond.fieldLink RX0 53 "AlmsKernel" "loanCount" "I", Cond.methodLink RL 43 yX0_owner, Cond.instanceMethod yX0_owner, Cond.selects RX0 yX0_owner yX0_owner, Cond.code yX0_owner cX0_owner 2 (some .int), Cond.classLink RX0 79 "java/lang/IndexOutOfBoundsException", Cond.initialized "java/lang/IndexOutOfBoundsException", Cond.fieldLink RX0 22 "AlmsKernel" "owners" "[I", Cond.methodLink RL 46 yX0_holder, Cond.instanceMethod yX0_holder, Cond.selects RX0 yX0_holder yX0_holder, Cond.code yX0_holder cX0_holder 2 (some .int), Cond.fieldLink RX0 25 "AlmsKernel" "holders" "[I", Cond.methodLink RL 52 yX0_pageIn]
def wsL_all_r3 : List Cond := [Cond.instanceMethod yX0_pageIn, Cond.selects RX0 yX0_pageIn yX0_pageIn, Cond.code yX0_pageIn cX0_pageIn 2 (some .int), Cond.methodLink RL 55 yX0_age, Cond.instanceMethod yX0_age, Cond.selects RX0 yX0_age yX0_age, Cond.code yX0_age cX0_age 2 (some .int), Cond.methodLink RX0 156 yX0_ageOf, Cond.instanceMethod yX0_ageOf, Cond.selects RX0 yX0_ageOf yX0_ageOf, Cond.code yX0_ageOf cX0_ageOf 2 (some .int), Cond.fieldLink RX0 35 "AlmsKernel" "touchTicks" "[I", Cond.methodLink RL 70 yX0_purse, Cond.instanceMethod yX0_purse, Cond.selects RX0 yX0_purse yX0_purse, Cond.code yX0_purse cX0_purse 2 (some .int), Cond.fieldLink RX0 13 "AlmsKernel" "purses" "[I", Cond.methodLink RX0 75 yX0_isProcess, Cond.static yX0_isProcess, Cond.code yX0_isProcess cX0_isProcess 1 (some .boolean), Cond.methodLink RL 67 yX0_stateOf, Cond.instanceMethod yX0_stateOf, Cond.selects RX0 yX0_stateOf yX0_stateOf, Cond.code yX0_stateOf cX0_stateOf 2 (some .int)]
def wsL_all_r4 : List Cond := [Cond.fieldLink RX0 16 "AlmsKernel" "states" "[I", Cond.methodLink RL 73 yX0_faults, Cond.instanceMethod yX0_faults, Cond.selects RX0 yX0_faults yX0_faults, Cond.code yX0_faults cX0_faults 2 (some .int), Cond.fieldLink RX0 19 "AlmsKernel" "faultCounts" "[I"]
def wsL_all : List Cond := .code yL_all cL_all 4 (some .long) :: ((wsL_all_r1 ++ (wsL_all_r2 ++ (wsL_all_r3 ++ wsL_all_r4))) ++ wsX00 ++ (vx_atS RX0 83 "java/lang/IndexOutOfBoundsException" ["java/lang/RuntimeException", "java/lang/Exception"]).filter goodWord)
def wsL_loanOf : List Cond := .code yL_loanOf cL_loanOf 4 (some .int) :: ([.methodLink RL 105 yX0_loans, .instanceMethod yX0_loans, .selects RX0 yX0_loans yX0_loans, .initialized RX0, .code yX0_loans cX0_loans 1 (some .int), .fieldLink RX0 53 "AlmsKernel" "loanCount" "I", .methodLink RL 76 yX0_lasts, .instanceMethod yX0_lasts, .selects RX0 yX0_lasts yX0_lasts, .code yX0_lasts cX0_lasts 2 (some .boolean), .classLink RX0 79 "java/lang/IndexOutOfBoundsException", .initialized "java/lang/IndexOutOfBoundsException", .fieldLink RX0 47 "AlmsKernel" "lasting" "[Z", .methodLink RX0 135 yX0_isLoan, .instanceMethod yX0_isLoan, .selects RX0 yX0_isLoan yX0_isLoan, .code yX0_isLoan cX0_isLoan 2 (some .boolean), .methodLink RL 80 yX0_partiesOf, .instanceMethod yX0_partiesOf, .selects RX0 yX0_partiesOf yX0_partiesOf, .code yX0_partiesOf cX0_partiesOf 2 (some .int), .fieldLink RX0 38 "AlmsKernel" "loanFrames" "[I", .fieldLink RX0 41 "AlmsKernel" "lenders" "[I", .fieldLink RX0 44 "AlmsKernel" "borrowers" "[I"] ++ wsX00 ++ (vx_atS RX0 83 "java/lang/IndexOutOfBoundsException" ["java/lang/RuntimeException", "java/lang/Exception"]).filter goodWord)
def wsL_areFrames_r1 : List Cond := [Cond.methodLink RL 89 yX0_tick, Cond.instanceMethod yX0_tick, Cond.selects RX0 yX0_tick yX0_tick, Cond.initialized RX0, Cond.code yX0_tick cX0_tick 1 (some .int), Cond.fieldLink RX0 60 "AlmsKernel" "now" "I", Cond.methodLink RL 43 yX0_owner, Cond.instanceMethod yX0_owner, Cond.selects RX0 yX0_owner yX0_owner, Cond.code yX0_owner cX0_owner 2 (some .int), Cond.classLink RX0 79 "java/lang/IndexOutOfBoundsException", Cond.initialized "java/lang/IndexOutOfBoundsException", Cond.fieldLink RX0 22 "AlmsKernel" "owners" "[I", Cond.methodLink RX0 102 yX0_isFrame, Cond.static yX0_isFrame, Cond.code yX0_isFrame cX0_isFrame 1 (some .boolean), Cond.methodLink RL 114 yL_loanOf, Cond.static yL_loanOf, Cond.initialized RL, Cond.code yL_loanOf cL_loanOf 4 (some .int), Cond.methodLink RL 105 yX0_loans, Cond.instanceMethod yX0_loans, Cond.selects RX0 yX0_loans yX0_loans, Cond.code yX0_loans cX0_loans 1 (some .int)]
def wsL_areFrames_r2 : List Cond := [Cond.fieldLink RX0 53 "AlmsKernel" "loanCount" "I", Cond.methodLink RL 76 yX0_lasts, Cond.instanceMethod yX0_lasts, Cond.selects RX0 yX0_lasts yX0_lasts, Cond.code yX0_lasts cX0_lasts 2 (some .boolean), Cond.fieldLink RX0 47 "AlmsKernel" "lasting" "[Z", Cond.methodLink RX0 135 yX0_isLoan, Cond.instanceMethod yX0_isLoan, Cond.selects RX0 yX0_isLoan yX0_isLoan, Cond.code yX0_isLoan cX0_isLoan 2 (some .boolean), Cond.methodLink RL 80 yX0_partiesOf, Cond.instanceMethod yX0_partiesOf, Cond.selects RX0 yX0_partiesOf yX0_partiesOf, Cond.code yX0_partiesOf cX0_partiesOf 2 (some .int), Cond.fieldLink RX0 38 "AlmsKernel" "loanFrames" "[I", Cond.fieldLink RX0 41 "AlmsKernel" "lenders" "[I", Cond.fieldLink RX0 44 "AlmsKernel" "borrowers" "[I", Cond.methodLink RL 46 yX0_holder, Cond.instanceMethod yX0_holder, Cond.selects RX0 yX0_holder yX0_holder, Cond.code yX0_holder cX0_holder 2 (some .int), Cond.fieldLink RX0 25 "AlmsKernel" "holders" "[I", Cond.methodLink RL 49 yX0_holderByLog, Cond.instanceMethod yX0_holderByLog]
def wsL_areFrames_r3 : List Cond := [Cond.selects RX0 yX0_holderByLog yX0_holderByLog, Cond.code yX0_holderByLog cX0_holderByLog 3 (some .int), Cond.methodLink RL 67 yX0_stateOf, Cond.instanceMethod yX0_stateOf, Cond.selects RX0 yX0_stateOf yX0_stateOf, Cond.code yX0_stateOf cX0_stateOf 2 (some .int), Cond.fieldLink RX0 16 "AlmsKernel" "states" "[I", Cond.methodLink RX0 75 yX0_isProcess, Cond.static yX0_isProcess, Cond.code yX0_isProcess cX0_isProcess 1 (some .boolean), Cond.methodLink RL 52 yX0_pageIn, Cond.instanceMethod yX0_pageIn, Cond.selects RX0 yX0_pageIn yX0_pageIn, Cond.code yX0_pageIn cX0_pageIn 2 (some .int), Cond.fieldLink RX0 28 "AlmsKernel" "pages" "[I", Cond.methodLink RL 55 yX0_age, Cond.instanceMethod yX0_age, Cond.selects RX0 yX0_age yX0_age, Cond.code yX0_age cX0_age 2 (some .int), Cond.methodLink RX0 156 yX0_ageOf, Cond.instanceMethod yX0_ageOf, Cond.selects RX0 yX0_ageOf yX0_ageOf, Cond.code yX0_ageOf cX0_ageOf 2 (some .int), Cond.fieldLink RX0 31 "AlmsKernel" "there" "[Z"]
def wsL_areFrames_r4 : List Cond := [Cond.fieldLink RX0 35 "AlmsKernel" "touchTicks" "[I", Cond.methodLink RL 86 yX0_requestAt, Cond.instanceMethod yX0_requestAt, Cond.selects RX0 yX0_requestAt yX0_requestAt, Cond.code yX0_requestAt cX0_requestAt 4 (some .int), Cond.methodLink RX0 164 yX0_isRequested, Cond.instanceMethod yX0_isRequested, Cond.selects RX0 yX0_isRequested yX0_isRequested, Cond.code yX0_isRequested cX0_isRequested 3 (some .boolean), Cond.methodLink RX0 140 yX0_isComing, Cond.instanceMethod yX0_isComing, Cond.selects RX0 yX0_isComing yX0_isComing, Cond.code yX0_isComing cX0_isComing 2 (some .boolean), Cond.methodLink RX0 206 yX0_trackOf, Cond.instanceMethod yX0_trackOf, Cond.selects RX0 yX0_trackOf yX0_trackOf, Cond.code yX0_trackOf cX0_trackOf 2 (some .int), Cond.methodLink RL 58 yX0_owns, Cond.instanceMethod yX0_owns, Cond.selects RX0 yX0_owns yX0_owns, Cond.code yX0_owns cX0_owns 4 (some .int), Cond.methodLink RL 61 yX0_borrowed, Cond.instanceMethod yX0_borrowed, Cond.selects RX0 yX0_borrowed yX0_borrowed]
def wsL_areFrames_r5 : List Cond := [Cond.code yX0_borrowed cX0_borrowed 2 (some .int), Cond.methodLink RX0 159 yX0_countBorrowed, Cond.instanceMethod yX0_countBorrowed, Cond.selects RX0 yX0_countBorrowed yX0_countBorrowed, Cond.code yX0_countBorrowed cX0_countBorrowed 4 (some .int), Cond.methodLink RL 64 yX0_lent, Cond.instanceMethod yX0_lent, Cond.selects RX0 yX0_lent yX0_lent, Cond.code yX0_lent cX0_lent 4 (some .int), Cond.methodLink RL 70 yX0_purse, Cond.instanceMethod yX0_purse, Cond.selects RX0 yX0_purse yX0_purse, Cond.code yX0_purse cX0_purse 2 (some .int), Cond.fieldLink RX0 13 "AlmsKernel" "purses" "[I", Cond.methodLink RL 120 yX0_free, Cond.instanceMethod yX0_free, Cond.selects RX0 yX0_free yX0_free, Cond.code yX0_free cX0_free 3 (some .int), Cond.methodLink RL 100 yX0_requests, Cond.instanceMethod yX0_requests, Cond.selects RX0 yX0_requests yX0_requests, Cond.code yX0_requests cX0_requests 3 (some .int)]
def wsL_areFrames : List Cond := .code yL_areFrames cL_areFrames 12 (some .boolean) :: ((wsL_areFrames_r1 ++ (wsL_areFrames_r2 ++ (wsL_areFrames_r3 ++ (wsL_areFrames_r4 ++ wsL_areFrames_r5)))) ++ wsX00 ++ (vx_atS RX0 83 "java/lang/IndexOutOfBoundsException" ["java/lang/RuntimeException", "java/lang/Exception"]).filter goodWord)
def wsL_isRefused_r1 : List Cond := [Cond.methodLink RL 105 yX0_loans, Cond.instanceMethod yX0_loans, Cond.selects RX0 yX0_loans yX0_loans, Cond.initialized RX0, Cond.code yX0_loans cX0_loans 1 (some .int), Cond.fieldLink RX0 53 "AlmsKernel" "loanCount" "I", Cond.methodLink RL 143 yL_all, Cond.static yL_all, Cond.initialized RL, Cond.code yL_all cL_all 4 (some .long), Cond.constantLong RL 93 (31), Cond.constantLong RL 98 (1009), Cond.constantLong RL 103 (65537), Cond.constantLong RL 108 (1000003), Cond.constantLong RL 110 (961), Cond.constantLong RL 112 (29791), Cond.methodLink RL 89 yX0_tick, Cond.instanceMethod yX0_tick, Cond.selects RX0 yX0_tick yX0_tick, Cond.code yX0_tick cX0_tick 1 (some .int), Cond.fieldLink RX0 60 "AlmsKernel" "now" "I", Cond.methodLink RL 95 yX0_head, Cond.instanceMethod yX0_head, Cond.selects RX0 yX0_head yX0_head]
def wsL_isRefused_r2 : List Cond := [Cond.code yX0_head cX0_head 1 (some .int), Cond.fieldLink RX0 63 "AlmsKernel" "headTrack" "I", Cond.methodLink RL 100 yX0_requests, Cond.instanceMethod yX0_requests, Cond.selects RX0 yX0_requests yX0_requests, Cond.code yX0_requests cX0_requests 3 (some .int), Cond.methodLink RX0 140 yX0_isComing, Cond.instanceMethod yX0_isComing, Cond.selects RX0 yX0_isComing yX0_isComing, Cond.code yX0_isComing cX0_isComing 2 (some .boolean), Cond.fieldLink RX0 28 "AlmsKernel" "pages" "[I", Cond.fieldLink RX0 31 "AlmsKernel" "there" "[Z", Cond.methodLink RX0 102 yX0_isFrame, Cond.static yX0_isFrame, Cond.code yX0_isFrame cX0_isFrame 1 (some .boolean), Cond.methodLink RL 43 yX0_owner, Cond.instanceMethod yX0_owner, Cond.selects RX0 yX0_owner yX0_owner, Cond.code yX0_owner cX0_owner 2 (some .int), Cond.classLink RX0 79 "java/lang/IndexOutOfBoundsException", Cond.initialized "java/lang/IndexOutOfBoundsException", Cond.fieldLink RX0 22 "AlmsKernel" "owners" "[I", Cond.methodLink RL 46 yX0_holder, Cond.instanceMethod yX0_holder]
def wsL_isRefused_r3 : List Cond := [Cond.selects RX0 yX0_holder yX0_holder, Cond.code yX0_holder cX0_holder 2 (some .int), Cond.fieldLink RX0 25 "AlmsKernel" "holders" "[I", Cond.methodLink RL 52 yX0_pageIn, Cond.instanceMethod yX0_pageIn, Cond.selects RX0 yX0_pageIn yX0_pageIn, Cond.code yX0_pageIn cX0_pageIn 2 (some .int), Cond.methodLink RL 55 yX0_age, Cond.instanceMethod yX0_age, Cond.selects RX0 yX0_age yX0_age, Cond.code yX0_age cX0_age 2 (some .int), Cond.methodLink RX0 156 yX0_ageOf, Cond.instanceMethod yX0_ageOf, Cond.selects RX0 yX0_ageOf yX0_ageOf, Cond.code yX0_ageOf cX0_ageOf 2 (some .int), Cond.fieldLink RX0 35 "AlmsKernel" "touchTicks" "[I", Cond.methodLink RL 70 yX0_purse, Cond.instanceMethod yX0_purse, Cond.selects RX0 yX0_purse yX0_purse, Cond.code yX0_purse cX0_purse 2 (some .int), Cond.fieldLink RX0 13 "AlmsKernel" "purses" "[I", Cond.methodLink RX0 75 yX0_isProcess, Cond.static yX0_isProcess, Cond.code yX0_isProcess cX0_isProcess 1 (some .boolean)]
def wsL_isRefused_r4 : List Cond := [Cond.methodLink RL 67 yX0_stateOf, Cond.instanceMethod yX0_stateOf, Cond.selects RX0 yX0_stateOf yX0_stateOf, Cond.code yX0_stateOf cX0_stateOf 2 (some .int), Cond.fieldLink RX0 16 "AlmsKernel" "states" "[I", Cond.methodLink RL 73 yX0_faults, Cond.instanceMethod yX0_faults, Cond.selects RX0 yX0_faults yX0_faults, Cond.code yX0_faults cX0_faults 2 (some .int), Cond.fieldLink RX0 19 "AlmsKernel" "faultCounts" "[I", Cond.methodLink RL 131 yL_act, Cond.static yL_act, Cond.codeWith yL_act cL_act 5 (some .int) [(0, 98, 99, 37), (0, 98, 105, 39), (0, 98, 111, 41)], Cond.classLink RL 37 "java/lang/IndexOutOfBoundsException", Cond.classLink RL 39 "java/lang/IllegalArgumentException", Cond.classLink RL 41 "java/lang/IllegalStateException", Cond.methodLink RL 9 yX0_setWage, Cond.instanceMethod yX0_setWage, Cond.selects RX0 yX0_setWage yX0_setWage, Cond.code yX0_setWage cX0_setWage 4 (some .int), Cond.classLink RX0 86 "java/lang/IllegalArgumentException", Cond.initialized "java/lang/IllegalArgumentException", Cond.fieldLink RX0 9 "AlmsKernel" "wages" "[I", Cond.methodLink RL 15 yX0_setRate]
def wsL_isRefused_r5 : List Cond := [Cond.instanceMethod yX0_setRate, Cond.selects RX0 yX0_setRate yX0_setRate, Cond.code yX0_setRate cX0_setRate 3 (some .int), Cond.fieldLink RX0 57 "AlmsKernel" "rate" "I", Cond.methodLink RL 19 yX0_buy, Cond.instanceMethod yX0_buy, Cond.selects RX0 yX0_buy yX0_buy, Cond.code yX0_buy cX0_buy 3 (some .int), Cond.classLink RX0 93 "java/lang/IllegalStateException", Cond.initialized "java/lang/IllegalStateException", Cond.methodLink RX0 98 yX0_lowestEmptyFrame, Cond.instanceMethod yX0_lowestEmptyFrame, Cond.selects RX0 yX0_lowestEmptyFrame yX0_lowestEmptyFrame, Cond.code yX0_lowestEmptyFrame cX0_lowestEmptyFrame 3 (some .int), Cond.methodLink RL 22 yX0_sell, Cond.instanceMethod yX0_sell, Cond.selects RX0 yX0_sell yX0_sell, Cond.code yX0_sell cX0_sell 3 (some .int), Cond.methodLink RL 25 yX0_drop, Cond.instanceMethod yX0_drop, Cond.selects RX0 yX0_drop yX0_drop, Cond.code yX0_drop cX0_drop 3 (some .int), Cond.methodLink RX0 115 yX0_dropPage, Cond.instanceMethod yX0_dropPage]
def wsL_isRefused_r6 : List Cond := [Cond.selects RX0 yX0_dropPage yX0_dropPage, Cond.code yX0_dropPage cX0_dropPage 2 none, Cond.fieldLink RX0 66 "AlmsKernel" "chosenFrame" "I", Cond.methodLink RL 28 yX0_touch, Cond.instanceMethod yX0_touch, Cond.selects RX0 yX0_touch yX0_touch, Cond.code yX0_touch cX0_touch 5 (some .int), Cond.methodLink RX0 119 yX0_isPage, Cond.static yX0_isPage, Cond.code yX0_isPage cX0_isPage 1 (some .boolean), Cond.methodLink RX0 126 yX0_frameWithPage, Cond.instanceMethod yX0_frameWithPage, Cond.selects RX0 yX0_frameWithPage yX0_frameWithPage, Cond.code yX0_frameWithPage cX0_frameWithPage 4 (some .int), Cond.methodLink RX0 130 yX0_frameForFault, Cond.instanceMethod yX0_frameForFault, Cond.selects RX0 yX0_frameForFault yX0_frameForFault, Cond.code yX0_frameForFault cX0_frameForFault 3 (some .int), Cond.methodLink RX0 167 yX0_callIn, Cond.instanceMethod yX0_callIn, Cond.selects RX0 yX0_callIn yX0_callIn, Cond.code yX0_callIn cX0_callIn 3 (some .int), Cond.fieldLink RX0 47 "AlmsKernel" "lasting" "[Z", Cond.fieldLink RX0 41 "AlmsKernel" "lenders" "[I"]
def wsL_isRefused_r7 : List Cond := [Cond.fieldLink RX0 38 "AlmsKernel" "loanFrames" "[I", Cond.methodLink RX0 145 yX0_endLoan, Cond.instanceMethod yX0_endLoan, Cond.selects RX0 yX0_endLoan yX0_endLoan, Cond.code yX0_endLoan cX0_endLoan 3 none, Cond.methodLink RX0 170 yX0_borrow, Cond.instanceMethod yX0_borrow, Cond.selects RX0 yX0_borrow yX0_borrow, Cond.code yX0_borrow cX0_borrow 4 (some .int), Cond.fieldLink RX0 44 "AlmsKernel" "borrowers" "[I", Cond.methodLink RX0 159 yX0_countBorrowed, Cond.instanceMethod yX0_countBorrowed, Cond.selects RX0 yX0_countBorrowed yX0_countBorrowed, Cond.code yX0_countBorrowed cX0_countBorrowed 4 (some .int), Cond.methodLink RX0 176 yX0_richestLender, Cond.instanceMethod yX0_richestLender, Cond.selects RX0 yX0_richestLender yX0_richestLender, Cond.code yX0_richestLender cX0_richestLender 5 (some .int), Cond.methodLink RX0 179 yX0_frameToLend, Cond.instanceMethod yX0_frameToLend, Cond.selects RX0 yX0_frameToLend yX0_frameToLend, Cond.code yX0_frameToLend cX0_frameToLend 5 (some .int), Cond.methodLink RX0 173 yX0_oldestFrame, Cond.instanceMethod yX0_oldestFrame]
def wsL_isRefused_r8 : List Cond := [Cond.selects RX0 yX0_oldestFrame yX0_oldestFrame, Cond.code yX0_oldestFrame cX0_oldestFrame 5 (some .int), Cond.methodLink RL 31 yX0_payBack, Cond.instanceMethod yX0_payBack, Cond.selects RX0 yX0_payBack yX0_payBack, Cond.code yX0_payBack cX0_payBack 2 (some .int), Cond.methodLink RX0 135 yX0_isLoan, Cond.instanceMethod yX0_isLoan, Cond.selects RX0 yX0_isLoan yX0_isLoan, Cond.code yX0_isLoan cX0_isLoan 2 (some .boolean), Cond.methodLink RL 34 yX0_advance, Cond.instanceMethod yX0_advance, Cond.selects RX0 yX0_advance yX0_advance, Cond.code yX0_advance cX0_advance 3 (some .int), Cond.constant RX0 150 (50000), Cond.methodLink RX0 153 yX0_passTick, Cond.instanceMethod yX0_passTick, Cond.selects RX0 yX0_passTick yX0_passTick, Cond.code yX0_passTick cX0_passTick 1 none, Cond.methodLink RX0 184 yX0_payWages, Cond.instanceMethod yX0_payWages, Cond.selects RX0 yX0_payWages yX0_payWages, Cond.code yX0_payWages cX0_payWages 2 none, Cond.methodLink RX0 187 yX0_chargeLoans]
def wsL_isRefused_r9 : List Cond := [Cond.instanceMethod yX0_chargeLoans, Cond.selects RX0 yX0_chargeLoans yX0_chargeLoans, Cond.code yX0_chargeLoans cX0_chargeLoans 2 none, Cond.methodLink RX0 196 yX0_charge, Cond.instanceMethod yX0_charge, Cond.selects RX0 yX0_charge yX0_charge, Cond.code yX0_charge cX0_charge 4 none, Cond.fieldLink RX0 50 "AlmsKernel" "interests" "[I", Cond.methodLink RX0 199 yX0_putToSleep, Cond.instanceMethod yX0_putToSleep, Cond.selects RX0 yX0_putToSleep yX0_putToSleep, Cond.code yX0_putToSleep cX0_putToSleep 3 none, Cond.methodLink RX0 190 yX0_giveAlms, Cond.instanceMethod yX0_giveAlms, Cond.selects RX0 yX0_giveAlms yX0_giveAlms, Cond.code yX0_giveAlms cX0_giveAlms 3 none, Cond.methodLink RX0 202 yX0_richestGiver, Cond.instanceMethod yX0_richestGiver, Cond.selects RX0 yX0_richestGiver yX0_richestGiver, Cond.code yX0_richestGiver cX0_richestGiver 4 (some .int), Cond.methodLink RX0 193 yX0_moveDisk, Cond.instanceMethod yX0_moveDisk, Cond.selects RX0 yX0_moveDisk yX0_moveDisk, Cond.code yX0_moveDisk cX0_moveDisk 2 none]
def wsL_isRefused_r10 : List Cond := [Cond.methodLink RX0 209 yX0_nearestRequest, Cond.instanceMethod yX0_nearestRequest, Cond.selects RX0 yX0_nearestRequest yX0_nearestRequest, Cond.code yX0_nearestRequest cX0_nearestRequest 7 (some .int), Cond.methodLink RX0 215 Lib.Math.abs.name, Cond.static Lib.Math.abs.name, Cond.initialized "java/lang/Math", Cond.code Lib.Math.abs.name Lib.Math.abs.code 1 (some .int), Cond.methodLink RX0 206 yX0_trackOf, Cond.instanceMethod yX0_trackOf, Cond.selects RX0 yX0_trackOf yX0_trackOf, Cond.code yX0_trackOf cX0_trackOf 2 (some .int), Cond.methodLink RX0 212 yX0_finishRequest, Cond.instanceMethod yX0_finishRequest, Cond.selects RX0 yX0_finishRequest yX0_finishRequest, Cond.code yX0_finishRequest cX0_finishRequest 3 none, Cond.methodLink RL 147 yL_of, Cond.static yL_of, Cond.codeWith yL_of cL_of 4 (some .int) [(0, 202, 203, 37)], Cond.methodLink RL 49 yX0_holderByLog, Cond.instanceMethod yX0_holderByLog, Cond.selects RX0 yX0_holderByLog yX0_holderByLog, Cond.code yX0_holderByLog cX0_holderByLog 3 (some .int), Cond.methodLink RL 58 yX0_owns]
def wsL_isRefused_r11 : List Cond := [Cond.instanceMethod yX0_owns, Cond.selects RX0 yX0_owns yX0_owns, Cond.code yX0_owns cX0_owns 4 (some .int), Cond.methodLink RL 61 yX0_borrowed, Cond.instanceMethod yX0_borrowed, Cond.selects RX0 yX0_borrowed yX0_borrowed, Cond.code yX0_borrowed cX0_borrowed 2 (some .int), Cond.methodLink RL 64 yX0_lent, Cond.instanceMethod yX0_lent, Cond.selects RX0 yX0_lent yX0_lent, Cond.code yX0_lent cX0_lent 4 (some .int), Cond.methodLink RL 76 yX0_lasts, Cond.instanceMethod yX0_lasts, Cond.selects RX0 yX0_lasts yX0_lasts, Cond.code yX0_lasts cX0_lasts 2 (some .boolean), Cond.methodLink RL 80 yX0_partiesOf, Cond.instanceMethod yX0_partiesOf, Cond.selects RX0 yX0_partiesOf yX0_partiesOf, Cond.code yX0_partiesOf cX0_partiesOf 2 (some .int), Cond.methodLink RL 83 yX0_interest, Cond.instanceMethod yX0_interest, Cond.selects RX0 yX0_interest yX0_interest, Cond.code yX0_interest cX0_interest 2 (some .int), Cond.methodLink RL 86 yX0_requestAt]
def wsL_isRefused_r12 : List Cond := [Cond.instanceMethod yX0_requestAt, Cond.selects RX0 yX0_requestAt yX0_requestAt, Cond.code yX0_requestAt cX0_requestAt 4 (some .int), Cond.methodLink RX0 164 yX0_isRequested, Cond.instanceMethod yX0_isRequested, Cond.selects RX0 yX0_isRequested yX0_isRequested, Cond.code yX0_isRequested cX0_isRequested 3 (some .boolean), Cond.methodLink RL 120 yX0_free, Cond.instanceMethod yX0_free, Cond.selects RX0 yX0_free yX0_free, Cond.code yX0_free cX0_free 3 (some .int)]
def wsL_isRefused : List Cond := .code yL_isRefused cL_isRefused 12 (some .boolean) :: ((wsL_isRefused_r1 ++ (wsL_isRefused_r2 ++ (wsL_isRefused_r3 ++ (wsL_isRefused_r4 ++ (wsL_isRefused_r5 ++ (wsL_isRefused_r6 ++ (wsL_isRefused_r7 ++ (wsL_isRefused_r8 ++ (wsL_isRefused_r9 ++ (wsL_isRefused_r10 ++ (wsL_isRefused_r11 ++ wsL_isRefused_r12))))))))))) ++ wsX00 ++ (vx_atS RX0 83 "java/lang/IndexOutOfBoundsException" ["java/lang/RuntimeException", "java/lang/Exception"]).filter goodWord ++ (vx_atS RX0 90 "java/lang/IllegalArgumentException" ["java/lang/RuntimeException", "java/lang/Exception"]).filter goodWord ++ (vx_atS RX0 97 "java/lang/IllegalStateException" ["java/lang/RuntimeException", "java/lang/Exception"]).filter goodWord)
def wsL_law0_r1 : List Cond := [Cond.classLink RL 10 RX0, Cond.instantiable RX0 19, Cond.initialized RX0, Cond.arrayClass .int, Cond.methodLink RL 151 yX0_init, Cond.instanceMethod yX0_init, Cond.code yX0_init cX0_init 1 none, Cond.methodLink RX0 3 objectInit, Cond.instanceMethod objectInit, Cond.code objectInit ⟨#[0xb1]⟩ 1 none, Cond.fieldLink RX0 9 "AlmsKernel" "wages" "[I", Cond.fieldLink RX0 13 "AlmsKernel" "purses" "[I", Cond.fieldLink RX0 16 "AlmsKernel" "states" "[I", Cond.fieldLink RX0 19 "AlmsKernel" "faultCounts" "[I", Cond.fieldLink RX0 22 "AlmsKernel" "owners" "[I", Cond.fieldLink RX0 25 "AlmsKernel" "holders" "[I", Cond.fieldLink RX0 28 "AlmsKernel" "pages" "[I", Cond.arrayClass .boolean, Cond.fieldLink RX0 31 "AlmsKernel" "there" "[Z", Cond.fieldLink RX0 35 "AlmsKernel" "touchTicks" "[I", Cond.fieldLink RX0 38 "AlmsKernel" "loanFrames" "[I", Cond.fieldLink RX0 41 "AlmsKernel" "lenders" "[I", Cond.fieldLink RX0 44 "AlmsKernel" "borrowers" "[I", Cond.fieldLink RX0 47 "AlmsKernel" "lasting" "[Z"]
def wsL_law0_r2 : List Cond := [Cond.fieldLink RX0 50 "AlmsKernel" "interests" "[I", Cond.fieldLink RX0 53 "AlmsKernel" "loanCount" "I", Cond.fieldLink RX0 57 "AlmsKernel" "rate" "I", Cond.fieldLink RX0 60 "AlmsKernel" "now" "I", Cond.fieldLink RX0 63 "AlmsKernel" "headTrack" "I", Cond.fieldLink RX0 66 "AlmsKernel" "chosenFrame" "I", Cond.methodLink RX0 69 yJ7_fill_53178, Cond.static yJ7_fill_53178, Cond.initialized RJ7, Cond.code yJ7_fill_53178 cJ7_fill_53178 4 none, Cond.methodLink RL 152 yL_isRefused, Cond.static yL_isRefused, Cond.initialized RL, Cond.code yL_isRefused cL_isRefused 12 (some .boolean), Cond.methodLink RL 105 yX0_loans, Cond.instanceMethod yX0_loans, Cond.selects RX0 yX0_loans yX0_loans, Cond.code yX0_loans cX0_loans 1 (some .int), Cond.methodLink RL 143 yL_all, Cond.static yL_all, Cond.code yL_all cL_all 4 (some .long), Cond.constantLong RL 93 (31), Cond.constantLong RL 98 (1009), Cond.constantLong RL 103 (65537)]
def wsL_law0_r3 : List Cond := [Cond.constantLong RL 108 (1000003), Cond.constantLong RL 110 (961), Cond.constantLong RL 112 (29791), Cond.methodLink RL 89 yX0_tick, Cond.instanceMethod yX0_tick, Cond.selects RX0 yX0_tick yX0_tick, Cond.code yX0_tick cX0_tick 1 (some .int), Cond.methodLink RL 95 yX0_head, Cond.instanceMethod yX0_head, Cond.selects RX0 yX0_head yX0_head, Cond.code yX0_head cX0_head 1 (some .int), Cond.methodLink RL 100 yX0_requests, Cond.instanceMethod yX0_requests, Cond.selects RX0 yX0_requests yX0_requests, Cond.code yX0_requests cX0_requests 3 (some .int), Cond.methodLink RX0 140 yX0_isComing, Cond.instanceMethod yX0_isComing, Cond.selects RX0 yX0_isComing yX0_isComing, Cond.code yX0_isComing cX0_isComing 2 (some .boolean), Cond.methodLink RX0 102 yX0_isFrame, Cond.static yX0_isFrame, Cond.code yX0_isFrame cX0_isFrame 1 (some .boolean), Cond.methodLink RL 43 yX0_owner, Cond.instanceMethod yX0_owner]
def wsL_law0_r4 : List Cond := [Cond.selects RX0 yX0_owner yX0_owner, Cond.code yX0_owner cX0_owner 2 (some .int), Cond.classLink RX0 79 "java/lang/IndexOutOfBoundsException", Cond.initialized "java/lang/IndexOutOfBoundsException", Cond.methodLink RL 46 yX0_holder, Cond.instanceMethod yX0_holder, Cond.selects RX0 yX0_holder yX0_holder, Cond.code yX0_holder cX0_holder 2 (some .int), Cond.methodLink RL 52 yX0_pageIn, Cond.instanceMethod yX0_pageIn, Cond.selects RX0 yX0_pageIn yX0_pageIn, Cond.code yX0_pageIn cX0_pageIn 2 (some .int), Cond.methodLink RL 55 yX0_age, Cond.instanceMethod yX0_age, Cond.selects RX0 yX0_age yX0_age, Cond.code yX0_age cX0_age 2 (some .int), Cond.methodLink RX0 156 yX0_ageOf, Cond.instanceMethod yX0_ageOf, Cond.selects RX0 yX0_ageOf yX0_ageOf, Cond.code yX0_ageOf cX0_ageOf 2 (some .int), Cond.methodLink RL 70 yX0_purse, Cond.instanceMethod yX0_purse, Cond.selects RX0 yX0_purse yX0_purse, Cond.code yX0_purse cX0_purse 2 (some .int)]
def wsL_law0_r5 : List Cond := [Cond.methodLink RX0 75 yX0_isProcess, Cond.static yX0_isProcess, Cond.code yX0_isProcess cX0_isProcess 1 (some .boolean), Cond.methodLink RL 67 yX0_stateOf, Cond.instanceMethod yX0_stateOf, Cond.selects RX0 yX0_stateOf yX0_stateOf, Cond.code yX0_stateOf cX0_stateOf 2 (some .int), Cond.methodLink RL 73 yX0_faults, Cond.instanceMethod yX0_faults, Cond.selects RX0 yX0_faults yX0_faults, Cond.code yX0_faults cX0_faults 2 (some .int), Cond.methodLink RL 131 yL_act, Cond.static yL_act, Cond.codeWith yL_act cL_act 5 (some .int) [(0, 98, 99, 37), (0, 98, 105, 39), (0, 98, 111, 41)], Cond.classLink RL 37 "java/lang/IndexOutOfBoundsException", Cond.classLink RL 39 "java/lang/IllegalArgumentException", Cond.classLink RL 41 "java/lang/IllegalStateException", Cond.methodLink RL 9 yX0_setWage, Cond.instanceMethod yX0_setWage, Cond.selects RX0 yX0_setWage yX0_setWage, Cond.code yX0_setWage cX0_setWage 4 (some .int), Cond.classLink RX0 86 "java/lang/IllegalArgumentException", Cond.initialized "java/lang/IllegalArgumentException", Cond.methodLink RL 15 yX0_setRate]
def wsL_law0_r6 : List Cond := [Cond.instanceMethod yX0_setRate, Cond.selects RX0 yX0_setRate yX0_setRate, Cond.code yX0_setRate cX0_setRate 3 (some .int), Cond.methodLink RL 19 yX0_buy, Cond.instanceMethod yX0_buy, Cond.selects RX0 yX0_buy yX0_buy, Cond.code yX0_buy cX0_buy 3 (some .int), Cond.classLink RX0 93 "java/lang/IllegalStateException", Cond.initialized "java/lang/IllegalStateException", Cond.methodLink RX0 98 yX0_lowestEmptyFrame, Cond.instanceMethod yX0_lowestEmptyFrame, Cond.selects RX0 yX0_lowestEmptyFrame yX0_lowestEmptyFrame, Cond.code yX0_lowestEmptyFrame cX0_lowestEmptyFrame 3 (some .int), Cond.methodLink RL 22 yX0_sell, Cond.instanceMethod yX0_sell, Cond.selects RX0 yX0_sell yX0_sell, Cond.code yX0_sell cX0_sell 3 (some .int), Cond.methodLink RL 25 yX0_drop, Cond.instanceMethod yX0_drop, Cond.selects RX0 yX0_drop yX0_drop, Cond.code yX0_drop cX0_drop 3 (some .int), Cond.methodLink RX0 115 yX0_dropPage, Cond.instanceMethod yX0_dropPage, Cond.selects RX0 yX0_dropPage yX0_dropPage]
def wsL_law0_r7 : List Cond := [Cond.code yX0_dropPage cX0_dropPage 2 none, Cond.methodLink RL 28 yX0_touch, Cond.instanceMethod yX0_touch, Cond.selects RX0 yX0_touch yX0_touch, Cond.code yX0_touch cX0_touch 5 (some .int), Cond.methodLink RX0 119 yX0_isPage, Cond.static yX0_isPage, Cond.code yX0_isPage cX0_isPage 1 (some .boolean), Cond.methodLink RX0 126 yX0_frameWithPage, Cond.instanceMethod yX0_frameWithPage, Cond.selects RX0 yX0_frameWithPage yX0_frameWithPage, Cond.code yX0_frameWithPage cX0_frameWithPage 4 (some .int), Cond.methodLink RX0 130 yX0_frameForFault, Cond.instanceMethod yX0_frameForFault, Cond.selects RX0 yX0_frameForFault yX0_frameForFault, Cond.code yX0_frameForFault cX0_frameForFault 3 (some .int), Cond.methodLink RX0 167 yX0_callIn, Cond.instanceMethod yX0_callIn, Cond.selects RX0 yX0_callIn yX0_callIn, Cond.code yX0_callIn cX0_callIn 3 (some .int), Cond.methodLink RX0 145 yX0_endLoan, Cond.instanceMethod yX0_endLoan, Cond.selects RX0 yX0_endLoan yX0_endLoan, Cond.code yX0_endLoan cX0_endLoan 3 none]
def wsL_law0_r8 : List Cond := [Cond.methodLink RX0 170 yX0_borrow, Cond.instanceMethod yX0_borrow, Cond.selects RX0 yX0_borrow yX0_borrow, Cond.code yX0_borrow cX0_borrow 4 (some .int), Cond.methodLink RX0 159 yX0_countBorrowed, Cond.instanceMethod yX0_countBorrowed, Cond.selects RX0 yX0_countBorrowed yX0_countBorrowed, Cond.code yX0_countBorrowed cX0_countBorrowed 4 (some .int), Cond.methodLink RX0 176 yX0_richestLender, Cond.instanceMethod yX0_richestLender, Cond.selects RX0 yX0_richestLender yX0_richestLender, Cond.code yX0_richestLender cX0_richestLender 5 (some .int), Cond.methodLink RX0 179 yX0_frameToLend, Cond.instanceMethod yX0_frameToLend, Cond.selects RX0 yX0_frameToLend yX0_frameToLend, Cond.code yX0_frameToLend cX0_frameToLend 5 (some .int), Cond.methodLink RX0 173 yX0_oldestFrame, Cond.instanceMethod yX0_oldestFrame, Cond.selects RX0 yX0_oldestFrame yX0_oldestFrame, Cond.code yX0_oldestFrame cX0_oldestFrame 5 (some .int), Cond.methodLink RL 31 yX0_payBack, Cond.instanceMethod yX0_payBack, Cond.selects RX0 yX0_payBack yX0_payBack, Cond.code yX0_payBack cX0_payBack 2 (some .int)]
def wsL_law0_r9 : List Cond := [Cond.methodLink RX0 135 yX0_isLoan, Cond.instanceMethod yX0_isLoan, Cond.selects RX0 yX0_isLoan yX0_isLoan, Cond.code yX0_isLoan cX0_isLoan 2 (some .boolean), Cond.methodLink RL 34 yX0_advance, Cond.instanceMethod yX0_advance, Cond.selects RX0 yX0_advance yX0_advance, Cond.code yX0_advance cX0_advance 3 (some .int), Cond.constant RX0 150 (50000), Cond.methodLink RX0 153 yX0_passTick, Cond.instanceMethod yX0_passTick, Cond.selects RX0 yX0_passTick yX0_passTick, Cond.code yX0_passTick cX0_passTick 1 none, Cond.methodLink RX0 184 yX0_payWages, Cond.instanceMethod yX0_payWages, Cond.selects RX0 yX0_payWages yX0_payWages, Cond.code yX0_payWages cX0_payWages 2 none, Cond.methodLink RX0 187 yX0_chargeLoans, Cond.instanceMethod yX0_chargeLoans, Cond.selects RX0 yX0_chargeLoans yX0_chargeLoans, Cond.code yX0_chargeLoans cX0_chargeLoans 2 none, Cond.methodLink RX0 196 yX0_charge, Cond.instanceMethod yX0_charge, Cond.selects RX0 yX0_charge yX0_charge]
def wsL_law0_r10 : List Cond := [Cond.code yX0_charge cX0_charge 4 none, Cond.methodLink RX0 199 yX0_putToSleep, Cond.instanceMethod yX0_putToSleep, Cond.selects RX0 yX0_putToSleep yX0_putToSleep, Cond.code yX0_putToSleep cX0_putToSleep 3 none, Cond.methodLink RX0 190 yX0_giveAlms, Cond.instanceMethod yX0_giveAlms, Cond.selects RX0 yX0_giveAlms yX0_giveAlms, Cond.code yX0_giveAlms cX0_giveAlms 3 none, Cond.methodLink RX0 202 yX0_richestGiver, Cond.instanceMethod yX0_richestGiver, Cond.selects RX0 yX0_richestGiver yX0_richestGiver, Cond.code yX0_richestGiver cX0_richestGiver 4 (some .int), Cond.methodLink RX0 193 yX0_moveDisk, Cond.instanceMethod yX0_moveDisk, Cond.selects RX0 yX0_moveDisk yX0_moveDisk, Cond.code yX0_moveDisk cX0_moveDisk 2 none, Cond.methodLink RX0 209 yX0_nearestRequest, Cond.instanceMethod yX0_nearestRequest, Cond.selects RX0 yX0_nearestRequest yX0_nearestRequest, Cond.code yX0_nearestRequest cX0_nearestRequest 7 (some .int), Cond.methodLink RX0 215 Lib.Math.abs.name, Cond.static Lib.Math.abs.name, Cond.initialized "java/lang/Math"]
def wsL_law0_r11 : List Cond := [Cond.code Lib.Math.abs.name Lib.Math.abs.code 1 (some .int), Cond.methodLink RX0 206 yX0_trackOf, Cond.instanceMethod yX0_trackOf, Cond.selects RX0 yX0_trackOf yX0_trackOf, Cond.code yX0_trackOf cX0_trackOf 2 (some .int), Cond.methodLink RX0 212 yX0_finishRequest, Cond.instanceMethod yX0_finishRequest, Cond.selects RX0 yX0_finishRequest yX0_finishRequest, Cond.code yX0_finishRequest cX0_finishRequest 3 none, Cond.methodLink RL 147 yL_of, Cond.static yL_of, Cond.codeWith yL_of cL_of 4 (some .int) [(0, 202, 203, 37)], Cond.methodLink RL 49 yX0_holderByLog, Cond.instanceMethod yX0_holderByLog, Cond.selects RX0 yX0_holderByLog yX0_holderByLog, Cond.code yX0_holderByLog cX0_holderByLog 3 (some .int), Cond.methodLink RL 58 yX0_owns, Cond.instanceMethod yX0_owns, Cond.selects RX0 yX0_owns yX0_owns, Cond.code yX0_owns cX0_owns 4 (some .int), Cond.methodLink RL 61 yX0_borrowed, Cond.instanceMethod yX0_borrowed, Cond.selects RX0 yX0_borrowed yX0_borrowed, Cond.code yX0_borrowed cX0_borrowed 2 (some .int)]
def wsL_law0_r12 : List Cond := [Cond.methodLink RL 64 yX0_lent, Cond.instanceMethod yX0_lent, Cond.selects RX0 yX0_lent yX0_lent, Cond.code yX0_lent cX0_lent 4 (some .int), Cond.methodLink RL 76 yX0_lasts, Cond.instanceMethod yX0_lasts, Cond.selects RX0 yX0_lasts yX0_lasts, Cond.code yX0_lasts cX0_lasts 2 (some .boolean), Cond.methodLink RL 80 yX0_partiesOf, Cond.instanceMethod yX0_partiesOf, Cond.selects RX0 yX0_partiesOf yX0_partiesOf, Cond.code yX0_partiesOf cX0_partiesOf 2 (some .int), Cond.methodLink RL 83 yX0_interest, Cond.instanceMethod yX0_interest, Cond.selects RX0 yX0_interest yX0_interest, Cond.code yX0_interest cX0_interest 2 (some .int), Cond.methodLink RL 86 yX0_requestAt, Cond.instanceMethod yX0_requestAt, Cond.selects RX0 yX0_requestAt yX0_requestAt, Cond.code yX0_requestAt cX0_requestAt 4 (some .int), Cond.methodLink RX0 164 yX0_isRequested, Cond.instanceMethod yX0_isRequested, Cond.selects RX0 yX0_isRequested yX0_isRequested, Cond.code yX0_isRequested cX0_isRequested 3 (some .boolean)]
def wsL_law0_r13 : List Cond := [Cond.methodLink RL 120 yX0_free, Cond.instanceMethod yX0_free, Cond.selects RX0 yX0_free yX0_free, Cond.code yX0_free cX0_free 3 (some .int), Cond.methodLink RL 156 yL_dice, Cond.static yL_dice, Cond.code yL_dice cL_dice 2 (some .int), Cond.constant RL 7 (1359893119), Cond.constant RL 8 (2147483647), Cond.methodLink RL 160 yL_isTraded, Cond.static yL_isTraded, Cond.code yL_isTraded cL_isTraded 11 (some .boolean), Cond.methodLink RL 139 yL_coins, Cond.static yL_coins, Cond.code yL_coins cL_coins 3 (some .int), Cond.methodLink RL 164 yL_isTouched, Cond.static yL_isTouched, Cond.code yL_isTouched cL_isTouched 14 (some .boolean), Cond.methodLink RL 127 yL_keeps, Cond.static yL_keeps, Cond.code yL_keeps cL_keeps 3 none, Cond.methodLink RL 135 yL_isRight, Cond.static yL_isRight, Cond.code yL_isRight cL_isRight 16 (some .boolean)]
def wsL_law0_r14 : List Cond := [Cond.methodLink RL 123 yL_canLend, Cond.static yL_canLend, Cond.code yL_canLend cL_canLend 3 (some .boolean), Cond.methodLink RL 168 yL_isTicked, Cond.static yL_isTicked, Cond.code yL_isTicked cL_isTicked 16 (some .boolean), Cond.methodLink RL 172 yL_areFrames, Cond.static yL_areFrames, Cond.code yL_areFrames cL_areFrames 12 (some .boolean), Cond.methodLink RL 114 yL_loanOf, Cond.static yL_loanOf, Cond.code yL_loanOf cL_loanOf 4 (some .int)]
def wsL_law0 : List Cond := (wsL_law0_r1 ++ (wsL_law0_r2 ++ (wsL_law0_r3 ++ (wsL_law0_r4 ++ (wsL_law0_r5 ++ (wsL_law0_r6 ++ (wsL_law0_r7 ++ (wsL_law0_r8 ++ (wsL_law0_r9 ++ (wsL_law0_r10 ++ (wsL_law0_r11 ++ (wsL_law0_r12 ++ (wsL_law0_r13 ++ wsL_law0_r14))))))))))))) ++ wsX00 ++ ([] : List Cond)
def wsL_law : List Cond := wsL_law0 ++ (vx_atS RX0 83 "java/lang/IndexOutOfBoundsException" ["java/lang/RuntimeException", "java/lang/Exception"]).filter goodWord ++ (vx_atS RX0 90 "java/lang/IllegalArgumentException" ["java/lang/RuntimeException", "java/lang/Exception"]).filter goodWord ++ (vx_atS RX0 97 "java/lang/IllegalStateException" ["java/lang/RuntimeException", "java/lang/Exception"]).filter goodWord
abbrev vwCl : List vw_C := [(RX0, TX0, 19)]
end
section
set_option maxRecDepth 20000 in
theorem wsL_law0_r1_in : ∀ w ∈ wsL_law0_r1, w ∈ lw_tbl := fun w h => (goodIn_p wsL_law0_r1 [41, 44] rfl (by decide +kernel) w h).1
set_option maxRecDepth 20000 in
theorem wsL_law0_r2_in : ∀ w ∈ wsL_law0_r2, w ∈ lw_tbl := fun w h => (goodIn_p wsL_law0_r2 [47, 489, 198, 492] rfl (by decide +kernel) w h).1
set_option maxRecDepth 20000 in
theorem wsL_law0_r3_in : ∀ w ∈ wsL_law0_r3, w ∈ lw_tbl := fun w h => (goodIn_p wsL_law0_r3 [408, 483, 456, 316, 114] rfl (by decide +kernel) w h).1
set_option maxRecDepth 20000 in
theorem wsL_law0_r4_in : ∀ w ∈ wsL_law0_r4, w ∈ lw_tbl := fun w h => (goodIn_p wsL_law0_r4 [412, 419, 111, 186, 190, 452] rfl (by decide +kernel) w h).1
set_option maxRecDepth 20000 in
theorem wsL_law0_r5_in : ∀ w ∈ wsL_law0_r5, w ∈ lw_tbl := fun w h => (goodIn_p wsL_law0_r5 [229, 427, 466, 226] rfl (by decide +kernel) w h).1
set_option maxRecDepth 20000 in
theorem wsL_law0_r6_in : ∀ w ∈ wsL_law0_r6, w ∈ lw_tbl := fun w h => (goodIn_p wsL_law0_r6 [250, 255, 275, 280, 286] rfl (by decide +kernel) w h).1
set_option maxRecDepth 20000 in
theorem wsL_law0_r7_in : ∀ w ∈ wsL_law0_r7, w ∈ lw_tbl := fun w h => (goodIn_p wsL_law0_r7 [291, 295, 298, 304, 308, 312, 320] rfl (by decide +kernel) w h).1
set_option maxRecDepth 20000 in
theorem wsL_law0_r8_in : ∀ w ∈ wsL_law0_r8, w ∈ lw_tbl := fun w h => (goodIn_p wsL_law0_r8 [324, 328, 332, 336, 341, 346] rfl (by decide +kernel) w h).1
set_option maxRecDepth 20000 in
theorem wsL_law0_r9_in : ∀ w ∈ wsL_law0_r9, w ∈ lw_tbl := fun w h => (goodIn_p wsL_law0_r9 [206, 351, 358, 362, 366] rfl (by decide +kernel) w h).1
set_option maxRecDepth 20000 in
theorem wsL_law0_r10_in : ∀ w ∈ wsL_law0_r10, w ∈ lw_tbl := fun w h => (goodIn_p wsL_law0_r10 [370, 374, 378, 382, 386, 390] rfl (by decide +kernel) w h).1
set_option maxRecDepth 20000 in
theorem wsL_law0_r11_in : ∀ w ∈ wsL_law0_r11, w ∈ lw_tbl := fun w h => (goodIn_p wsL_law0_r11 [397, 394, 401, 423, 440, 444] rfl (by decide +kernel) w h).1
set_option maxRecDepth 20000 in
theorem wsL_law0_r12_in : ∀ w ∈ wsL_law0_r12, w ∈ lw_tbl := fun w h => (goodIn_p wsL_law0_r12 [448, 202, 211, 476, 431, 436] rfl (by decide +kernel) w h).1
set_option maxRecDepth 20000 in
theorem wsL_law0_r13_in : ∀ w ∈ wsL_law0_r13, w ∈ lw_tbl := fun w h => (goodIn_p wsL_law0_r13 [194, 214, 504, 486, 459, 462, 469] rfl (by decide +kernel) w h).1
set_option maxRecDepth 20000 in
theorem wsL_law0_r14_in : ∀ w ∈ wsL_law0_r14, w ∈ lw_tbl := fun w h => (goodIn_p wsL_law0_r14 [472, 479, 404, 415] rfl (by decide +kernel) w h).1
set_option maxRecDepth 20000 in
theorem wsX00_in0 : ∀ w ∈ wsX00, w ∈ lw_tbl := fun w h => (goodIn_p wsX00 [] rfl (by decide +kernel) w h).1
theorem wsL_law0_rs_in : ∀ w ∈ (wsL_law0_r1 ++ (wsL_law0_r2 ++ (wsL_law0_r3 ++ (wsL_law0_r4 ++ (wsL_law0_r5 ++ (wsL_law0_r6 ++ (wsL_law0_r7 ++ (wsL_law0_r8 ++ (wsL_law0_r9 ++ (wsL_law0_r10 ++ (wsL_law0_r11 ++ (wsL_law0_r12 ++ (wsL_law0_r13 ++ wsL_law0_r14))))))))))))), w ∈ lw_tbl := fun w h => (List.mem_append.mp h).elim (wsL_law0_r1_in w) (fun h => (List.mem_append.mp h).elim (wsL_law0_r2_in w) (fun h => (List.mem_append.mp h).elim (wsL_law0_r3_in w) (fun h => (List.mem_append.mp h).elim (wsL_law0_r4_in w) (fun h => (List.mem_append.mp h).elim (wsL_law0_r5_in w) (fun h => (List.mem_append.mp h).elim (wsL_law0_r6_in w) (fun h => (List.mem_append.mp h).elim (wsL_law0_r7_in w) (fun h => (List.mem_append.mp h).elim (wsL_law0_r8_in w) (fun h => (List.mem_append.mp h).elim (wsL_law0_r9_in w) (fun h => (List.mem_append.mp h).elim (wsL_law0_r10_in w) (fun h => (List.mem_append.mp h).elim (wsL_law0_r11_in w) (fun h => (List.mem_append.mp h).elim (wsL_law0_r12_in w) (fun h => (List.mem_append.mp h).elim (wsL_law0_r13_in w) (fun h => wsL_law0_r14_in w h)))))))))))))
theorem wsL_law_in0 : ∀ w ∈ wsL_law0, w ∈ lw_tbl := fun w h => (List.mem_append.mp h).elim (fun h => (List.mem_append.mp h).elim (wsL_law0_rs_in w) (wsX00_in0 w)) (fun h => absurd h List.not_mem_nil)
theorem wsL_law_x0 : ∀ w ∈ (vx_atS RX0 83 "java/lang/IndexOutOfBoundsException" ["java/lang/RuntimeException", "java/lang/Exception"]).filter goodWord, w ∈ lw_tbl := by decide +kernel
theorem wsL_law_x1 : ∀ w ∈ (vx_atS RX0 90 "java/lang/IllegalArgumentException" ["java/lang/RuntimeException", "java/lang/Exception"]).filter goodWord, w ∈ lw_tbl := by decide +kernel
theorem wsL_law_x2 : ∀ w ∈ (vx_atS RX0 97 "java/lang/IllegalStateException" ["java/lang/RuntimeException", "java/lang/Exception"]).filter goodWord, w ∈ lw_tbl := by decide +kernel
theorem wsL_law_in : ∀ w ∈ wsL_law, w ∈ lw_tbl := fun w h => (List.mem_append.mp h).elim (fun h => (List.mem_append.mp h).elim (fun h => (List.mem_append.mp h).elim (fun h => wsL_law_in0 w h) (fun h => wsL_law_x0 w h)) (fun h => wsL_law_x1 w h)) (fun h => wsL_law_x2 w h)
theorem inlX0 : ∀ w ∈ wsX00, w ∈ wsL_law := fun _ h => List.mem_append_left _ (List.mem_append_left _ (List.mem_append_left _ (List.mem_append_left _ (List.mem_append_right _ h))))
theorem inX0 : ∀ w ∈ wsX00, w ∈ lw_tbl := fun w h => wsL_law_in w (inlX0 w h)
theorem inX1 : ∀ w ∈ wsX10, w ∈ lw_tbl := by decide +kernel
theorem inJx145de : ∀ w ∈ wsJx145de0, w ∈ lw_tbl := by decide +kernel
theorem inJ9 : ∀ w ∈ wsJ90, w ∈ lw_tbl := by decide +kernel
theorem inJ0 : ∀ w ∈ wsJ00, w ∈ lw_tbl := by decide +kernel
theorem inJ7 : ∀ w ∈ wsJ70, w ∈ lw_tbl := by decide +kernel
end
section
set_option maxRecDepth 20000 in
theorem ggX0_init_J7_fill_53178 : GoodIn wsX0_init wsJ7_fill_53178 := goodIn_r _ [28] (by decide +kernel) (by decide +kernel)
set_option maxRecDepth 20000 in
theorem gX0_init_J7_fill_53178 : GoodIn wsX0_init (va_wsS RX0 69 yJ7_fill_53178 wsJ7_fill_53178) := goodIn_app (goodIn_of _ (by decide +kernel)) ggX0_init_J7_fill_53178
theorem dX0_init_0 : decode cX0_init 0 = .ok (.aload_n 0, 1) := by decide +kernel
theorem dX0_init_1 : decode cX0_init 1 = .ok (.invokespecial 3, 3) := by decide +kernel
theorem dX0_init_4 : decode cX0_init 4 = .ok (.aload_n 0, 1) := by decide +kernel
theorem dX0_init_5 : decode cX0_init 5 = .ok (.iconst 5, 1) := by decide +kernel
theorem dX0_init_6 : decode cX0_init 6 = .ok (.newarray .int, 2) := by decide +kernel
theorem dX0_init_8 : decode cX0_init 8 = .ok (.putfield 9, 3) := by decide +kernel
theorem dX0_init_11 : decode cX0_init 11 = .ok (.aload_n 0, 1) := by decide +kernel
theorem dX0_init_12 : decode cX0_init 12 = .ok (.iconst 5, 1) := by decide +kernel
theorem dX0_init_13 : decode cX0_init 13 = .ok (.newarray .int, 2) := by decide +kernel
theorem dX0_init_15 : decode cX0_init 15 = .ok (.putfield 13, 3) := by decide +kernel
theorem dX0_init_18 : decode cX0_init 18 = .ok (.aload_n 0, 1) := by decide +kernel
theorem dX0_init_19 : decode cX0_init 19 = .ok (.iconst 5, 1) := by decide +kernel
theorem dX0_init_20 : decode cX0_init 20 = .ok (.newarray .int, 2) := by decide +kernel
theorem dX0_init_22 : decode cX0_init 22 = .ok (.putfield 16, 3) := by decide +kernel
theorem dX0_init_25 : decode cX0_init 25 = .ok (.aload_n 0, 1) := by decide +kernel
theorem dX0_init_26 : decode cX0_init 26 = .ok (.iconst 5, 1) := by decide +kernel
theorem dX0_init_27 : decode cX0_init 27 = .ok (.newarray .int, 2) := by decide +kernel
theorem dX0_init_29 : decode cX0_init 29 = .ok (.putfield 19, 3) := by decide +kernel
theorem dX0_init_32 : decode cX0_init 32 = .ok (.aload_n 0, 1) := by decide +kernel
theorem dX0_init_33 : decode cX0_init 33 = .ok (.bipush 12, 2) := by decide +kernel
theorem dX0_init_35 : decode cX0_init 35 = .ok (.newarray .int, 2) := by decide +kernel
theorem dX0_init_37 : decode cX0_init 37 = .ok (.putfield 22, 3) := by decide +kernel
theorem dX0_init_40 : decode cX0_init 40 = .ok (.aload_n 0, 1) := by decide +kernel
theorem dX0_init_41 : decode cX0_init 41 = .ok (.bipush 12, 2) := by decide +kernel
theorem dX0_init_43 : decode cX0_init 43 = .ok (.newarray .int, 2) := by decide +kernel
theorem dX0_init_45 : decode cX0_init 45 = .ok (.putfield 25, 3) := by decide +kernel
theorem dX0_init_48 : decode cX0_init 48 = .ok (.aload_n 0, 1) := by decide +kernel
theorem dX0_init_49 : decode cX0_init 49 = .ok (.bipush 12, 2) := by decide +kernel
theorem dX0_init_51 : decode cX0_init 51 = .ok (.newarray .int, 2) := by decide +kernel
theorem dX0_init_53 : decode cX0_init 53 = .ok (.putfield 28, 3) := by decide +kernel
theorem dX0_init_56 : decode cX0_init 56 = .ok (.aload_n 0, 1) := by decide +kernel
theorem dX0_init_57 : decode cX0_init 57 = .ok (.bipush 12, 2) := by decide +kernel
theorem dX0_init_59 : decode cX0_init 59 = .ok (.newarray .boolean, 2) := by decide +kernel
theorem dX0_init_61 : decode cX0_init 61 = .ok (.putfield 31, 3) := by decide +kernel
theorem dX0_init_64 : decode cX0_init 64 = .ok (.aload_n 0, 1) := by decide +kernel
theorem dX0_init_65 : decode cX0_init 65 = .ok (.bipush 12, 2) := by decide +kernel
theorem dX0_init_67 : decode cX0_init 67 = .ok (.newarray .int, 2) := by decide +kernel
theorem dX0_init_69 : decode cX0_init 69 = .ok (.putfield 35, 3) := by decide +kernel
theorem dX0_init_72 : decode cX0_init 72 = .ok (.aload_n 0, 1) := by decide +kernel
theorem dX0_init_73 : decode cX0_init 73 = .ok (.bipush 60, 2) := by decide +kernel
theorem dX0_init_75 : decode cX0_init 75 = .ok (.newarray .int, 2) := by decide +kernel
theorem dX0_init_77 : decode cX0_init 77 = .ok (.putfield 38, 3) := by decide +kernel
theorem dX0_init_80 : decode cX0_init 80 = .ok (.aload_n 0, 1) := by decide +kernel
theorem dX0_init_81 : decode cX0_init 81 = .ok (.bipush 60, 2) := by decide +kernel
theorem dX0_init_83 : decode cX0_init 83 = .ok (.newarray .int, 2) := by decide +kernel
theorem dX0_init_85 : decode cX0_init 85 = .ok (.putfield 41, 3) := by decide +kernel
theorem dX0_init_88 : decode cX0_init 88 = .ok (.aload_n 0, 1) := by decide +kernel
theorem dX0_init_89 : decode cX0_init 89 = .ok (.bipush 60, 2) := by decide +kernel
theorem dX0_init_91 : decode cX0_init 91 = .ok (.newarray .int, 2) := by decide +kernel
theorem dX0_init_93 : decode cX0_init 93 = .ok (.putfield 44, 3) := by decide +kernel
theorem dX0_init_96 : decode cX0_init 96 = .ok (.aload_n 0, 1) := by decide +kernel
theorem dX0_init_97 : decode cX0_init 97 = .ok (.bipush 60, 2) := by decide +kernel
theorem dX0_init_99 : decode cX0_init 99 = .ok (.newarray .boolean, 2) := by decide +kernel
theorem dX0_init_101 : decode cX0_init 101 = .ok (.putfield 47, 3) := by decide +kernel
theorem dX0_init_104 : decode cX0_init 104 = .ok (.aload_n 0, 1) := by decide +kernel
theorem dX0_init_105 : decode cX0_init 105 = .ok (.bipush 60, 2) := by decide +kernel
theorem dX0_init_107 : decode cX0_init 107 = .ok (.newarray .int, 2) := by decide +kernel
theorem dX0_init_109 : decode cX0_init 109 = .ok (.putfield 50, 3) := by decide +kernel
theorem dX0_init_112 : decode cX0_init 112 = .ok (.aload_n 0, 1) := by decide +kernel
theorem dX0_init_113 : decode cX0_init 113 = .ok (.iconst 0, 1) := by decide +kernel
theorem dX0_init_114 : decode cX0_init 114 = .ok (.putfield 53, 3) := by decide +kernel
theorem dX0_init_117 : decode cX0_init 117 = .ok (.aload_n 0, 1) := by decide +kernel
theorem dX0_init_118 : decode cX0_init 118 = .ok (.iconst 1, 1) := by decide +kernel
theorem dX0_init_119 : decode cX0_init 119 = .ok (.putfield 57, 3) := by decide +kernel
theorem dX0_init_122 : decode cX0_init 122 = .ok (.aload_n 0, 1) := by decide +kernel
theorem dX0_init_123 : decode cX0_init 123 = .ok (.iconst 0, 1) := by decide +kernel
theorem dX0_init_124 : decode cX0_init 124 = .ok (.putfield 60, 3) := by decide +kernel
theorem dX0_init_127 : decode cX0_init 127 = .ok (.aload_n 0, 1) := by decide +kernel
theorem dX0_init_128 : decode cX0_init 128 = .ok (.iconst 0, 1) := by decide +kernel
theorem dX0_init_129 : decode cX0_init 129 = .ok (.putfield 63, 3) := by decide +kernel
theorem dX0_init_132 : decode cX0_init 132 = .ok (.aload_n 0, 1) := by decide +kernel
theorem dX0_init_133 : decode cX0_init 133 = .ok (.iconst (-1), 1) := by decide +kernel
theorem dX0_init_134 : decode cX0_init 134 = .ok (.putfield 66, 3) := by decide +kernel
theorem dX0_init_137 : decode cX0_init 137 = .ok (.aload_n 0, 1) := by decide +kernel
theorem dX0_init_138 : decode cX0_init 138 = .ok (.getfield 13, 3) := by decide +kernel
theorem dX0_init_141 : decode cX0_init 141 = .ok (.bipush 20, 2) := by decide +kernel
theorem dX0_init_143 : decode cX0_init 143 = .ok (.invokestatic 69, 3) := by decide +kernel
theorem dX0_init_146 : decode cX0_init 146 = .ok (.aload_n 0, 1) := by decide +kernel
theorem dX0_init_147 : decode cX0_init 147 = .ok (.getfield 16, 3) := by decide +kernel
theorem dX0_init_150 : decode cX0_init 150 = .ok (.iconst 0, 1) := by decide +kernel
theorem dX0_init_151 : decode cX0_init 151 = .ok (.invokestatic 69, 3) := by decide +kernel
theorem dX0_init_154 : decode cX0_init 154 = .ok (.aload_n 0, 1) := by decide +kernel
theorem dX0_init_155 : decode cX0_init 155 = .ok (.getfield 22, 3) := by decide +kernel
theorem dX0_init_158 : decode cX0_init 158 = .ok (.iconst (-1), 1) := by decide +kernel
theorem dX0_init_159 : decode cX0_init 159 = .ok (.invokestatic 69, 3) := by decide +kernel
theorem dX0_init_162 : decode cX0_init 162 = .ok (.aload_n 0, 1) := by decide +kernel
theorem dX0_init_163 : decode cX0_init 163 = .ok (.getfield 25, 3) := by decide +kernel
theorem dX0_init_166 : decode cX0_init 166 = .ok (.iconst (-1), 1) := by decide +kernel
theorem dX0_init_167 : decode cX0_init 167 = .ok (.invokestatic 69, 3) := by decide +kernel
theorem dX0_init_170 : decode cX0_init 170 = .ok (.aload_n 0, 1) := by decide +kernel
theorem dX0_init_171 : decode cX0_init 171 = .ok (.getfield 28, 3) := by decide +kernel
theorem dX0_init_174 : decode cX0_init 174 = .ok (.iconst (-1), 1) := by decide +kernel
theorem dX0_init_175 : decode cX0_init 175 = .ok (.invokestatic 69, 3) := by decide +kernel
theorem dX0_init_178 : decode cX0_init 178 = .ok (.return_, 1) := by decide +kernel
set_option maxRecDepth 20000 in
theorem ggX0_setWage_X0_isProcess : GoodIn wsX0_setWage wsX0_isProcess := goodIn_r _ [9] (by decide +kernel) (by decide +kernel)
set_option maxRecDepth 20000 in
theorem gX0_setWage_X0_isProcess : GoodIn wsX0_setWage (va_wsS RX0 75 yX0_isProcess wsX0_isProcess) := goodIn_app (goodIn_of _ (by decide +kernel)) ggX0_setWage_X0_isProcess
theorem dX0_setWage_0 : decode cX0_setWage 0 = .ok (.iload_n 1, 1) := by decide +kernel
theorem dX0_setWage_1 : decode cX0_setWage 1 = .ok (.invokestatic 75, 3) := by decide +kernel
theorem dX0_setWage_4 : decode cX0_setWage 4 = .ok (.ifCond .ne 13, 3) := by decide +kernel
theorem dX0_setWage_7 : decode cX0_setWage 7 = .ok (.new 79, 3) := by decide +kernel
theorem dX0_setWage_10 : decode cX0_setWage 10 = .ok (.dup, 1) := by decide +kernel
theorem dX0_setWage_11 : decode cX0_setWage 11 = .ok (.ldc 81, 2) := by decide +kernel
theorem dX0_setWage_13 : decode cX0_setWage 13 = .ok (.invokespecial 83, 3) := by decide +kernel
theorem dX0_setWage_16 : decode cX0_setWage 16 = .ok (.athrow, 1) := by decide +kernel
theorem dX0_setWage_17 : decode cX0_setWage 17 = .ok (.iload_n 2, 1) := by decide +kernel
theorem dX0_setWage_18 : decode cX0_setWage 18 = .ok (.ifCond .lt 9, 3) := by decide +kernel
theorem dX0_setWage_21 : decode cX0_setWage 21 = .ok (.iload_n 2, 1) := by decide +kernel
theorem dX0_setWage_22 : decode cX0_setWage 22 = .ok (.bipush 9, 2) := by decide +kernel
theorem dX0_setWage_24 : decode cX0_setWage 24 = .ok (.if_icmp .le 13, 3) := by decide +kernel
theorem dX0_setWage_27 : decode cX0_setWage 27 = .ok (.new 86, 3) := by decide +kernel
theorem dX0_setWage_30 : decode cX0_setWage 30 = .ok (.dup, 1) := by decide +kernel
theorem dX0_setWage_31 : decode cX0_setWage 31 = .ok (.ldc 88, 2) := by decide +kernel
theorem dX0_setWage_33 : decode cX0_setWage 33 = .ok (.invokespecial 90, 3) := by decide +kernel
theorem dX0_setWage_36 : decode cX0_setWage 36 = .ok (.athrow, 1) := by decide +kernel
theorem dX0_setRate_0 : decode cX0_setRate 0 = .ok (.iload_n 1, 1) := by decide +kernel
theorem dX0_setRate_1 : decode cX0_setRate 1 = .ok (.ifCond .lt 9, 3) := by decide +kernel
theorem dX0_setRate_4 : decode cX0_setRate 4 = .ok (.iload_n 1, 1) := by decide +kernel
theorem dX0_setRate_5 : decode cX0_setRate 5 = .ok (.bipush 9, 2) := by decide +kernel
theorem dX0_setRate_7 : decode cX0_setRate 7 = .ok (.if_icmp .le 13, 3) := by decide +kernel
theorem dX0_setRate_10 : decode cX0_setRate 10 = .ok (.new 86, 3) := by decide +kernel
theorem dX0_setRate_13 : decode cX0_setRate 13 = .ok (.dup, 1) := by decide +kernel
theorem dX0_setRate_14 : decode cX0_setRate 14 = .ok (.ldc 91, 2) := by decide +kernel
theorem dX0_setRate_16 : decode cX0_setRate 16 = .ok (.invokespecial 90, 3) := by decide +kernel
theorem dX0_setRate_19 : decode cX0_setRate 19 = .ok (.athrow, 1) := by decide +kernel
set_option maxRecDepth 20000 in
theorem ggX0_buy_X0_isProcess : GoodIn wsX0_buy wsX0_isProcess := goodIn_r _ [12] (by decide +kernel) (by decide +kernel)
set_option maxRecDepth 20000 in
theorem gX0_buy_X0_isProcess : GoodIn wsX0_buy (va_wsS RX0 75 yX0_isProcess wsX0_isProcess) := goodIn_app (goodIn_of _ (by decide +kernel)) ggX0_buy_X0_isProcess
set_option maxRecDepth 20000 in
theorem ggX0_buy_X0_isFrame : GoodIn wsX0_buy wsX0_isFrame := goodIn_r _ [20] (by decide +kernel) (by decide +kernel)
set_option maxRecDepth 20000 in
theorem gX0_buy_X0_isFrame : GoodIn wsX0_buy (va_wsS RX0 102 yX0_isFrame wsX0_isFrame) := goodIn_app (goodIn_of _ (by decide +kernel)) ggX0_buy_X0_isFrame
theorem dX0_buy_0 : decode cX0_buy 0 = .ok (.iload_n 1, 1) := by decide +kernel
theorem dX0_buy_1 : decode cX0_buy 1 = .ok (.invokestatic 75, 3) := by decide +kernel
theorem dX0_buy_4 : decode cX0_buy 4 = .ok (.ifCond .ne 13, 3) := by decide +kernel
theorem dX0_buy_7 : decode cX0_buy 7 = .ok (.new 79, 3) := by decide +kernel
theorem dX0_buy_10 : decode cX0_buy 10 = .ok (.dup, 1) := by decide +kernel
theorem dX0_buy_11 : decode cX0_buy 11 = .ok (.ldc 81, 2) := by decide +kernel
theorem dX0_buy_13 : decode cX0_buy 13 = .ok (.invokespecial 83, 3) := by decide +kernel
theorem dX0_buy_16 : decode cX0_buy 16 = .ok (.athrow, 1) := by decide +kernel
set_option maxRecDepth 20000 in
theorem ggX0_sell_X0_isFrame : GoodIn wsX0_sell wsX0_isFrame := goodIn_r _ [13] (by decide +kernel) (by decide +kernel)
set_option maxRecDepth 20000 in
theorem gX0_sell_X0_isFrame : GoodIn wsX0_sell (va_wsS RX0 102 yX0_isFrame wsX0_isFrame) := goodIn_app (goodIn_of _ (by decide +kernel)) ggX0_sell_X0_isFrame
set_option maxRecDepth 20000 in
theorem ggX0_sell_X0_isProcess : GoodIn wsX0_sell wsX0_isProcess := goodIn_r _ [16] (by decide +kernel) (by decide +kernel)
set_option maxRecDepth 20000 in
theorem gX0_sell_X0_isProcess : GoodIn wsX0_sell (va_wsS RX0 75 yX0_isProcess wsX0_isProcess) := goodIn_app (goodIn_of _ (by decide +kernel)) ggX0_sell_X0_isProcess
theorem dX0_sell_0 : decode cX0_sell 0 = .ok (.iload_n 1, 1) := by decide +kernel
theorem dX0_sell_1 : decode cX0_sell 1 = .ok (.invokestatic 102, 3) := by decide +kernel
theorem dX0_sell_4 : decode cX0_sell 4 = .ok (.ifCond .ne 13, 3) := by decide +kernel
theorem dX0_sell_7 : decode cX0_sell 7 = .ok (.new 79, 3) := by decide +kernel
theorem dX0_sell_10 : decode cX0_sell 10 = .ok (.dup, 1) := by decide +kernel
theorem dX0_sell_11 : decode cX0_sell 11 = .ok (.ldc 107, 2) := by decide +kernel
theorem dX0_sell_13 : decode cX0_sell 13 = .ok (.invokespecial 83, 3) := by decide +kernel
theorem dX0_sell_16 : decode cX0_sell 16 = .ok (.athrow, 1) := by decide +kernel
theorem dX0_sell_17 : decode cX0_sell 17 = .ok (.aload_n 0, 1) := by decide +kernel
theorem dX0_sell_18 : decode cX0_sell 18 = .ok (.getfield 22, 3) := by decide +kernel
theorem dX0_sell_21 : decode cX0_sell 21 = .ok (.iload_n 1, 1) := by decide +kernel
theorem dX0_sell_22 : decode cX0_sell 22 = .ok (.iaload, 1) := by decide +kernel
theorem dX0_sell_23 : decode cX0_sell 23 = .ok (.istore_n 2, 1) := by decide +kernel
theorem dX0_sell_24 : decode cX0_sell 24 = .ok (.iload_n 2, 1) := by decide +kernel
theorem dX0_sell_25 : decode cX0_sell 25 = .ok (.invokestatic 75, 3) := by decide +kernel
theorem dX0_sell_28 : decode cX0_sell 28 = .ok (.ifCond .ne 13, 3) := by decide +kernel
theorem dX0_sell_31 : decode cX0_sell 31 = .ok (.new 93, 3) := by decide +kernel
theorem dX0_sell_34 : decode cX0_sell 34 = .ok (.dup, 1) := by decide +kernel
theorem dX0_sell_35 : decode cX0_sell 35 = .ok (.ldc 109, 2) := by decide +kernel
theorem dX0_sell_37 : decode cX0_sell 37 = .ok (.invokespecial 97, 3) := by decide +kernel
theorem dX0_sell_40 : decode cX0_sell 40 = .ok (.athrow, 1) := by decide +kernel
set_option maxRecDepth 20000 in
theorem ggX0_drop_X0_isFrame : GoodIn wsX0_drop wsX0_isFrame := goodIn_r _ [10] (by decide +kernel) (by decide +kernel)
set_option maxRecDepth 20000 in
theorem gX0_drop_X0_isFrame : GoodIn wsX0_drop (va_wsS RX0 102 yX0_isFrame wsX0_isFrame) := goodIn_app (goodIn_of _ (by decide +kernel)) ggX0_drop_X0_isFrame
theorem dX0_drop_0 : decode cX0_drop 0 = .ok (.iload_n 1, 1) := by decide +kernel
theorem dX0_drop_1 : decode cX0_drop 1 = .ok (.invokestatic 102, 3) := by decide +kernel
theorem dX0_drop_4 : decode cX0_drop 4 = .ok (.ifCond .ne 13, 3) := by decide +kernel
theorem dX0_drop_7 : decode cX0_drop 7 = .ok (.new 79, 3) := by decide +kernel
theorem dX0_drop_10 : decode cX0_drop 10 = .ok (.dup, 1) := by decide +kernel
theorem dX0_drop_11 : decode cX0_drop 11 = .ok (.ldc 107, 2) := by decide +kernel
theorem dX0_drop_13 : decode cX0_drop 13 = .ok (.invokespecial 83, 3) := by decide +kernel
theorem dX0_drop_16 : decode cX0_drop 16 = .ok (.athrow, 1) := by decide +kernel
theorem dX0_drop_17 : decode cX0_drop 17 = .ok (.aload_n 0, 1) := by decide +kernel
theorem dX0_drop_18 : decode cX0_drop 18 = .ok (.getfield 31, 3) := by decide +kernel
theorem dX0_drop_21 : decode cX0_drop 21 = .ok (.iload_n 1, 1) := by decide +kernel
theorem dX0_drop_22 : decode cX0_drop 22 = .ok (.baload, 1) := by decide +kernel
theorem dX0_drop_23 : decode cX0_drop 23 = .ok (.ifCond .ne 13, 3) := by decide +kernel
theorem dX0_drop_26 : decode cX0_drop 26 = .ok (.new 93, 3) := by decide +kernel
theorem dX0_drop_29 : decode cX0_drop 29 = .ok (.dup, 1) := by decide +kernel
theorem dX0_drop_30 : decode cX0_drop 30 = .ok (.ldc 113, 2) := by decide +kernel
theorem dX0_drop_32 : decode cX0_drop 32 = .ok (.invokespecial 97, 3) := by decide +kernel
theorem dX0_drop_35 : decode cX0_drop 35 = .ok (.athrow, 1) := by decide +kernel
set_option maxRecDepth 20000 in
theorem ggX0_touch_X0_isProcess : GoodIn wsX0_touch wsX0_isProcess := goodIn_r _ [14] (by decide +kernel) (by decide +kernel)
set_option maxRecDepth 20000 in
theorem gX0_touch_X0_isProcess : GoodIn wsX0_touch (va_wsS RX0 75 yX0_isProcess wsX0_isProcess) := goodIn_app (goodIn_of _ (by decide +kernel)) ggX0_touch_X0_isProcess
set_option maxRecDepth 20000 in
theorem ggX0_touch_X0_isPage : GoodIn wsX0_touch wsX0_isPage := goodIn_r _ [17] (by decide +kernel) (by decide +kernel)
set_option maxRecDepth 20000 in
theorem gX0_touch_X0_isPage : GoodIn wsX0_touch (va_wsS RX0 119 yX0_isPage wsX0_isPage) := goodIn_app (goodIn_of _ (by decide +kernel)) ggX0_touch_X0_isPage
set_option maxRecDepth 20000 in
theorem ggX0_touch_X0_isFrame : GoodIn wsX0_touch wsX0_isFrame := goodIn_r _ [25] (by decide +kernel) (by decide +kernel)
set_option maxRecDepth 20000 in
theorem gX0_touch_X0_isFrame : GoodIn wsX0_touch (va_wsS RX0 102 yX0_isFrame wsX0_isFrame) := goodIn_app (goodIn_of _ (by decide +kernel)) ggX0_touch_X0_isFrame
theorem dX0_touch_0 : decode cX0_touch 0 = .ok (.iload_n 1, 1) := by decide +kernel
theorem dX0_touch_1 : decode cX0_touch 1 = .ok (.invokestatic 75, 3) := by decide +kernel
theorem dX0_touch_4 : decode cX0_touch 4 = .ok (.ifCond .eq 10, 3) := by decide +kernel
theorem dX0_touch_7 : decode cX0_touch 7 = .ok (.iload_n 2, 1) := by decide +kernel
theorem dX0_touch_8 : decode cX0_touch 8 = .ok (.invokestatic 119, 3) := by decide +kernel
theorem dX0_touch_11 : decode cX0_touch 11 = .ok (.ifCond .ne 13, 3) := by decide +kernel
theorem dX0_touch_14 : decode cX0_touch 14 = .ok (.new 79, 3) := by decide +kernel
theorem dX0_touch_17 : decode cX0_touch 17 = .ok (.dup, 1) := by decide +kernel
theorem dX0_touch_18 : decode cX0_touch 18 = .ok (.ldc 122, 2) := by decide +kernel
theorem dX0_touch_20 : decode cX0_touch 20 = .ok (.invokespecial 83, 3) := by decide +kernel
theorem dX0_touch_23 : decode cX0_touch 23 = .ok (.athrow, 1) := by decide +kernel
set_option maxRecDepth 20000 in
theorem ggX0_payBack_X0_isLoan : GoodIn wsX0_payBack wsX0_isLoan := goodIn_r _ [12, 13, 34, 35, 36, 37, 38, 39, 40, 41, 42, 43, 44, 45, 46, 47, 48, 49, 50, 51, 52] (by decide +kernel) (by decide +kernel)
set_option maxRecDepth 20000 in
theorem gX0_payBack_X0_isLoan : GoodIn wsX0_payBack (wsV RX0 135 RX0 yX0_isLoan wsX0_isLoan) := goodIn_app (goodIn_of _ (by decide +kernel)) ggX0_payBack_X0_isLoan
set_option maxRecDepth 20000 in
theorem ggX0_payBack_X0_isComing : GoodIn wsX0_payBack wsX0_isComing := goodIn_r _ [17, 18, 19, 20, 21, 11, 22, 34, 35, 36, 37, 38, 39, 40, 41, 42, 43, 44, 45, 46, 47, 48, 49, 50, 51, 52] (by decide +kernel) (by decide +kernel)
set_option maxRecDepth 20000 in
theorem gX0_payBack_X0_isComing : GoodIn wsX0_payBack (wsV RX0 140 RX0 yX0_isComing wsX0_isComing) := goodIn_app (goodIn_of _ (by decide +kernel)) ggX0_payBack_X0_isComing
theorem dX0_payBack_0 : decode cX0_payBack 0 = .ok (.aload_n 0, 1) := by decide +kernel
theorem dX0_payBack_1 : decode cX0_payBack 1 = .ok (.iload_n 1, 1) := by decide +kernel
theorem dX0_payBack_2 : decode cX0_payBack 2 = .ok (.invokevirtual 135, 3) := by decide +kernel
theorem dX0_payBack_5 : decode cX0_payBack 5 = .ok (.ifCond .ne 13, 3) := by decide +kernel
theorem dX0_payBack_8 : decode cX0_payBack 8 = .ok (.new 79, 3) := by decide +kernel
theorem dX0_payBack_11 : decode cX0_payBack 11 = .ok (.dup, 1) := by decide +kernel
theorem dX0_payBack_12 : decode cX0_payBack 12 = .ok (.ldc 138, 2) := by decide +kernel
theorem dX0_payBack_14 : decode cX0_payBack 14 = .ok (.invokespecial 83, 3) := by decide +kernel
theorem dX0_payBack_17 : decode cX0_payBack 17 = .ok (.athrow, 1) := by decide +kernel
theorem dX0_advance_0 : decode cX0_advance 0 = .ok (.iload_n 1, 1) := by decide +kernel
theorem dX0_advance_1 : decode cX0_advance 1 = .ok (.iconst 1, 1) := by decide +kernel
theorem dX0_advance_2 : decode cX0_advance 2 = .ok (.if_icmp .lt 10, 3) := by decide +kernel
theorem dX0_advance_5 : decode cX0_advance 5 = .ok (.iload_n 1, 1) := by decide +kernel
theorem dX0_advance_6 : decode cX0_advance 6 = .ok (.sipush 200, 3) := by decide +kernel
theorem dX0_advance_9 : decode cX0_advance 9 = .ok (.if_icmp .le 13, 3) := by decide +kernel
theorem dX0_advance_12 : decode cX0_advance 12 = .ok (.new 86, 3) := by decide +kernel
theorem dX0_advance_15 : decode cX0_advance 15 = .ok (.dup, 1) := by decide +kernel
theorem dX0_advance_16 : decode cX0_advance 16 = .ok (.ldc 148, 2) := by decide +kernel
theorem dX0_advance_18 : decode cX0_advance 18 = .ok (.invokespecial 90, 3) := by decide +kernel
theorem dX0_advance_21 : decode cX0_advance 21 = .ok (.athrow, 1) := by decide +kernel
theorem dX0_tick_0 : decode cX0_tick 0 = .ok (.aload_n 0, 1) := by decide +kernel
theorem dX0_tick_1 : decode cX0_tick 1 = .ok (.getfield 60, 3) := by decide +kernel
theorem dX0_tick_4 : decode cX0_tick 4 = .ok (.ireturn, 1) := by decide +kernel
set_option maxRecDepth 20000 in
theorem ggX0_owner_X0_isFrame : GoodIn wsX0_owner wsX0_isFrame := goodIn_r _ [7] (by decide +kernel) (by decide +kernel)
set_option maxRecDepth 20000 in
theorem gX0_owner_X0_isFrame : GoodIn wsX0_owner (va_wsS RX0 102 yX0_isFrame wsX0_isFrame) := goodIn_app (goodIn_of _ (by decide +kernel)) ggX0_owner_X0_isFrame
theorem dX0_owner_0 : decode cX0_owner 0 = .ok (.iload_n 1, 1) := by decide +kernel
theorem dX0_owner_1 : decode cX0_owner 1 = .ok (.invokestatic 102, 3) := by decide +kernel
theorem dX0_owner_4 : decode cX0_owner 4 = .ok (.ifCond .ne 13, 3) := by decide +kernel
theorem dX0_owner_7 : decode cX0_owner 7 = .ok (.new 79, 3) := by decide +kernel
theorem dX0_owner_10 : decode cX0_owner 10 = .ok (.dup, 1) := by decide +kernel
theorem dX0_owner_11 : decode cX0_owner 11 = .ok (.ldc 107, 2) := by decide +kernel
theorem dX0_owner_13 : decode cX0_owner 13 = .ok (.invokespecial 83, 3) := by decide +kernel
theorem dX0_owner_16 : decode cX0_owner 16 = .ok (.athrow, 1) := by decide +kernel
theorem dX0_owner_17 : decode cX0_owner 17 = .ok (.aload_n 0, 1) := by decide +kernel
theorem dX0_owner_18 : decode cX0_owner 18 = .ok (.getfield 22, 3) := by decide +kernel
theorem dX0_owner_21 : decode cX0_owner 21 = .ok (.iload_n 1, 1) := by decide +kernel
theorem dX0_owner_22 : decode cX0_owner 22 = .ok (.iaload, 1) := by decide +kernel
theorem dX0_owner_23 : decode cX0_owner 23 = .ok (.ireturn, 1) := by decide +kernel
set_option maxRecDepth 20000 in
theorem ggX0_holder_X0_isFrame : GoodIn wsX0_holder wsX0_isFrame := goodIn_r _ [7] (by decide +kernel) (by decide +kernel)
set_option maxRecDepth 20000 in
theorem gX0_holder_X0_isFrame : GoodIn wsX0_holder (va_wsS RX0 102 yX0_isFrame wsX0_isFrame) := goodIn_app (goodIn_of _ (by decide +kernel)) ggX0_holder_X0_isFrame
theorem dX0_holder_0 : decode cX0_holder 0 = .ok (.iload_n 1, 1) := by decide +kernel
theorem dX0_holder_1 : decode cX0_holder 1 = .ok (.invokestatic 102, 3) := by decide +kernel
theorem dX0_holder_4 : decode cX0_holder 4 = .ok (.ifCond .ne 13, 3) := by decide +kernel
theorem dX0_holder_7 : decode cX0_holder 7 = .ok (.new 79, 3) := by decide +kernel
theorem dX0_holder_10 : decode cX0_holder 10 = .ok (.dup, 1) := by decide +kernel
theorem dX0_holder_11 : decode cX0_holder 11 = .ok (.ldc 107, 2) := by decide +kernel
theorem dX0_holder_13 : decode cX0_holder 13 = .ok (.invokespecial 83, 3) := by decide +kernel
theorem dX0_holder_16 : decode cX0_holder 16 = .ok (.athrow, 1) := by decide +kernel
theorem dX0_holder_17 : decode cX0_holder 17 = .ok (.aload_n 0, 1) := by decide +kernel
theorem dX0_holder_18 : decode cX0_holder 18 = .ok (.getfield 25, 3) := by decide +kernel
theorem dX0_holder_21 : decode cX0_holder 21 = .ok (.iload_n 1, 1) := by decide +kernel
theorem dX0_holder_22 : decode cX0_holder 22 = .ok (.iaload, 1) := by decide +kernel
theorem dX0_holder_23 : decode cX0_holder 23 = .ok (.ireturn, 1) := by decide +kernel
set_option maxRecDepth 20000 in
theorem ggX0_holderByLog_X0_isFrame : GoodIn wsX0_holderByLog wsX0_isFrame := goodIn_r _ [11] (by decide +kernel) (by decide +kernel)
set_option maxRecDepth 20000 in
theorem gX0_holderByLog_X0_isFrame : GoodIn wsX0_holderByLog (va_wsS RX0 102 yX0_isFrame wsX0_isFrame) := goodIn_app (goodIn_of _ (by decide +kernel)) ggX0_holderByLog_X0_isFrame
theorem dX0_holderByLog_0 : decode cX0_holderByLog 0 = .ok (.iload_n 1, 1) := by decide +kernel
theorem dX0_holderByLog_1 : decode cX0_holderByLog 1 = .ok (.invokestatic 102, 3) := by decide +kernel
theorem dX0_holderByLog_4 : decode cX0_holderByLog 4 = .ok (.ifCond .ne 13, 3) := by decide +kernel
theorem dX0_holderByLog_7 : decode cX0_holderByLog 7 = .ok (.new 79, 3) := by decide +kernel
theorem dX0_holderByLog_10 : decode cX0_holderByLog 10 = .ok (.dup, 1) := by decide +kernel
theorem dX0_holderByLog_11 : decode cX0_holderByLog 11 = .ok (.ldc 107, 2) := by decide +kernel
theorem dX0_holderByLog_13 : decode cX0_holderByLog 13 = .ok (.invokespecial 83, 3) := by decide +kernel
theorem dX0_holderByLog_16 : decode cX0_holderByLog 16 = .ok (.athrow, 1) := by decide +kernel
theorem dX0_holderByLog_17 : decode cX0_holderByLog 17 = .ok (.iconst 0, 1) := by decide +kernel
theorem dX0_holderByLog_18 : decode cX0_holderByLog 18 = .ok (.istore_n 2, 1) := by decide +kernel
theorem dX0_holderByLog_19 : decode cX0_holderByLog 19 = .ok (.iload_n 2, 1) := by decide +kernel
theorem dX0_holderByLog_20 : decode cX0_holderByLog 20 = .ok (.bipush 60, 2) := by decide +kernel
theorem dX0_holderByLog_22 : decode cX0_holderByLog 22 = .ok (.if_icmp .ge 43, 3) := by decide +kernel
theorem dX0_holderByLog_25 : decode cX0_holderByLog 25 = .ok (.iload_n 2, 1) := by decide +kernel
theorem dX0_holderByLog_26 : decode cX0_holderByLog 26 = .ok (.aload_n 0, 1) := by decide +kernel
theorem dX0_holderByLog_27 : decode cX0_holderByLog 27 = .ok (.getfield 53, 3) := by decide +kernel
theorem dX0_holderByLog_30 : decode cX0_holderByLog 30 = .ok (.if_icmp .ge 35, 3) := by decide +kernel
theorem dX0_holderByLog_65 : decode cX0_holderByLog 65 = .ok (.aload_n 0, 1) := by decide +kernel
theorem dX0_holderByLog_66 : decode cX0_holderByLog 66 = .ok (.getfield 22, 3) := by decide +kernel
theorem dX0_holderByLog_69 : decode cX0_holderByLog 69 = .ok (.iload_n 1, 1) := by decide +kernel
theorem dX0_holderByLog_70 : decode cX0_holderByLog 70 = .ok (.iaload, 1) := by decide +kernel
theorem dX0_holderByLog_71 : decode cX0_holderByLog 71 = .ok (.ireturn, 1) := by decide +kernel
set_option maxRecDepth 20000 in
theorem ggX0_pageIn_X0_isFrame : GoodIn wsX0_pageIn wsX0_isFrame := goodIn_r _ [7] (by decide +kernel) (by decide +kernel)
set_option maxRecDepth 20000 in
theorem gX0_pageIn_X0_isFrame : GoodIn wsX0_pageIn (va_wsS RX0 102 yX0_isFrame wsX0_isFrame) := goodIn_app (goodIn_of _ (by decide +kernel)) ggX0_pageIn_X0_isFrame
theorem dX0_pageIn_0 : decode cX0_pageIn 0 = .ok (.iload_n 1, 1) := by decide +kernel
theorem dX0_pageIn_1 : decode cX0_pageIn 1 = .ok (.invokestatic 102, 3) := by decide +kernel
theorem dX0_pageIn_4 : decode cX0_pageIn 4 = .ok (.ifCond .ne 13, 3) := by decide +kernel
theorem dX0_pageIn_7 : decode cX0_pageIn 7 = .ok (.new 79, 3) := by decide +kernel
theorem dX0_pageIn_10 : decode cX0_pageIn 10 = .ok (.dup, 1) := by decide +kernel
theorem dX0_pageIn_11 : decode cX0_pageIn 11 = .ok (.ldc 107, 2) := by decide +kernel
theorem dX0_pageIn_13 : decode cX0_pageIn 13 = .ok (.invokespecial 83, 3) := by decide +kernel
theorem dX0_pageIn_16 : decode cX0_pageIn 16 = .ok (.athrow, 1) := by decide +kernel
theorem dX0_pageIn_17 : decode cX0_pageIn 17 = .ok (.aload_n 0, 1) := by decide +kernel
theorem dX0_pageIn_18 : decode cX0_pageIn 18 = .ok (.getfield 28, 3) := by decide +kernel
theorem dX0_pageIn_21 : decode cX0_pageIn 21 = .ok (.iload_n 1, 1) := by decide +kernel
theorem dX0_pageIn_22 : decode cX0_pageIn 22 = .ok (.iaload, 1) := by decide +kernel
theorem dX0_pageIn_23 : decode cX0_pageIn 23 = .ok (.ireturn, 1) := by decide +kernel
set_option maxRecDepth 20000 in
theorem ggX0_age_X0_isFrame : GoodIn wsX0_age wsX0_isFrame := goodIn_r _ [6] (by decide +kernel) (by decide +kernel)
set_option maxRecDepth 20000 in
theorem gX0_age_X0_isFrame : GoodIn wsX0_age (va_wsS RX0 102 yX0_isFrame wsX0_isFrame) := goodIn_app (goodIn_of _ (by decide +kernel)) ggX0_age_X0_isFrame
set_option maxRecDepth 20000 in
theorem ggX0_age_X0_ageOf : GoodIn wsX0_age wsX0_ageOf := goodIn_r _ [10, 11, 12, 13, 14, 15, 16, 17, 18, 19, 20, 21, 22, 23, 24, 25, 26, 27, 28, 29, 30, 31, 32] (by decide +kernel) (by decide +kernel)
set_option maxRecDepth 20000 in
theorem gX0_age_X0_ageOf : GoodIn wsX0_age (wsV RX0 156 RX0 yX0_ageOf wsX0_ageOf) := goodIn_app (goodIn_of _ (by decide +kernel)) ggX0_age_X0_ageOf
theorem dX0_age_0 : decode cX0_age 0 = .ok (.iload_n 1, 1) := by decide +kernel
theorem dX0_age_1 : decode cX0_age 1 = .ok (.invokestatic 102, 3) := by decide +kernel
theorem dX0_age_4 : decode cX0_age 4 = .ok (.ifCond .ne 13, 3) := by decide +kernel
theorem dX0_age_7 : decode cX0_age 7 = .ok (.new 79, 3) := by decide +kernel
theorem dX0_age_10 : decode cX0_age 10 = .ok (.dup, 1) := by decide +kernel
theorem dX0_age_11 : decode cX0_age 11 = .ok (.ldc 107, 2) := by decide +kernel
theorem dX0_age_13 : decode cX0_age 13 = .ok (.invokespecial 83, 3) := by decide +kernel
theorem dX0_age_16 : decode cX0_age 16 = .ok (.athrow, 1) := by decide +kernel
theorem dX0_age_17 : decode cX0_age 17 = .ok (.aload_n 0, 1) := by decide +kernel
theorem dX0_age_18 : decode cX0_age 18 = .ok (.iload_n 1, 1) := by decide +kernel
theorem dX0_age_19 : decode cX0_age 19 = .ok (.invokevirtual 156, 3) := by decide +kernel
theorem dX0_age_22 : decode cX0_age 22 = .ok (.ireturn, 1) := by decide +kernel
theorem dX0_free_0 : decode cX0_free 0 = .ok (.iconst 0, 1) := by decide +kernel
theorem dX0_free_1 : decode cX0_free 1 = .ok (.istore_n 1, 1) := by decide +kernel
theorem dX0_free_2 : decode cX0_free 2 = .ok (.iconst 0, 1) := by decide +kernel
theorem dX0_free_3 : decode cX0_free 3 = .ok (.istore_n 2, 1) := by decide +kernel
theorem dX0_free_4 : decode cX0_free 4 = .ok (.iload_n 2, 1) := by decide +kernel
theorem dX0_free_5 : decode cX0_free 5 = .ok (.bipush 12, 2) := by decide +kernel
theorem dX0_free_7 : decode cX0_free 7 = .ok (.if_icmp .ge 22, 3) := by decide +kernel
theorem dX0_free_10 : decode cX0_free 10 = .ok (.aload_n 0, 1) := by decide +kernel
theorem dX0_free_11 : decode cX0_free 11 = .ok (.getfield 22, 3) := by decide +kernel
theorem dX0_free_14 : decode cX0_free 14 = .ok (.iload_n 2, 1) := by decide +kernel
theorem dX0_free_15 : decode cX0_free 15 = .ok (.iaload, 1) := by decide +kernel
theorem dX0_free_16 : decode cX0_free 16 = .ok (.iconst (-1), 1) := by decide +kernel
theorem dX0_free_17 : decode cX0_free 17 = .ok (.if_icmp .ne 6, 3) := by decide +kernel
theorem dX0_free_20 : decode cX0_free 20 = .ok (.iinc 1 1, 3) := by decide +kernel
theorem dX0_free_23 : decode cX0_free 23 = .ok (.iinc 2 1, 3) := by decide +kernel
theorem dX0_free_26 : decode cX0_free 26 = .ok (.goto (-22), 3) := by decide +kernel
theorem dX0_free_29 : decode cX0_free 29 = .ok (.iload_n 1, 1) := by decide +kernel
theorem dX0_free_30 : decode cX0_free 30 = .ok (.ireturn, 1) := by decide +kernel
set_option maxRecDepth 20000 in
theorem ggX0_owns_X0_isProcess : GoodIn wsX0_owns wsX0_isProcess := goodIn_r _ [7] (by decide +kernel) (by decide +kernel)
set_option maxRecDepth 20000 in
theorem gX0_owns_X0_isProcess : GoodIn wsX0_owns (va_wsS RX0 75 yX0_isProcess wsX0_isProcess) := goodIn_app (goodIn_of _ (by decide +kernel)) ggX0_owns_X0_isProcess
theorem dX0_owns_0 : decode cX0_owns 0 = .ok (.iload_n 1, 1) := by decide +kernel
theorem dX0_owns_1 : decode cX0_owns 1 = .ok (.invokestatic 75, 3) := by decide +kernel
theorem dX0_owns_4 : decode cX0_owns 4 = .ok (.ifCond .ne 13, 3) := by decide +kernel
theorem dX0_owns_7 : decode cX0_owns 7 = .ok (.new 79, 3) := by decide +kernel
theorem dX0_owns_10 : decode cX0_owns 10 = .ok (.dup, 1) := by decide +kernel
theorem dX0_owns_11 : decode cX0_owns 11 = .ok (.ldc 81, 2) := by decide +kernel
theorem dX0_owns_13 : decode cX0_owns 13 = .ok (.invokespecial 83, 3) := by decide +kernel
theorem dX0_owns_16 : decode cX0_owns 16 = .ok (.athrow, 1) := by decide +kernel
theorem dX0_owns_17 : decode cX0_owns 17 = .ok (.iconst 0, 1) := by decide +kernel
theorem dX0_owns_18 : decode cX0_owns 18 = .ok (.istore_n 2, 1) := by decide +kernel
theorem dX0_owns_19 : decode cX0_owns 19 = .ok (.iconst 0, 1) := by decide +kernel
theorem dX0_owns_20 : decode cX0_owns 20 = .ok (.istore_n 3, 1) := by decide +kernel
theorem dX0_owns_21 : decode cX0_owns 21 = .ok (.iload_n 3, 1) := by decide +kernel
theorem dX0_owns_22 : decode cX0_owns 22 = .ok (.bipush 12, 2) := by decide +kernel
theorem dX0_owns_24 : decode cX0_owns 24 = .ok (.if_icmp .ge 22, 3) := by decide +kernel
theorem dX0_owns_27 : decode cX0_owns 27 = .ok (.aload_n 0, 1) := by decide +kernel
theorem dX0_owns_28 : decode cX0_owns 28 = .ok (.getfield 22, 3) := by decide +kernel
theorem dX0_owns_31 : decode cX0_owns 31 = .ok (.iload_n 3, 1) := by decide +kernel
theorem dX0_owns_32 : decode cX0_owns 32 = .ok (.iaload, 1) := by decide +kernel
theorem dX0_owns_33 : decode cX0_owns 33 = .ok (.iload_n 1, 1) := by decide +kernel
theorem dX0_owns_34 : decode cX0_owns 34 = .ok (.if_icmp .ne 6, 3) := by decide +kernel
theorem dX0_owns_40 : decode cX0_owns 40 = .ok (.iinc 3 1, 3) := by decide +kernel
theorem dX0_owns_43 : decode cX0_owns 43 = .ok (.goto (-22), 3) := by decide +kernel
theorem dX0_owns_46 : decode cX0_owns 46 = .ok (.iload_n 2, 1) := by decide +kernel
theorem dX0_owns_47 : decode cX0_owns 47 = .ok (.ireturn, 1) := by decide +kernel
set_option maxRecDepth 20000 in
theorem ggX0_borrowed_X0_isProcess : GoodIn wsX0_borrowed wsX0_isProcess := goodIn_r _ [6] (by decide +kernel) (by decide +kernel)
set_option maxRecDepth 20000 in
theorem gX0_borrowed_X0_isProcess : GoodIn wsX0_borrowed (va_wsS RX0 75 yX0_isProcess wsX0_isProcess) := goodIn_app (goodIn_of _ (by decide +kernel)) ggX0_borrowed_X0_isProcess
set_option maxRecDepth 20000 in
theorem ggX0_borrowed_X0_countBorrowed : GoodIn wsX0_borrowed wsX0_countBorrowed := goodIn_r _ [10, 11, 12, 13, 14, 15, 16, 17, 18, 19, 20, 21, 22, 23, 24, 25, 26, 27, 28, 29, 30, 31] (by decide +kernel) (by decide +kernel)
set_option maxRecDepth 20000 in
theorem gX0_borrowed_X0_countBorrowed : GoodIn wsX0_borrowed (wsV RX0 159 RX0 yX0_countBorrowed wsX0_countBorrowed) := goodIn_app (goodIn_of _ (by decide +kernel)) ggX0_borrowed_X0_countBorrowed
theorem dX0_borrowed_0 : decode cX0_borrowed 0 = .ok (.iload_n 1, 1) := by decide +kernel
theorem dX0_borrowed_1 : decode cX0_borrowed 1 = .ok (.invokestatic 75, 3) := by decide +kernel
theorem dX0_borrowed_4 : decode cX0_borrowed 4 = .ok (.ifCond .ne 13, 3) := by decide +kernel
theorem dX0_borrowed_7 : decode cX0_borrowed 7 = .ok (.new 79, 3) := by decide +kernel
theorem dX0_borrowed_10 : decode cX0_borrowed 10 = .ok (.dup, 1) := by decide +kernel
theorem dX0_borrowed_11 : decode cX0_borrowed 11 = .ok (.ldc 81, 2) := by decide +kernel
theorem dX0_borrowed_13 : decode cX0_borrowed 13 = .ok (.invokespecial 83, 3) := by decide +kernel
theorem dX0_borrowed_16 : decode cX0_borrowed 16 = .ok (.athrow, 1) := by decide +kernel
theorem dX0_borrowed_17 : decode cX0_borrowed 17 = .ok (.aload_n 0, 1) := by decide +kernel
theorem dX0_borrowed_18 : decode cX0_borrowed 18 = .ok (.iload_n 1, 1) := by decide +kernel
theorem dX0_borrowed_19 : decode cX0_borrowed 19 = .ok (.invokevirtual 159, 3) := by decide +kernel
theorem dX0_borrowed_22 : decode cX0_borrowed 22 = .ok (.ireturn, 1) := by decide +kernel
set_option maxRecDepth 20000 in
theorem ggX0_lent_X0_isProcess : GoodIn wsX0_lent wsX0_isProcess := goodIn_r _ [8] (by decide +kernel) (by decide +kernel)
set_option maxRecDepth 20000 in
theorem gX0_lent_X0_isProcess : GoodIn wsX0_lent (va_wsS RX0 75 yX0_isProcess wsX0_isProcess) := goodIn_app (goodIn_of _ (by decide +kernel)) ggX0_lent_X0_isProcess
theorem dX0_lent_0 : decode cX0_lent 0 = .ok (.iload_n 1, 1) := by decide +kernel
theorem dX0_lent_1 : decode cX0_lent 1 = .ok (.invokestatic 75, 3) := by decide +kernel
theorem dX0_lent_4 : decode cX0_lent 4 = .ok (.ifCond .ne 13, 3) := by decide +kernel
theorem dX0_lent_7 : decode cX0_lent 7 = .ok (.new 79, 3) := by decide +kernel
theorem dX0_lent_10 : decode cX0_lent 10 = .ok (.dup, 1) := by decide +kernel
theorem dX0_lent_11 : decode cX0_lent 11 = .ok (.ldc 81, 2) := by decide +kernel
theorem dX0_lent_13 : decode cX0_lent 13 = .ok (.invokespecial 83, 3) := by decide +kernel
theorem dX0_lent_16 : decode cX0_lent 16 = .ok (.athrow, 1) := by decide +kernel
theorem dX0_lent_17 : decode cX0_lent 17 = .ok (.iconst 0, 1) := by decide +kernel
theorem dX0_lent_18 : decode cX0_lent 18 = .ok (.istore_n 2, 1) := by decide +kernel
theorem dX0_lent_19 : decode cX0_lent 19 = .ok (.iconst 0, 1) := by decide +kernel
theorem dX0_lent_20 : decode cX0_lent 20 = .ok (.istore_n 3, 1) := by decide +kernel
theorem dX0_lent_21 : decode cX0_lent 21 = .ok (.iload_n 3, 1) := by decide +kernel
theorem dX0_lent_22 : decode cX0_lent 22 = .ok (.bipush 12, 2) := by decide +kernel
theorem dX0_lent_24 : decode cX0_lent 24 = .ok (.if_icmp .ge 32, 3) := by decide +kernel
theorem dX0_lent_27 : decode cX0_lent 27 = .ok (.aload_n 0, 1) := by decide +kernel
theorem dX0_lent_28 : decode cX0_lent 28 = .ok (.getfield 22, 3) := by decide +kernel
theorem dX0_lent_31 : decode cX0_lent 31 = .ok (.iload_n 3, 1) := by decide +kernel
theorem dX0_lent_32 : decode cX0_lent 32 = .ok (.iaload, 1) := by decide +kernel
theorem dX0_lent_33 : decode cX0_lent 33 = .ok (.iload_n 1, 1) := by decide +kernel
theorem dX0_lent_34 : decode cX0_lent 34 = .ok (.if_icmp .ne 16, 3) := by decide +kernel
theorem dX0_lent_50 : decode cX0_lent 50 = .ok (.iinc 3 1, 3) := by decide +kernel
theorem dX0_lent_53 : decode cX0_lent 53 = .ok (.goto (-32), 3) := by decide +kernel
theorem dX0_lent_56 : decode cX0_lent 56 = .ok (.iload_n 2, 1) := by decide +kernel
theorem dX0_lent_57 : decode cX0_lent 57 = .ok (.ireturn, 1) := by decide +kernel
set_option maxRecDepth 20000 in
theorem ggX0_stateOf_X0_isProcess : GoodIn wsX0_stateOf wsX0_isProcess := goodIn_r _ [7] (by decide +kernel) (by decide +kernel)
set_option maxRecDepth 20000 in
theorem gX0_stateOf_X0_isProcess : GoodIn wsX0_stateOf (va_wsS RX0 75 yX0_isProcess wsX0_isProcess) := goodIn_app (goodIn_of _ (by decide +kernel)) ggX0_stateOf_X0_isProcess
theorem dX0_stateOf_0 : decode cX0_stateOf 0 = .ok (.iload_n 1, 1) := by decide +kernel
theorem dX0_stateOf_1 : decode cX0_stateOf 1 = .ok (.invokestatic 75, 3) := by decide +kernel
theorem dX0_stateOf_4 : decode cX0_stateOf 4 = .ok (.ifCond .ne 13, 3) := by decide +kernel
theorem dX0_stateOf_7 : decode cX0_stateOf 7 = .ok (.new 79, 3) := by decide +kernel
theorem dX0_stateOf_10 : decode cX0_stateOf 10 = .ok (.dup, 1) := by decide +kernel
theorem dX0_stateOf_11 : decode cX0_stateOf 11 = .ok (.ldc 81, 2) := by decide +kernel
theorem dX0_stateOf_13 : decode cX0_stateOf 13 = .ok (.invokespecial 83, 3) := by decide +kernel
theorem dX0_stateOf_16 : decode cX0_stateOf 16 = .ok (.athrow, 1) := by decide +kernel
theorem dX0_stateOf_17 : decode cX0_stateOf 17 = .ok (.aload_n 0, 1) := by decide +kernel
theorem dX0_stateOf_18 : decode cX0_stateOf 18 = .ok (.getfield 16, 3) := by decide +kernel
theorem dX0_stateOf_21 : decode cX0_stateOf 21 = .ok (.iload_n 1, 1) := by decide +kernel
theorem dX0_stateOf_22 : decode cX0_stateOf 22 = .ok (.iaload, 1) := by decide +kernel
theorem dX0_stateOf_23 : decode cX0_stateOf 23 = .ok (.ireturn, 1) := by decide +kernel
set_option maxRecDepth 20000 in
theorem ggX0_purse_X0_isProcess : GoodIn wsX0_purse wsX0_isProcess := goodIn_r _ [7] (by decide +kernel) (by decide +kernel)
set_option maxRecDepth 20000 in
theorem gX0_purse_X0_isProcess : GoodIn wsX0_purse (va_wsS RX0 75 yX0_isProcess wsX0_isProcess) := goodIn_app (goodIn_of _ (by decide +kernel)) ggX0_purse_X0_isProcess
theorem dX0_purse_0 : decode cX0_purse 0 = .ok (.iload_n 1, 1) := by decide +kernel
theorem dX0_purse_1 : decode cX0_purse 1 = .ok (.invokestatic 75, 3) := by decide +kernel
theorem dX0_purse_4 : decode cX0_purse 4 = .ok (.ifCond .ne 13, 3) := by decide +kernel
theorem dX0_purse_7 : decode cX0_purse 7 = .ok (.new 79, 3) := by decide +kernel
theorem dX0_purse_10 : decode cX0_purse 10 = .ok (.dup, 1) := by decide +kernel
theorem dX0_purse_11 : decode cX0_purse 11 = .ok (.ldc 81, 2) := by decide +kernel
theorem dX0_purse_13 : decode cX0_purse 13 = .ok (.invokespecial 83, 3) := by decide +kernel
theorem dX0_purse_16 : decode cX0_purse 16 = .ok (.athrow, 1) := by decide +kernel
theorem dX0_purse_17 : decode cX0_purse 17 = .ok (.aload_n 0, 1) := by decide +kernel
theorem dX0_purse_18 : decode cX0_purse 18 = .ok (.getfield 13, 3) := by decide +kernel
theorem dX0_purse_21 : decode cX0_purse 21 = .ok (.iload_n 1, 1) := by decide +kernel
theorem dX0_purse_22 : decode cX0_purse 22 = .ok (.iaload, 1) := by decide +kernel
theorem dX0_purse_23 : decode cX0_purse 23 = .ok (.ireturn, 1) := by decide +kernel
set_option maxRecDepth 20000 in
theorem ggX0_faults_X0_isProcess : GoodIn wsX0_faults wsX0_isProcess := goodIn_r _ [7] (by decide +kernel) (by decide +kernel)
set_option maxRecDepth 20000 in
theorem gX0_faults_X0_isProcess : GoodIn wsX0_faults (va_wsS RX0 75 yX0_isProcess wsX0_isProcess) := goodIn_app (goodIn_of _ (by decide +kernel)) ggX0_faults_X0_isProcess
theorem dX0_faults_0 : decode cX0_faults 0 = .ok (.iload_n 1, 1) := by decide +kernel
theorem dX0_faults_1 : decode cX0_faults 1 = .ok (.invokestatic 75, 3) := by decide +kernel
theorem dX0_faults_4 : decode cX0_faults 4 = .ok (.ifCond .ne 13, 3) := by decide +kernel
theorem dX0_faults_7 : decode cX0_faults 7 = .ok (.new 79, 3) := by decide +kernel
theorem dX0_faults_10 : decode cX0_faults 10 = .ok (.dup, 1) := by decide +kernel
theorem dX0_faults_11 : decode cX0_faults 11 = .ok (.ldc 81, 2) := by decide +kernel
theorem dX0_faults_13 : decode cX0_faults 13 = .ok (.invokespecial 83, 3) := by decide +kernel
theorem dX0_faults_16 : decode cX0_faults 16 = .ok (.athrow, 1) := by decide +kernel
theorem dX0_faults_17 : decode cX0_faults 17 = .ok (.aload_n 0, 1) := by decide +kernel
theorem dX0_faults_18 : decode cX0_faults 18 = .ok (.getfield 19, 3) := by decide +kernel
theorem dX0_faults_21 : decode cX0_faults 21 = .ok (.iload_n 1, 1) := by decide +kernel
theorem dX0_faults_22 : decode cX0_faults 22 = .ok (.iaload, 1) := by decide +kernel
theorem dX0_faults_23 : decode cX0_faults 23 = .ok (.ireturn, 1) := by decide +kernel
theorem dX0_loans_0 : decode cX0_loans 0 = .ok (.aload_n 0, 1) := by decide +kernel
theorem dX0_loans_1 : decode cX0_loans 1 = .ok (.getfield 53, 3) := by decide +kernel
theorem dX0_loans_4 : decode cX0_loans 4 = .ok (.ireturn, 1) := by decide +kernel
set_option maxRecDepth 20000 in
theorem ggX0_lasts_X0_isLoan : GoodIn wsX0_lasts wsX0_isLoan := goodIn_r _ [8, 9, 10, 11, 12, 13, 14, 15, 16, 17, 18, 19, 20, 21, 22, 23, 24, 25, 26, 27, 28] (by decide +kernel) (by decide +kernel)
set_option maxRecDepth 20000 in
theorem gX0_lasts_X0_isLoan : GoodIn wsX0_lasts (wsV RX0 135 RX0 yX0_isLoan wsX0_isLoan) := goodIn_app (goodIn_of _ (by decide +kernel)) ggX0_lasts_X0_isLoan
theorem dX0_lasts_0 : decode cX0_lasts 0 = .ok (.aload_n 0, 1) := by decide +kernel
theorem dX0_lasts_1 : decode cX0_lasts 1 = .ok (.iload_n 1, 1) := by decide +kernel
theorem dX0_lasts_2 : decode cX0_lasts 2 = .ok (.invokevirtual 135, 3) := by decide +kernel
theorem dX0_lasts_5 : decode cX0_lasts 5 = .ok (.ifCond .ne 13, 3) := by decide +kernel
theorem dX0_lasts_8 : decode cX0_lasts 8 = .ok (.new 79, 3) := by decide +kernel
theorem dX0_lasts_11 : decode cX0_lasts 11 = .ok (.dup, 1) := by decide +kernel
theorem dX0_lasts_12 : decode cX0_lasts 12 = .ok (.ldc 138, 2) := by decide +kernel
theorem dX0_lasts_14 : decode cX0_lasts 14 = .ok (.invokespecial 83, 3) := by decide +kernel
theorem dX0_lasts_17 : decode cX0_lasts 17 = .ok (.athrow, 1) := by decide +kernel
set_option maxRecDepth 20000 in
theorem ggX0_partiesOf_X0_isLoan : GoodIn wsX0_partiesOf wsX0_isLoan := goodIn_r _ [10, 11, 12, 13, 14, 15, 16, 17, 18, 19, 20, 21, 22, 23, 24, 25, 26, 27, 28, 29, 30] (by decide +kernel) (by decide +kernel)
set_option maxRecDepth 20000 in
theorem gX0_partiesOf_X0_isLoan : GoodIn wsX0_partiesOf (wsV RX0 135 RX0 yX0_isLoan wsX0_isLoan) := goodIn_app (goodIn_of _ (by decide +kernel)) ggX0_partiesOf_X0_isLoan
theorem dX0_partiesOf_0 : decode cX0_partiesOf 0 = .ok (.aload_n 0, 1) := by decide +kernel
theorem dX0_partiesOf_1 : decode cX0_partiesOf 1 = .ok (.iload_n 1, 1) := by decide +kernel
theorem dX0_partiesOf_2 : decode cX0_partiesOf 2 = .ok (.invokevirtual 135, 3) := by decide +kernel
theorem dX0_partiesOf_5 : decode cX0_partiesOf 5 = .ok (.ifCond .ne 13, 3) := by decide +kernel
theorem dX0_partiesOf_8 : decode cX0_partiesOf 8 = .ok (.new 79, 3) := by decide +kernel
theorem dX0_partiesOf_11 : decode cX0_partiesOf 11 = .ok (.dup, 1) := by decide +kernel
theorem dX0_partiesOf_12 : decode cX0_partiesOf 12 = .ok (.ldc 138, 2) := by decide +kernel
theorem dX0_partiesOf_14 : decode cX0_partiesOf 14 = .ok (.invokespecial 83, 3) := by decide +kernel
theorem dX0_partiesOf_17 : decode cX0_partiesOf 17 = .ok (.athrow, 1) := by decide +kernel
set_option maxRecDepth 20000 in
theorem ggX0_interest_X0_isLoan : GoodIn wsX0_interest wsX0_isLoan := goodIn_r _ [8, 9, 10, 11, 12, 13, 14, 15, 16, 17, 18, 19, 20, 21, 22, 23, 24, 25, 26, 27, 28] (by decide +kernel) (by decide +kernel)
set_option maxRecDepth 20000 in
theorem gX0_interest_X0_isLoan : GoodIn wsX0_interest (wsV RX0 135 RX0 yX0_isLoan wsX0_isLoan) := goodIn_app (goodIn_of _ (by decide +kernel)) ggX0_interest_X0_isLoan
theorem dX0_interest_0 : decode cX0_interest 0 = .ok (.aload_n 0, 1) := by decide +kernel
theorem dX0_interest_1 : decode cX0_interest 1 = .ok (.iload_n 1, 1) := by decide +kernel
theorem dX0_interest_2 : decode cX0_interest 2 = .ok (.invokevirtual 135, 3) := by decide +kernel
theorem dX0_interest_5 : decode cX0_interest 5 = .ok (.ifCond .ne 13, 3) := by decide +kernel
theorem dX0_interest_8 : decode cX0_interest 8 = .ok (.new 79, 3) := by decide +kernel
theorem dX0_interest_11 : decode cX0_interest 11 = .ok (.dup, 1) := by decide +kernel
theorem dX0_interest_12 : decode cX0_interest 12 = .ok (.ldc 138, 2) := by decide +kernel
theorem dX0_interest_14 : decode cX0_interest 14 = .ok (.invokespecial 83, 3) := by decide +kernel
theorem dX0_interest_17 : decode cX0_interest 17 = .ok (.athrow, 1) := by decide +kernel
theorem dX0_head_0 : decode cX0_head 0 = .ok (.aload_n 0, 1) := by decide +kernel
theorem dX0_head_1 : decode cX0_head 1 = .ok (.getfield 63, 3) := by decide +kernel
theorem dX0_head_4 : decode cX0_head 4 = .ok (.ireturn, 1) := by decide +kernel
set_option maxRecDepth 20000 in
theorem ggX0_requests_X0_isComing : GoodIn wsX0_requests wsX0_isComing := goodIn_r _ [5, 6, 7, 8, 9, 4, 10, 11, 12, 13, 14, 15, 16, 17, 18, 19, 20, 21, 22, 23, 24, 25, 26, 27, 28, 29] (by decide +kernel) (by decide +kernel)
set_option maxRecDepth 20000 in
theorem gX0_requests_X0_isComing : GoodIn wsX0_requests (wsV RX0 140 RX0 yX0_isComing wsX0_isComing) := goodIn_app (goodIn_of _ (by decide +kernel)) ggX0_requests_X0_isComing
theorem dX0_requests_0 : decode cX0_requests 0 = .ok (.iconst 0, 1) := by decide +kernel
theorem dX0_requests_1 : decode cX0_requests 1 = .ok (.istore_n 1, 1) := by decide +kernel
theorem dX0_requests_2 : decode cX0_requests 2 = .ok (.iconst 0, 1) := by decide +kernel
theorem dX0_requests_3 : decode cX0_requests 3 = .ok (.istore_n 2, 1) := by decide +kernel
theorem dX0_requests_4 : decode cX0_requests 4 = .ok (.iload_n 2, 1) := by decide +kernel
theorem dX0_requests_5 : decode cX0_requests 5 = .ok (.bipush 12, 2) := by decide +kernel
theorem dX0_requests_7 : decode cX0_requests 7 = .ok (.if_icmp .ge 20, 3) := by decide +kernel
theorem dX0_requests_10 : decode cX0_requests 10 = .ok (.aload_n 0, 1) := by decide +kernel
theorem dX0_requests_11 : decode cX0_requests 11 = .ok (.iload_n 2, 1) := by decide +kernel
theorem dX0_requests_12 : decode cX0_requests 12 = .ok (.invokevirtual 140, 3) := by decide +kernel
theorem dX0_requests_15 : decode cX0_requests 15 = .ok (.ifCond .eq 6, 3) := by decide +kernel
theorem dX0_requests_21 : decode cX0_requests 21 = .ok (.iinc 2 1, 3) := by decide +kernel
theorem dX0_requests_24 : decode cX0_requests 24 = .ok (.goto (-20), 3) := by decide +kernel
theorem dX0_requests_27 : decode cX0_requests 27 = .ok (.iload_n 1, 1) := by decide +kernel
theorem dX0_requests_28 : decode cX0_requests 28 = .ok (.ireturn, 1) := by decide +kernel
set_option maxRecDepth 20000 in
theorem ggX0_requestAt_X0_isRequested : GoodIn wsX0_requestAt wsX0_isRequested := goodIn_r _ [7, 8, 9, 10, 6, 11, 12, 13, 14, 15, 16, 17, 18, 19, 20, 21, 22, 23, 24, 25, 26, 27, 28, 29, 30, 31, 32, 33, 34, 35, 36, 37, 38, 39, 40] (by decide +kernel) (by decide +kernel)
set_option maxRecDepth 20000 in
theorem gX0_requestAt_X0_isRequested : GoodIn wsX0_requestAt (wsV RX0 164 RX0 yX0_isRequested wsX0_isRequested) := goodIn_app (goodIn_of _ (by decide +kernel)) ggX0_requestAt_X0_isRequested
theorem dX0_requestAt_0 : decode cX0_requestAt 0 = .ok (.iload_n 1, 1) := by decide +kernel
theorem dX0_requestAt_1 : decode cX0_requestAt 1 = .ok (.ifCond .ge 13, 3) := by decide +kernel
theorem dX0_requestAt_4 : decode cX0_requestAt 4 = .ok (.new 79, 3) := by decide +kernel
theorem dX0_requestAt_7 : decode cX0_requestAt 7 = .ok (.dup, 1) := by decide +kernel
theorem dX0_requestAt_8 : decode cX0_requestAt 8 = .ok (.ldc 162, 2) := by decide +kernel
theorem dX0_requestAt_10 : decode cX0_requestAt 10 = .ok (.invokespecial 83, 3) := by decide +kernel
theorem dX0_requestAt_13 : decode cX0_requestAt 13 = .ok (.athrow, 1) := by decide +kernel
theorem dX0_requestAt_14 : decode cX0_requestAt 14 = .ok (.iconst 0, 1) := by decide +kernel
theorem dX0_requestAt_15 : decode cX0_requestAt 15 = .ok (.istore_n 2, 1) := by decide +kernel
theorem dX0_requestAt_16 : decode cX0_requestAt 16 = .ok (.iconst 0, 1) := by decide +kernel
theorem dX0_requestAt_17 : decode cX0_requestAt 17 = .ok (.istore_n 3, 1) := by decide +kernel
theorem dX0_requestAt_18 : decode cX0_requestAt 18 = .ok (.iload_n 3, 1) := by decide +kernel
theorem dX0_requestAt_19 : decode cX0_requestAt 19 = .ok (.bipush 40, 2) := by decide +kernel
theorem dX0_requestAt_21 : decode cX0_requestAt 21 = .ok (.if_icmp .ge 27, 3) := by decide +kernel
theorem dX0_requestAt_24 : decode cX0_requestAt 24 = .ok (.aload_n 0, 1) := by decide +kernel
theorem dX0_requestAt_25 : decode cX0_requestAt 25 = .ok (.iload_n 3, 1) := by decide +kernel
theorem dX0_requestAt_26 : decode cX0_requestAt 26 = .ok (.invokevirtual 164, 3) := by decide +kernel
theorem dX0_requestAt_29 : decode cX0_requestAt 29 = .ok (.ifCond .eq 13, 3) := by decide +kernel
theorem dX0_requestAt_42 : decode cX0_requestAt 42 = .ok (.iinc 3 1, 3) := by decide +kernel
theorem dX0_requestAt_45 : decode cX0_requestAt 45 = .ok (.goto (-27), 3) := by decide +kernel
theorem dX0_requestAt_48 : decode cX0_requestAt 48 = .ok (.iconst (-1), 1) := by decide +kernel
theorem dX0_requestAt_49 : decode cX0_requestAt 49 = .ok (.ireturn, 1) := by decide +kernel
theorem dX0_isProcess_0 : decode cX0_isProcess 0 = .ok (.iload_n 0, 1) := by decide +kernel
theorem dX0_isProcess_1 : decode cX0_isProcess 1 = .ok (.ifCond .lt 12, 3) := by decide +kernel
theorem dX0_isProcess_4 : decode cX0_isProcess 4 = .ok (.iload_n 0, 1) := by decide +kernel
theorem dX0_isProcess_5 : decode cX0_isProcess 5 = .ok (.iconst 5, 1) := by decide +kernel
theorem dX0_isProcess_6 : decode cX0_isProcess 6 = .ok (.if_icmp .ge 7, 3) := by decide +kernel
theorem dX0_isProcess_9 : decode cX0_isProcess 9 = .ok (.iconst 1, 1) := by decide +kernel
theorem dX0_isProcess_10 : decode cX0_isProcess 10 = .ok (.goto 4, 3) := by decide +kernel
theorem dX0_isProcess_13 : decode cX0_isProcess 13 = .ok (.iconst 0, 1) := by decide +kernel
theorem dX0_isProcess_14 : decode cX0_isProcess 14 = .ok (.ireturn, 1) := by decide +kernel
theorem dX0_isPage_0 : decode cX0_isPage 0 = .ok (.iload_n 0, 1) := by decide +kernel
theorem dX0_isPage_1 : decode cX0_isPage 1 = .ok (.ifCond .lt 13, 3) := by decide +kernel
theorem dX0_isPage_4 : decode cX0_isPage 4 = .ok (.iload_n 0, 1) := by decide +kernel
theorem dX0_isPage_5 : decode cX0_isPage 5 = .ok (.bipush 8, 2) := by decide +kernel
theorem dX0_isPage_7 : decode cX0_isPage 7 = .ok (.if_icmp .ge 7, 3) := by decide +kernel
theorem dX0_isPage_14 : decode cX0_isPage 14 = .ok (.iconst 0, 1) := by decide +kernel
theorem dX0_isPage_15 : decode cX0_isPage 15 = .ok (.ireturn, 1) := by decide +kernel
theorem dX0_isFrame_0 : decode cX0_isFrame 0 = .ok (.iload_n 0, 1) := by decide +kernel
theorem dX0_isFrame_1 : decode cX0_isFrame 1 = .ok (.ifCond .lt 13, 3) := by decide +kernel
theorem dX0_isFrame_4 : decode cX0_isFrame 4 = .ok (.iload_n 0, 1) := by decide +kernel
theorem dX0_isFrame_5 : decode cX0_isFrame 5 = .ok (.bipush 12, 2) := by decide +kernel
theorem dX0_isFrame_7 : decode cX0_isFrame 7 = .ok (.if_icmp .ge 7, 3) := by decide +kernel
theorem dX0_isFrame_10 : decode cX0_isFrame 10 = .ok (.iconst 1, 1) := by decide +kernel
theorem dX0_isFrame_11 : decode cX0_isFrame 11 = .ok (.goto 4, 3) := by decide +kernel
theorem dX0_isFrame_14 : decode cX0_isFrame 14 = .ok (.iconst 0, 1) := by decide +kernel
theorem dX0_isFrame_15 : decode cX0_isFrame 15 = .ok (.ireturn, 1) := by decide +kernel
theorem dX0_isLoan_0 : decode cX0_isLoan 0 = .ok (.iload_n 1, 1) := by decide +kernel
theorem dX0_isLoan_1 : decode cX0_isLoan 1 = .ok (.ifCond .lt 21, 3) := by decide +kernel
theorem dX0_isLoan_4 : decode cX0_isLoan 4 = .ok (.iload_n 1, 1) := by decide +kernel
theorem dX0_isLoan_5 : decode cX0_isLoan 5 = .ok (.bipush 60, 2) := by decide +kernel
theorem dX0_isLoan_7 : decode cX0_isLoan 7 = .ok (.if_icmp .ge 15, 3) := by decide +kernel
theorem dX0_isLoan_10 : decode cX0_isLoan 10 = .ok (.iload_n 1, 1) := by decide +kernel
theorem dX0_isLoan_11 : decode cX0_isLoan 11 = .ok (.aload_n 0, 1) := by decide +kernel
theorem dX0_isLoan_12 : decode cX0_isLoan 12 = .ok (.getfield 53, 3) := by decide +kernel
theorem dX0_isLoan_15 : decode cX0_isLoan 15 = .ok (.if_icmp .ge 7, 3) := by decide +kernel
theorem dX0_isLoan_22 : decode cX0_isLoan 22 = .ok (.iconst 0, 1) := by decide +kernel
theorem dX0_isLoan_23 : decode cX0_isLoan 23 = .ok (.ireturn, 1) := by decide +kernel
set_option maxRecDepth 20000 in
theorem ggX0_isComing_X0_isFrame : GoodIn wsX0_isComing wsX0_isFrame := goodIn_r _ [6] (by decide +kernel) (by decide +kernel)
set_option maxRecDepth 20000 in
theorem gX0_isComing_X0_isFrame : GoodIn wsX0_isComing (va_wsS RX0 102 yX0_isFrame wsX0_isFrame) := goodIn_app (goodIn_of _ (by decide +kernel)) ggX0_isComing_X0_isFrame
theorem dX0_isComing_0 : decode cX0_isComing 0 = .ok (.iload_n 1, 1) := by decide +kernel
theorem dX0_isComing_1 : decode cX0_isComing 1 = .ok (.invokestatic 102, 3) := by decide +kernel
theorem dX0_isComing_4 : decode cX0_isComing 4 = .ok (.ifCond .eq 26, 3) := by decide +kernel
theorem dX0_isComing_7 : decode cX0_isComing 7 = .ok (.aload_n 0, 1) := by decide +kernel
theorem dX0_isComing_8 : decode cX0_isComing 8 = .ok (.getfield 28, 3) := by decide +kernel
theorem dX0_isComing_11 : decode cX0_isComing 11 = .ok (.iload_n 1, 1) := by decide +kernel
theorem dX0_isComing_12 : decode cX0_isComing 12 = .ok (.iaload, 1) := by decide +kernel
theorem dX0_isComing_13 : decode cX0_isComing 13 = .ok (.iconst (-1), 1) := by decide +kernel
theorem dX0_isComing_14 : decode cX0_isComing 14 = .ok (.if_icmp .eq 16, 3) := by decide +kernel
theorem dX0_isComing_30 : decode cX0_isComing 30 = .ok (.iconst 0, 1) := by decide +kernel
theorem dX0_isComing_31 : decode cX0_isComing 31 = .ok (.ireturn, 1) := by decide +kernel
theorem dX0_ageOf_0 : decode cX0_ageOf 0 = .ok (.aload_n 0, 1) := by decide +kernel
theorem dX0_ageOf_1 : decode cX0_ageOf 1 = .ok (.getfield 31, 3) := by decide +kernel
theorem dX0_ageOf_4 : decode cX0_ageOf 4 = .ok (.iload_n 1, 1) := by decide +kernel
theorem dX0_ageOf_5 : decode cX0_ageOf 5 = .ok (.baload, 1) := by decide +kernel
theorem dX0_ageOf_6 : decode cX0_ageOf 6 = .ok (.ifCond .eq 17, 3) := by decide +kernel
theorem dX0_ageOf_23 : decode cX0_ageOf 23 = .ok (.iconst (-1), 1) := by decide +kernel
theorem dX0_ageOf_24 : decode cX0_ageOf 24 = .ok (.ireturn, 1) := by decide +kernel
theorem dX0_countBorrowed_0 : decode cX0_countBorrowed 0 = .ok (.iconst 0, 1) := by decide +kernel
theorem dX0_countBorrowed_1 : decode cX0_countBorrowed 1 = .ok (.istore_n 2, 1) := by decide +kernel
theorem dX0_countBorrowed_2 : decode cX0_countBorrowed 2 = .ok (.iconst 0, 1) := by decide +kernel
theorem dX0_countBorrowed_3 : decode cX0_countBorrowed 3 = .ok (.istore_n 3, 1) := by decide +kernel
theorem dX0_countBorrowed_4 : decode cX0_countBorrowed 4 = .ok (.iload_n 3, 1) := by decide +kernel
theorem dX0_countBorrowed_5 : decode cX0_countBorrowed 5 = .ok (.bipush 12, 2) := by decide +kernel
theorem dX0_countBorrowed_7 : decode cX0_countBorrowed 7 = .ok (.if_icmp .ge 32, 3) := by decide +kernel
theorem dX0_countBorrowed_10 : decode cX0_countBorrowed 10 = .ok (.aload_n 0, 1) := by decide +kernel
theorem dX0_countBorrowed_11 : decode cX0_countBorrowed 11 = .ok (.getfield 25, 3) := by decide +kernel
theorem dX0_countBorrowed_14 : decode cX0_countBorrowed 14 = .ok (.iload_n 3, 1) := by decide +kernel
theorem dX0_countBorrowed_15 : decode cX0_countBorrowed 15 = .ok (.iaload, 1) := by decide +kernel
theorem dX0_countBorrowed_16 : decode cX0_countBorrowed 16 = .ok (.iload_n 1, 1) := by decide +kernel
theorem dX0_countBorrowed_17 : decode cX0_countBorrowed 17 = .ok (.if_icmp .ne 16, 3) := by decide +kernel
theorem dX0_countBorrowed_33 : decode cX0_countBorrowed 33 = .ok (.iinc 3 1, 3) := by decide +kernel
theorem dX0_countBorrowed_36 : decode cX0_countBorrowed 36 = .ok (.goto (-32), 3) := by decide +kernel
theorem dX0_countBorrowed_39 : decode cX0_countBorrowed 39 = .ok (.iload_n 2, 1) := by decide +kernel
theorem dX0_countBorrowed_40 : decode cX0_countBorrowed 40 = .ok (.ireturn, 1) := by decide +kernel
set_option maxRecDepth 20000 in
theorem ggX0_isRequested_X0_isComing : GoodIn wsX0_isRequested wsX0_isComing := goodIn_r _ [5, 6, 7, 8, 9, 4, 10, 16, 17, 18, 19, 20, 21, 22, 23, 24, 25, 26, 27, 28, 29, 30, 31, 32, 33, 34] (by decide +kernel) (by decide +kernel)
set_option maxRecDepth 20000 in
theorem gX0_isRequested_X0_isComing : GoodIn wsX0_isRequested (wsV RX0 140 RX0 yX0_isComing wsX0_isComing) := goodIn_app (goodIn_of _ (by decide +kernel)) ggX0_isRequested_X0_isComing
theorem dX0_isRequested_0 : decode cX0_isRequested 0 = .ok (.iconst 0, 1) := by decide +kernel
theorem dX0_isRequested_1 : decode cX0_isRequested 1 = .ok (.istore_n 2, 1) := by decide +kernel
theorem dX0_isRequested_2 : decode cX0_isRequested 2 = .ok (.iload_n 2, 1) := by decide +kernel
theorem dX0_isRequested_3 : decode cX0_isRequested 3 = .ok (.bipush 12, 2) := by decide +kernel
theorem dX0_isRequested_5 : decode cX0_isRequested 5 = .ok (.if_icmp .ge 28, 3) := by decide +kernel
theorem dX0_isRequested_8 : decode cX0_isRequested 8 = .ok (.aload_n 0, 1) := by decide +kernel
theorem dX0_isRequested_9 : decode cX0_isRequested 9 = .ok (.iload_n 2, 1) := by decide +kernel
theorem dX0_isRequested_10 : decode cX0_isRequested 10 = .ok (.invokevirtual 140, 3) := by decide +kernel
theorem dX0_isRequested_13 : decode cX0_isRequested 13 = .ok (.ifCond .eq 14, 3) := by decide +kernel
theorem dX0_isRequested_27 : decode cX0_isRequested 27 = .ok (.iinc 2 1, 3) := by decide +kernel
theorem dX0_isRequested_30 : decode cX0_isRequested 30 = .ok (.goto (-28), 3) := by decide +kernel
theorem dX0_isRequested_33 : decode cX0_isRequested 33 = .ok (.iconst 0, 1) := by decide +kernel
theorem dX0_isRequested_34 : decode cX0_isRequested 34 = .ok (.ireturn, 1) := by decide +kernel
theorem dJ9_abs_0f7a4_0 : decode cJ9_abs_0f7a4 0 = .ok (.iload_n 0, 1) := by decide +kernel
theorem dJ9_abs_0f7a4_1 : decode cJ9_abs_0f7a4 1 = .ok (.ifCond .ge 8, 3) := by decide +kernel
theorem dJ9_abs_0f7a4_4 : decode cJ9_abs_0f7a4 4 = .ok (.iload_n 0, 1) := by decide +kernel
theorem dJ9_abs_0f7a4_5 : decode cJ9_abs_0f7a4 5 = .ok (.ineg, 1) := by decide +kernel
theorem dJ9_abs_0f7a4_6 : decode cJ9_abs_0f7a4 6 = .ok (.goto 4, 3) := by decide +kernel
theorem dJ9_abs_0f7a4_9 : decode cJ9_abs_0f7a4 9 = .ok (.iload_n 0, 1) := by decide +kernel
theorem dJ9_abs_0f7a4_10 : decode cJ9_abs_0f7a4 10 = .ok (.ireturn, 1) := by decide +kernel
theorem dJ7_fill_53178_0 : decode cJ7_fill_53178 0 = .ok (.iconst 0, 1) := by decide +kernel
theorem dJ7_fill_53178_1 : decode cJ7_fill_53178 1 = .ok (.istore_n 2, 1) := by decide +kernel
theorem dJ7_fill_53178_2 : decode cJ7_fill_53178 2 = .ok (.aload_n 0, 1) := by decide +kernel
theorem dJ7_fill_53178_3 : decode cJ7_fill_53178 3 = .ok (.arraylength, 1) := by decide +kernel
theorem dJ7_fill_53178_4 : decode cJ7_fill_53178 4 = .ok (.istore_n 3, 1) := by decide +kernel
theorem dJ7_fill_53178_5 : decode cJ7_fill_53178 5 = .ok (.iload_n 2, 1) := by decide +kernel
theorem dJ7_fill_53178_6 : decode cJ7_fill_53178 6 = .ok (.iload_n 3, 1) := by decide +kernel
theorem dJ7_fill_53178_7 : decode cJ7_fill_53178 7 = .ok (.if_icmp .ge 13, 3) := by decide +kernel
theorem dJ7_fill_53178_10 : decode cJ7_fill_53178 10 = .ok (.aload_n 0, 1) := by decide +kernel
theorem dJ7_fill_53178_11 : decode cJ7_fill_53178 11 = .ok (.iload_n 2, 1) := by decide +kernel
theorem dJ7_fill_53178_12 : decode cJ7_fill_53178 12 = .ok (.iload_n 1, 1) := by decide +kernel
theorem dJ7_fill_53178_13 : decode cJ7_fill_53178 13 = .ok (.iastore, 1) := by decide +kernel
theorem dJ7_fill_53178_14 : decode cJ7_fill_53178 14 = .ok (.iinc 2 1, 3) := by decide +kernel
theorem dJ7_fill_53178_17 : decode cJ7_fill_53178 17 = .ok (.goto (-12), 3) := by decide +kernel
theorem dJ7_fill_53178_20 : decode cJ7_fill_53178 20 = .ok (.return_, 1) := by decide +kernel
end
section
theorem dL_dice_0 : decode cL_dice 0 = .ok (.iload_n 1, 1) := by decide +kernel
theorem dL_dice_1 : decode cL_dice 1 = .ok (.aload_n 0, 1) := by decide +kernel
theorem dL_dice_2 : decode cL_dice 2 = .ok (.arraylength, 1) := by decide +kernel
theorem dL_dice_3 : decode cL_dice 3 = .ok (.if_icmp .ge 9, 3) := by decide +kernel
theorem dL_dice_6 : decode cL_dice 6 = .ok (.aload_n 0, 1) := by decide +kernel
theorem dL_dice_7 : decode cL_dice 7 = .ok (.iload_n 1, 1) := by decide +kernel
theorem dL_dice_8 : decode cL_dice 8 = .ok (.iaload, 1) := by decide +kernel
theorem dL_dice_9 : decode cL_dice 9 = .ok (.goto 23, 3) := by decide +kernel
theorem dL_dice_32 : decode cL_dice 32 = .ok (.ldc 8, 2) := by decide +kernel
theorem dL_dice_34 : decode cL_dice 34 = .ok (.iand, 1) := by decide +kernel
theorem dL_dice_35 : decode cL_dice 35 = .ok (.ireturn, 1) := by decide +kernel
set_option maxRecDepth 20000 in
theorem ggL_act_X0_setWage : GoodIn wsL_act wsX0_setWage := goodIn_ca (goodIn_ca (goodIn_r _ [8, 9, 10, 11, 12, 13, 14, 15, 7, 16, 176, 177, 178, 179, 180, 181, 182, 183, 184, 185, 186, 187, 188, 189, 190, 191, 192, 193, 194] (by decide +kernel) (by decide +kernel)) (goodIn_sub (fun _ h => List.mem_cons_of_mem _ (List.mem_append_left _ (List.mem_append_left _ (List.mem_append_right _ h)))) (by decide +kernel))) (goodIn_sub (fun _ h => List.mem_cons_of_mem _ (List.mem_append_left _ (List.mem_append_right _ h))) (by decide +kernel))
set_option maxRecDepth 20000 in
theorem gL_act_X0_setWage : GoodIn wsL_act (wsV RL 9 RX0 yX0_setWage wsX0_setWage) := goodIn_app (goodIn_of _ (by decide +kernel)) ggL_act_X0_setWage
set_option maxRecDepth 20000 in
theorem ggL_act_X0_setRate : GoodIn wsL_act wsX0_setRate := goodIn_ca (goodIn_r _ [20, 11, 12, 21, 176, 177, 178, 179, 180, 181, 182, 183, 184, 185, 186, 187, 188, 189, 190, 191, 192, 193, 194] (by decide +kernel) (by decide +kernel)) (goodIn_sub (fun _ h => List.mem_cons_of_mem _ (List.mem_append_left _ (List.mem_append_right _ h))) (by decide +kernel))
set_option maxRecDepth 20000 in
theorem gL_act_X0_setRate : GoodIn wsL_act (wsV RL 15 RX0 yX0_setRate wsX0_setRate) := goodIn_app (goodIn_of _ (by decide +kernel)) ggL_act_X0_setRate
set_option maxRecDepth 20000 in
theorem ggL_act_X0_buy : GoodIn wsL_act wsX0_buy := goodIn_ca (goodIn_ca (goodIn_r _ [25, 9, 10, 26, 27, 28, 29, 30, 31, 14, 15, 7, 16, 32, 33, 34, 35, 36, 37, 38, 39, 176, 177, 178, 179, 180, 181, 182, 183, 184, 185, 186, 187, 188, 189, 190, 191, 192, 193, 194] (by decide +kernel) (by decide +kernel)) (goodIn_sub (fun _ h => List.mem_cons_of_mem _ (List.mem_append_left _ (List.mem_append_left _ (List.mem_append_right _ h)))) (by decide +kernel))) (goodIn_sub (fun _ h => List.mem_cons_of_mem _ (List.mem_append_right _ h)) (by decide +kernel))
set_option maxRecDepth 20000 in
theorem gL_act_X0_buy : GoodIn wsL_act (wsV RL 19 RX0 yX0_buy wsX0_buy) := goodIn_app (goodIn_of _ (by decide +kernel)) ggL_act_X0_buy
set_option maxRecDepth 20000 in
theorem ggL_act_X0_sell : GoodIn wsL_act wsX0_sell := goodIn_ca (goodIn_ca (goodIn_r _ [43, 9, 10, 26, 27, 30, 31, 36, 28, 29, 37, 38, 7, 39, 14, 15, 16, 176, 177, 178, 179, 180, 181, 182, 183, 184, 185, 186, 187, 188, 189, 190, 191, 192, 193, 194] (by decide +kernel) (by decide +kernel)) (goodIn_sub (fun _ h => List.mem_cons_of_mem _ (List.mem_append_left _ (List.mem_append_left _ (List.mem_append_right _ h)))) (by decide +kernel))) (goodIn_sub (fun _ h => List.mem_cons_of_mem _ (List.mem_append_right _ h)) (by decide +kernel))
set_option maxRecDepth 20000 in
theorem gL_act_X0_sell : GoodIn wsL_act (wsV RL 22 RX0 yX0_sell wsX0_sell) := goodIn_app (goodIn_of _ (by decide +kernel)) ggL_act_X0_sell
set_option maxRecDepth 20000 in
theorem ggL_act_X0_drop : GoodIn wsL_act wsX0_drop := goodIn_ca (goodIn_ca (goodIn_r _ [47, 9, 10, 26, 27, 48, 36, 37, 38, 7, 39, 49, 50, 51, 52, 53, 176, 177, 178, 179, 180, 181, 182, 183, 184, 185, 186, 187, 188, 189, 190, 191, 192, 193, 194] (by decide +kernel) (by decide +kernel)) (goodIn_sub (fun _ h => List.mem_cons_of_mem _ (List.mem_append_left _ (List.mem_append_left _ (List.mem_append_right _ h)))) (by decide +kernel))) (goodIn_sub (fun _ h => List.mem_cons_of_mem _ (List.mem_append_right _ h)) (by decide +kernel))
set_option maxRecDepth 20000 in
theorem gL_act_X0_drop : GoodIn wsL_act (wsV RL 25 RX0 yX0_drop wsX0_drop) := goodIn_app (goodIn_of _ (by decide +kernel)) ggL_act_X0_drop
set_option maxRecDepth 20000 in
theorem ggL_act_X0_touch : GoodIn wsL_act wsX0_touch := goodIn_ca (goodIn_ca (goodIn_r _ [57, 9, 10, 26, 27, 28, 58, 59, 36, 48, 60, 14, 15, 7, 16, 61, 62, 63, 64, 65, 66, 67, 31, 37, 38, 39, 68, 69, 70, 71, 32, 33, 34, 35, 72, 73, 74, 75, 76, 77, 78, 79, 80, 81, 82, 83, 84, 85, 86, 87, 30, 49, 50, 51, 52, 53, 88, 89, 90, 91, 29, 21, 92, 93, 94, 95, 96, 97, 98, 99, 100, 101, 102, 103, 104, 105, 106, 107, 108, 109, 110, 111, 112, 176, 177, 178, 179, 180, 181, 182, 183, 184, 185, 186, 187, 188, 189, 190, 191, 192, 193, 194] (by decide +kernel) (by decide +kernel)) (goodIn_sub (fun _ h => List.mem_cons_of_mem _ (List.mem_append_left _ (List.mem_append_left _ (List.mem_append_right _ h)))) (by decide +kernel))) (goodIn_sub (fun _ h => List.mem_cons_of_mem _ (List.mem_append_right _ h)) (by decide +kernel))
set_option maxRecDepth 20000 in
theorem gL_act_X0_touch : GoodIn wsL_act (wsV RL 28 RX0 yX0_touch wsX0_touch) := goodIn_app (goodIn_of _ (by decide +kernel)) ggL_act_X0_touch
set_option maxRecDepth 20000 in
theorem ggL_act_X0_payBack : GoodIn wsL_act wsX0_payBack := goodIn_ca (goodIn_ca (goodIn_r _ [116, 9, 10, 26, 27, 77, 79, 78, 117, 118, 119, 7, 120, 76, 80, 81, 82, 83, 36, 48, 37, 38, 39, 84, 85, 86, 87, 31, 30, 49, 50, 51, 52, 53, 176, 177, 178, 179, 180, 181, 182, 183, 184, 185, 186, 187, 188, 189, 190, 191, 192, 193, 194] (by decide +kernel) (by decide +kernel)) (goodIn_sub (fun _ h => List.mem_cons_of_mem _ (List.mem_append_left _ (List.mem_append_left _ (List.mem_append_right _ h)))) (by decide +kernel))) (goodIn_sub (fun _ h => List.mem_cons_of_mem _ (List.mem_append_right _ h)) (by decide +kernel))
set_option maxRecDepth 20000 in
theorem gL_act_X0_payBack : GoodIn wsL_act (wsV RL 31 RX0 yX0_payBack wsX0_payBack) := goodIn_app (goodIn_of _ (by decide +kernel)) ggL_act_X0_payBack
set_option maxRecDepth 20000 in
theorem ggL_act_X0_advance : GoodIn wsL_act wsX0_advance := goodIn_ca (goodIn_ca (goodIn_r _ [124, 11, 12, 26, 27, 59, 125, 126, 127, 128, 7, 129, 130, 131, 132, 133, 28, 29, 13, 134, 135, 136, 137, 76, 77, 138, 139, 140, 141, 92, 78, 21, 142, 14, 15, 16, 143, 144, 145, 146, 31, 80, 81, 82, 83, 36, 48, 37, 38, 39, 49, 50, 51, 52, 53, 84, 85, 86, 87, 79, 30, 147, 148, 149, 150, 151, 152, 153, 154, 155, 156, 157, 158, 159, 160, 161, 162, 163, 164, 165, 166, 167, 168, 169, 170, 171, 172, 173, 174, 175, 58, 176, 177, 178, 179, 180, 181, 182, 183, 184, 185, 186, 187, 188, 189, 190, 191, 192, 193, 194] (by decide +kernel) (by decide +kernel)) (goodIn_sub (fun _ h => List.mem_cons_of_mem _ (List.mem_append_left _ (List.mem_append_right _ h))) (by decide +kernel))) (goodIn_sub (fun _ h => List.mem_cons_of_mem _ (List.mem_append_right _ h)) (by decide +kernel))
set_option maxRecDepth 20000 in
theorem gL_act_X0_advance : GoodIn wsL_act (wsV RL 34 RX0 yX0_advance wsX0_advance) := goodIn_app (goodIn_of _ (by decide +kernel)) ggL_act_X0_advance
theorem dL_act_0 : decode cL_act 0 = .ok (.iload_n 1, 1) := by decide +kernel
theorem dL_act_1 : decode cL_act 1 = .ok (.ifCond .ne 12, 3) := by decide +kernel
theorem dL_act_4 : decode cL_act 4 = .ok (.aload_n 0, 1) := by decide +kernel
theorem dL_act_5 : decode cL_act 5 = .ok (.iload_n 2, 1) := by decide +kernel
theorem dL_act_6 : decode cL_act 6 = .ok (.iload_n 3, 1) := by decide +kernel
theorem dL_act_7 : decode cL_act 7 = .ok (.invokevirtual 9, 3) := by decide +kernel
theorem dL_act_13 : decode cL_act 13 = .ok (.iload_n 1, 1) := by decide +kernel
theorem dL_act_14 : decode cL_act 14 = .ok (.iconst 1, 1) := by decide +kernel
theorem dL_act_15 : decode cL_act 15 = .ok (.if_icmp .ne 11, 3) := by decide +kernel
theorem dL_act_18 : decode cL_act 18 = .ok (.aload_n 0, 1) := by decide +kernel
theorem dL_act_19 : decode cL_act 19 = .ok (.iload_n 2, 1) := by decide +kernel
theorem dL_act_20 : decode cL_act 20 = .ok (.invokevirtual 15, 3) := by decide +kernel
theorem dL_act_26 : decode cL_act 26 = .ok (.iload_n 1, 1) := by decide +kernel
theorem dL_act_27 : decode cL_act 27 = .ok (.iconst 2, 1) := by decide +kernel
theorem dL_act_28 : decode cL_act 28 = .ok (.if_icmp .ne 11, 3) := by decide +kernel
theorem dL_act_31 : decode cL_act 31 = .ok (.aload_n 0, 1) := by decide +kernel
theorem dL_act_32 : decode cL_act 32 = .ok (.iload_n 2, 1) := by decide +kernel
theorem dL_act_33 : decode cL_act 33 = .ok (.invokevirtual 19, 3) := by decide +kernel
theorem dL_act_39 : decode cL_act 39 = .ok (.iload_n 1, 1) := by decide +kernel
theorem dL_act_40 : decode cL_act 40 = .ok (.iconst 3, 1) := by decide +kernel
theorem dL_act_41 : decode cL_act 41 = .ok (.if_icmp .ne 11, 3) := by decide +kernel
theorem dL_act_44 : decode cL_act 44 = .ok (.aload_n 0, 1) := by decide +kernel
theorem dL_act_45 : decode cL_act 45 = .ok (.iload_n 2, 1) := by decide +kernel
theorem dL_act_46 : decode cL_act 46 = .ok (.invokevirtual 22, 3) := by decide +kernel
theorem dL_act_52 : decode cL_act 52 = .ok (.iload_n 1, 1) := by decide +kernel
theorem dL_act_53 : decode cL_act 53 = .ok (.iconst 4, 1) := by decide +kernel
theorem dL_act_54 : decode cL_act 54 = .ok (.if_icmp .ne 11, 3) := by decide +kernel
theorem dL_act_57 : decode cL_act 57 = .ok (.aload_n 0, 1) := by decide +kernel
theorem dL_act_58 : decode cL_act 58 = .ok (.iload_n 2, 1) := by decide +kernel
theorem dL_act_59 : decode cL_act 59 = .ok (.invokevirtual 25, 3) := by decide +kernel
theorem dL_act_65 : decode cL_act 65 = .ok (.iload_n 1, 1) := by decide +kernel
theorem dL_act_66 : decode cL_act 66 = .ok (.iconst 5, 1) := by decide +kernel
theorem dL_act_67 : decode cL_act 67 = .ok (.if_icmp .ne 12, 3) := by decide +kernel
theorem dL_act_70 : decode cL_act 70 = .ok (.aload_n 0, 1) := by decide +kernel
theorem dL_act_71 : decode cL_act 71 = .ok (.iload_n 2, 1) := by decide +kernel
theorem dL_act_72 : decode cL_act 72 = .ok (.iload_n 3, 1) := by decide +kernel
theorem dL_act_73 : decode cL_act 73 = .ok (.invokevirtual 28, 3) := by decide +kernel
theorem dL_act_79 : decode cL_act 79 = .ok (.iload_n 1, 1) := by decide +kernel
theorem dL_act_80 : decode cL_act 80 = .ok (.bipush 6, 2) := by decide +kernel
theorem dL_act_82 : decode cL_act 82 = .ok (.if_icmp .ne 11, 3) := by decide +kernel
theorem dL_act_85 : decode cL_act 85 = .ok (.aload_n 0, 1) := by decide +kernel
theorem dL_act_86 : decode cL_act 86 = .ok (.iload_n 2, 1) := by decide +kernel
theorem dL_act_87 : decode cL_act 87 = .ok (.invokevirtual 31, 3) := by decide +kernel
theorem dL_act_93 : decode cL_act 93 = .ok (.aload_n 0, 1) := by decide +kernel
theorem dL_act_94 : decode cL_act 94 = .ok (.iload_n 2, 1) := by decide +kernel
theorem dL_act_95 : decode cL_act 95 = .ok (.invokevirtual 34, 3) := by decide +kernel
theorem dL_act_99 : decode cL_act 99 = .ok (.astore 4, 2) := by decide +kernel
theorem dL_act_101 : decode cL_act 101 = .ok (.sipush (-1211), 3) := by decide +kernel
theorem dL_act_104 : decode cL_act 104 = .ok (.ireturn, 1) := by decide +kernel
theorem dL_act_105 : decode cL_act 105 = .ok (.astore 4, 2) := by decide +kernel
theorem dL_act_107 : decode cL_act 107 = .ok (.sipush (-1212), 3) := by decide +kernel
theorem dL_act_110 : decode cL_act 110 = .ok (.ireturn, 1) := by decide +kernel
theorem dL_act_111 : decode cL_act 111 = .ok (.astore 4, 2) := by decide +kernel
theorem dL_act_113 : decode cL_act 113 = .ok (.sipush (-1213), 3) := by decide +kernel
theorem dL_act_116 : decode cL_act 116 = .ok (.ireturn, 1) := by decide +kernel
set_option maxRecDepth 20000 in
theorem ggL_of_X0_owner : GoodIn wsL_of wsX0_owner := goodIn_ca (goodIn_r _ [6, 7, 8, 9, 10, 11, 5, 12, 110, 111, 112, 113, 114, 115, 116, 117, 118, 119, 120, 121, 122, 123, 124, 125, 126, 127, 128] (by decide +kernel) (by decide +kernel)) (goodIn_sub (fun _ h => List.mem_cons_of_mem _ (List.mem_append_right _ h)) (by decide +kernel))
set_option maxRecDepth 20000 in
theorem gL_of_X0_owner : GoodIn wsL_of (wsV RL 43 RX0 yX0_owner wsX0_owner) := goodIn_app (goodIn_of _ (by decide +kernel)) ggL_of_X0_owner
set_option maxRecDepth 20000 in
theorem ggL_of_X0_holder : GoodIn wsL_of wsX0_holder := goodIn_ca (goodIn_r _ [16, 7, 8, 17, 10, 11, 5, 12, 110, 111, 112, 113, 114, 115, 116, 117, 118, 119, 120, 121, 122, 123, 124, 125, 126, 127, 128] (by decide +kernel) (by decide +kernel)) (goodIn_sub (fun _ h => List.mem_cons_of_mem _ (List.mem_append_right _ h)) (by decide +kernel))
set_option maxRecDepth 20000 in
theorem gL_of_X0_holder : GoodIn wsL_of (wsV RL 46 RX0 yX0_holder wsX0_holder) := goodIn_app (goodIn_of _ (by decide +kernel)) ggL_of_X0_holder
set_option maxRecDepth 20000 in
theorem ggL_of_X0_holderByLog : GoodIn wsL_of wsX0_holderByLog := goodIn_ca (goodIn_r _ [21, 7, 8, 22, 23, 24, 25, 9, 10, 11, 5, 12, 110, 111, 112, 113, 114, 115, 116, 117, 118, 119, 120, 121, 122, 123, 124, 125, 126, 127, 128] (by decide +kernel) (by decide +kernel)) (goodIn_sub (fun _ h => List.mem_cons_of_mem _ (List.mem_append_right _ h)) (by decide +kernel))
set_option maxRecDepth 20000 in
theorem gL_of_X0_holderByLog : GoodIn wsL_of (wsV RL 49 RX0 yX0_holderByLog wsX0_holderByLog) := goodIn_app (goodIn_of _ (by decide +kernel)) ggL_of_X0_holderByLog
set_option maxRecDepth 20000 in
theorem ggL_of_X0_pageIn : GoodIn wsL_of wsX0_pageIn := goodIn_ca (goodIn_r _ [29, 7, 8, 30, 10, 11, 5, 12, 110, 111, 112, 113, 114, 115, 116, 117, 118, 119, 120, 121, 122, 123, 124, 125, 126, 127, 128] (by decide +kernel) (by decide +kernel)) (goodIn_sub (fun _ h => List.mem_cons_of_mem _ (List.mem_append_right _ h)) (by decide +kernel))
set_option maxRecDepth 20000 in
theorem gL_of_X0_pageIn : GoodIn wsL_of (wsV RL 52 RX0 yX0_pageIn wsX0_pageIn) := goodIn_app (goodIn_of _ (by decide +kernel)) ggL_of_X0_pageIn
set_option maxRecDepth 20000 in
theorem ggL_of_X0_age : GoodIn wsL_of wsX0_age := goodIn_ca (goodIn_r _ [34, 7, 8, 10, 11, 5, 12, 35, 36, 37, 38, 39, 40, 41, 110, 111, 112, 113, 114, 115, 116, 117, 118, 119, 120, 121, 122, 123, 124, 125, 126, 127, 128] (by decide +kernel) (by decide +kernel)) (goodIn_sub (fun _ h => List.mem_cons_of_mem _ (List.mem_append_right _ h)) (by decide +kernel))
set_option maxRecDepth 20000 in
theorem gL_of_X0_age : GoodIn wsL_of (wsV RL 55 RX0 yX0_age wsX0_age) := goodIn_app (goodIn_of _ (by decide +kernel)) ggL_of_X0_age
set_option maxRecDepth 20000 in
theorem ggL_of_X0_owns : GoodIn wsL_of wsX0_owns := goodIn_ca (goodIn_r _ [45, 7, 8, 9, 46, 47, 5, 48, 110, 111, 112, 113, 114, 115, 116, 117, 118, 119, 120, 121, 122, 123, 124, 125, 126, 127, 128] (by decide +kernel) (by decide +kernel)) (goodIn_sub (fun _ h => List.mem_cons_of_mem _ (List.mem_append_right _ h)) (by decide +kernel))
set_option maxRecDepth 20000 in
theorem gL_of_X0_owns : GoodIn wsL_of (wsV RL 58 RX0 yX0_owns wsX0_owns) := goodIn_app (goodIn_of _ (by decide +kernel)) ggL_of_X0_owns
set_option maxRecDepth 20000 in
theorem ggL_of_X0_borrowed : GoodIn wsL_of wsX0_borrowed := goodIn_ca (goodIn_r _ [52, 7, 8, 46, 47, 5, 48, 53, 54, 55, 56, 17, 9, 110, 111, 112, 113, 114, 115, 116, 117, 118, 119, 120, 121, 122, 123, 124, 125, 126, 127, 128] (by decide +kernel) (by decide +kernel)) (goodIn_sub (fun _ h => List.mem_cons_of_mem _ (List.mem_append_right _ h)) (by decide +kernel))
set_option maxRecDepth 20000 in
theorem gL_of_X0_borrowed : GoodIn wsL_of (wsV RL 61 RX0 yX0_borrowed wsX0_borrowed) := goodIn_app (goodIn_of _ (by decide +kernel)) ggL_of_X0_borrowed
set_option maxRecDepth 20000 in
theorem ggL_of_X0_lent : GoodIn wsL_of wsX0_lent := goodIn_ca (goodIn_r _ [60, 7, 8, 9, 17, 46, 47, 5, 48, 110, 111, 112, 113, 114, 115, 116, 117, 118, 119, 120, 121, 122, 123, 124, 125, 126, 127, 128] (by decide +kernel) (by decide +kernel)) (goodIn_sub (fun _ h => List.mem_cons_of_mem _ (List.mem_append_right _ h)) (by decide +kernel))
set_option maxRecDepth 20000 in
theorem gL_of_X0_lent : GoodIn wsL_of (wsV RL 64 RX0 yX0_lent wsX0_lent) := goodIn_app (goodIn_of _ (by decide +kernel)) ggL_of_X0_lent
set_option maxRecDepth 20000 in
theorem ggL_of_X0_stateOf : GoodIn wsL_of wsX0_stateOf := goodIn_ca (goodIn_r _ [64, 7, 8, 65, 46, 47, 5, 48, 110, 111, 112, 113, 114, 115, 116, 117, 118, 119, 120, 121, 122, 123, 124, 125, 126, 127, 128] (by decide +kernel) (by decide +kernel)) (goodIn_sub (fun _ h => List.mem_cons_of_mem _ (List.mem_append_right _ h)) (by decide +kernel))
set_option maxRecDepth 20000 in
theorem gL_of_X0_stateOf : GoodIn wsL_of (wsV RL 67 RX0 yX0_stateOf wsX0_stateOf) := goodIn_app (goodIn_of _ (by decide +kernel)) ggL_of_X0_stateOf
set_option maxRecDepth 20000 in
theorem ggL_of_X0_purse : GoodIn wsL_of wsX0_purse := goodIn_ca (goodIn_r _ [69, 7, 8, 70, 46, 47, 5, 48, 110, 111, 112, 113, 114, 115, 116, 117, 118, 119, 120, 121, 122, 123, 124, 125, 126, 127, 128] (by decide +kernel) (by decide +kernel)) (goodIn_sub (fun _ h => List.mem_cons_of_mem _ (List.mem_append_right _ h)) (by decide +kernel))
set_option maxRecDepth 20000 in
theorem gL_of_X0_purse : GoodIn wsL_of (wsV RL 70 RX0 yX0_purse wsX0_purse) := goodIn_app (goodIn_of _ (by decide +kernel)) ggL_of_X0_purse
set_option maxRecDepth 20000 in
theorem ggL_of_X0_faults : GoodIn wsL_of wsX0_faults := goodIn_ca (goodIn_r _ [74, 7, 8, 75, 46, 47, 5, 48, 110, 111, 112, 113, 114, 115, 116, 117, 118, 119, 120, 121, 122, 123, 124, 125, 126, 127, 128] (by decide +kernel) (by decide +kernel)) (goodIn_sub (fun _ h => List.mem_cons_of_mem _ (List.mem_append_right _ h)) (by decide +kernel))
set_option maxRecDepth 20000 in
theorem gL_of_X0_faults : GoodIn wsL_of (wsV RL 73 RX0 yX0_faults wsX0_faults) := goodIn_app (goodIn_of _ (by decide +kernel)) ggL_of_X0_faults
set_option maxRecDepth 20000 in
theorem ggL_of_X0_lasts : GoodIn wsL_of wsX0_lasts := goodIn_ca (goodIn_r _ [79, 7, 8, 23, 80, 81, 82, 5, 83, 22, 110, 111, 112, 113, 114, 115, 116, 117, 118, 119, 120, 121, 122, 123, 124, 125, 126, 127, 128] (by decide +kernel) (by decide +kernel)) (goodIn_sub (fun _ h => List.mem_cons_of_mem _ (List.mem_append_right _ h)) (by decide +kernel))
set_option maxRecDepth 20000 in
theorem gL_of_X0_lasts : GoodIn wsL_of (wsV RL 76 RX0 yX0_lasts wsX0_lasts) := goodIn_app (goodIn_of _ (by decide +kernel)) ggL_of_X0_lasts
set_option maxRecDepth 20000 in
theorem ggL_of_X0_partiesOf : GoodIn wsL_of wsX0_partiesOf := goodIn_ca (goodIn_r _ [87, 7, 8, 24, 88, 25, 80, 81, 82, 5, 83, 22, 110, 111, 112, 113, 114, 115, 116, 117, 118, 119, 120, 121, 122, 123, 124, 125, 126, 127, 128] (by decide +kernel) (by decide +kernel)) (goodIn_sub (fun _ h => List.mem_cons_of_mem _ (List.mem_append_right _ h)) (by decide +kernel))
set_option maxRecDepth 20000 in
theorem gL_of_X0_partiesOf : GoodIn wsL_of (wsV RL 80 RX0 yX0_partiesOf wsX0_partiesOf) := goodIn_app (goodIn_of _ (by decide +kernel)) ggL_of_X0_partiesOf
set_option maxRecDepth 20000 in
theorem ggL_of_X0_interest : GoodIn wsL_of wsX0_interest := goodIn_ca (goodIn_r _ [92, 7, 8, 93, 80, 81, 82, 5, 83, 22, 110, 111, 112, 113, 114, 115, 116, 117, 118, 119, 120, 121, 122, 123, 124, 125, 126, 127, 128] (by decide +kernel) (by decide +kernel)) (goodIn_sub (fun _ h => List.mem_cons_of_mem _ (List.mem_append_right _ h)) (by decide +kernel))
set_option maxRecDepth 20000 in
theorem gL_of_X0_interest : GoodIn wsL_of (wsV RL 83 RX0 yX0_interest wsX0_interest) := goodIn_app (goodIn_of _ (by decide +kernel)) ggL_of_X0_interest
set_option maxRecDepth 20000 in
theorem ggL_of_X0_requestAt : GoodIn wsL_of wsX0_requestAt := goodIn_ca (goodIn_r _ [97, 7, 8, 98, 99, 100, 5, 101, 102, 103, 104, 105, 30, 39, 10, 11, 12, 106, 107, 108, 109, 17, 110, 111, 112, 113, 114, 115, 116, 117, 118, 119, 120, 121, 122, 123, 124, 125, 126, 127, 128] (by decide +kernel) (by decide +kernel)) (goodIn_sub (fun _ h => List.mem_cons_of_mem _ (List.mem_append_right _ h)) (by decide +kernel))
set_option maxRecDepth 20000 in
theorem gL_of_X0_requestAt : GoodIn wsL_of (wsV RL 86 RX0 yX0_requestAt wsX0_requestAt) := goodIn_app (goodIn_of _ (by decide +kernel)) ggL_of_X0_requestAt
theorem dL_of_0 : decode cL_of 0 = .ok (.iload_n 1, 1) := by decide +kernel
theorem dL_of_1 : decode cL_of 1 = .ok (.ifCond .ne 11, 3) := by decide +kernel
theorem dL_of_4 : decode cL_of 4 = .ok (.aload_n 0, 1) := by decide +kernel
theorem dL_of_5 : decode cL_of 5 = .ok (.iload_n 2, 1) := by decide +kernel
theorem dL_of_6 : decode cL_of 6 = .ok (.invokevirtual 43, 3) := by decide +kernel
theorem dL_of_12 : decode cL_of 12 = .ok (.iload_n 1, 1) := by decide +kernel
theorem dL_of_13 : decode cL_of 13 = .ok (.iconst 1, 1) := by decide +kernel
theorem dL_of_14 : decode cL_of 14 = .ok (.if_icmp .ne 11, 3) := by decide +kernel
theorem dL_of_17 : decode cL_of 17 = .ok (.aload_n 0, 1) := by decide +kernel
theorem dL_of_18 : decode cL_of 18 = .ok (.iload_n 2, 1) := by decide +kernel
theorem dL_of_19 : decode cL_of 19 = .ok (.invokevirtual 46, 3) := by decide +kernel
theorem dL_of_25 : decode cL_of 25 = .ok (.iload_n 1, 1) := by decide +kernel
theorem dL_of_26 : decode cL_of 26 = .ok (.iconst 2, 1) := by decide +kernel
theorem dL_of_27 : decode cL_of 27 = .ok (.if_icmp .ne 11, 3) := by decide +kernel
theorem dL_of_30 : decode cL_of 30 = .ok (.aload_n 0, 1) := by decide +kernel
theorem dL_of_31 : decode cL_of 31 = .ok (.iload_n 2, 1) := by decide +kernel
theorem dL_of_32 : decode cL_of 32 = .ok (.invokevirtual 49, 3) := by decide +kernel
theorem dL_of_38 : decode cL_of 38 = .ok (.iload_n 1, 1) := by decide +kernel
theorem dL_of_39 : decode cL_of 39 = .ok (.iconst 3, 1) := by decide +kernel
theorem dL_of_40 : decode cL_of 40 = .ok (.if_icmp .ne 11, 3) := by decide +kernel
theorem dL_of_43 : decode cL_of 43 = .ok (.aload_n 0, 1) := by decide +kernel
theorem dL_of_44 : decode cL_of 44 = .ok (.iload_n 2, 1) := by decide +kernel
theorem dL_of_45 : decode cL_of 45 = .ok (.invokevirtual 52, 3) := by decide +kernel
theorem dL_of_51 : decode cL_of 51 = .ok (.iload_n 1, 1) := by decide +kernel
theorem dL_of_52 : decode cL_of 52 = .ok (.iconst 4, 1) := by decide +kernel
theorem dL_of_53 : decode cL_of 53 = .ok (.if_icmp .ne 11, 3) := by decide +kernel
theorem dL_of_56 : decode cL_of 56 = .ok (.aload_n 0, 1) := by decide +kernel
theorem dL_of_57 : decode cL_of 57 = .ok (.iload_n 2, 1) := by decide +kernel
theorem dL_of_58 : decode cL_of 58 = .ok (.invokevirtual 55, 3) := by decide +kernel
theorem dL_of_64 : decode cL_of 64 = .ok (.iload_n 1, 1) := by decide +kernel
theorem dL_of_65 : decode cL_of 65 = .ok (.iconst 5, 1) := by decide +kernel
theorem dL_of_66 : decode cL_of 66 = .ok (.if_icmp .ne 11, 3) := by decide +kernel
theorem dL_of_69 : decode cL_of 69 = .ok (.aload_n 0, 1) := by decide +kernel
theorem dL_of_70 : decode cL_of 70 = .ok (.iload_n 2, 1) := by decide +kernel
theorem dL_of_71 : decode cL_of 71 = .ok (.invokevirtual 58, 3) := by decide +kernel
theorem dL_of_77 : decode cL_of 77 = .ok (.iload_n 1, 1) := by decide +kernel
theorem dL_of_78 : decode cL_of 78 = .ok (.bipush 6, 2) := by decide +kernel
theorem dL_of_80 : decode cL_of 80 = .ok (.if_icmp .ne 11, 3) := by decide +kernel
theorem dL_of_83 : decode cL_of 83 = .ok (.aload_n 0, 1) := by decide +kernel
theorem dL_of_84 : decode cL_of 84 = .ok (.iload_n 2, 1) := by decide +kernel
theorem dL_of_85 : decode cL_of 85 = .ok (.invokevirtual 61, 3) := by decide +kernel
theorem dL_of_91 : decode cL_of 91 = .ok (.iload_n 1, 1) := by decide +kernel
theorem dL_of_92 : decode cL_of 92 = .ok (.bipush 7, 2) := by decide +kernel
theorem dL_of_94 : decode cL_of 94 = .ok (.if_icmp .ne 11, 3) := by decide +kernel
theorem dL_of_97 : decode cL_of 97 = .ok (.aload_n 0, 1) := by decide +kernel
theorem dL_of_98 : decode cL_of 98 = .ok (.iload_n 2, 1) := by decide +kernel
theorem dL_of_99 : decode cL_of 99 = .ok (.invokevirtual 64, 3) := by decide +kernel
theorem dL_of_105 : decode cL_of 105 = .ok (.iload_n 1, 1) := by decide +kernel
theorem dL_of_106 : decode cL_of 106 = .ok (.bipush 8, 2) := by decide +kernel
theorem dL_of_108 : decode cL_of 108 = .ok (.if_icmp .ne 11, 3) := by decide +kernel
theorem dL_of_111 : decode cL_of 111 = .ok (.aload_n 0, 1) := by decide +kernel
theorem dL_of_112 : decode cL_of 112 = .ok (.iload_n 2, 1) := by decide +kernel
theorem dL_of_113 : decode cL_of 113 = .ok (.invokevirtual 67, 3) := by decide +kernel
theorem dL_of_119 : decode cL_of 119 = .ok (.iload_n 1, 1) := by decide +kernel
theorem dL_of_120 : decode cL_of 120 = .ok (.bipush 9, 2) := by decide +kernel
theorem dL_of_122 : decode cL_of 122 = .ok (.if_icmp .ne 11, 3) := by decide +kernel
theorem dL_of_125 : decode cL_of 125 = .ok (.aload_n 0, 1) := by decide +kernel
theorem dL_of_126 : decode cL_of 126 = .ok (.iload_n 2, 1) := by decide +kernel
theorem dL_of_127 : decode cL_of 127 = .ok (.invokevirtual 70, 3) := by decide +kernel
theorem dL_of_133 : decode cL_of 133 = .ok (.iload_n 1, 1) := by decide +kernel
theorem dL_of_134 : decode cL_of 134 = .ok (.bipush 10, 2) := by decide +kernel
theorem dL_of_136 : decode cL_of 136 = .ok (.if_icmp .ne 11, 3) := by decide +kernel
theorem dL_of_139 : decode cL_of 139 = .ok (.aload_n 0, 1) := by decide +kernel
theorem dL_of_140 : decode cL_of 140 = .ok (.iload_n 2, 1) := by decide +kernel
theorem dL_of_141 : decode cL_of 141 = .ok (.invokevirtual 73, 3) := by decide +kernel
theorem dL_of_147 : decode cL_of 147 = .ok (.iload_n 1, 1) := by decide +kernel
theorem dL_of_148 : decode cL_of 148 = .ok (.bipush 11, 2) := by decide +kernel
theorem dL_of_150 : decode cL_of 150 = .ok (.if_icmp .ne 19, 3) := by decide +kernel
theorem dL_of_153 : decode cL_of 153 = .ok (.aload_n 0, 1) := by decide +kernel
theorem dL_of_154 : decode cL_of 154 = .ok (.iload_n 2, 1) := by decide +kernel
theorem dL_of_155 : decode cL_of 155 = .ok (.invokevirtual 76, 3) := by decide +kernel
theorem dL_of_169 : decode cL_of 169 = .ok (.iload_n 1, 1) := by decide +kernel
theorem dL_of_170 : decode cL_of 170 = .ok (.bipush 12, 2) := by decide +kernel
theorem dL_of_172 : decode cL_of 172 = .ok (.if_icmp .ne 11, 3) := by decide +kernel
theorem dL_of_175 : decode cL_of 175 = .ok (.aload_n 0, 1) := by decide +kernel
theorem dL_of_176 : decode cL_of 176 = .ok (.iload_n 2, 1) := by decide +kernel
theorem dL_of_177 : decode cL_of 177 = .ok (.invokevirtual 80, 3) := by decide +kernel
theorem dL_of_183 : decode cL_of 183 = .ok (.iload_n 1, 1) := by decide +kernel
theorem dL_of_184 : decode cL_of 184 = .ok (.bipush 13, 2) := by decide +kernel
theorem dL_of_186 : decode cL_of 186 = .ok (.if_icmp .ne 11, 3) := by decide +kernel
theorem dL_of_189 : decode cL_of 189 = .ok (.aload_n 0, 1) := by decide +kernel
theorem dL_of_190 : decode cL_of 190 = .ok (.iload_n 2, 1) := by decide +kernel
theorem dL_of_191 : decode cL_of 191 = .ok (.invokevirtual 83, 3) := by decide +kernel
theorem dL_of_197 : decode cL_of 197 = .ok (.aload_n 0, 1) := by decide +kernel
theorem dL_of_198 : decode cL_of 198 = .ok (.iload_n 2, 1) := by decide +kernel
theorem dL_of_199 : decode cL_of 199 = .ok (.invokevirtual 86, 3) := by decide +kernel
theorem dL_of_203 : decode cL_of 203 = .ok (.astore_n 3, 1) := by decide +kernel
theorem dL_of_204 : decode cL_of 204 = .ok (.sipush (-1211), 3) := by decide +kernel
theorem dL_of_207 : decode cL_of 207 = .ok (.ireturn, 1) := by decide +kernel
set_option maxRecDepth 20000 in
theorem ggL_all_X0_tick : GoodIn wsL_all wsX0_tick := goodIn_r _ [11, 12, 79, 80, 81, 82, 83, 84, 85, 86, 87, 88, 89, 90, 91, 92, 93, 94, 95, 96, 97] (by decide +kernel) (by decide +kernel)
set_option maxRecDepth 20000 in
theorem gL_all_X0_tick : GoodIn wsL_all (wsV RL 89 RX0 yX0_tick wsX0_tick) := goodIn_app (goodIn_of _ (by decide +kernel)) ggL_all_X0_tick
set_option maxRecDepth 20000 in
theorem ggL_all_X0_head : GoodIn wsL_all wsX0_head := goodIn_r _ [16, 17, 79, 80, 81, 82, 83, 84, 85, 86, 87, 88, 89, 90, 91, 92, 93, 94, 95, 96, 97] (by decide +kernel) (by decide +kernel)
set_option maxRecDepth 20000 in
theorem gL_all_X0_head : GoodIn wsL_all (wsV RL 95 RX0 yX0_head wsX0_head) := goodIn_app (goodIn_of _ (by decide +kernel)) ggL_all_X0_head
set_option maxRecDepth 20000 in
theorem ggL_all_X0_requests : GoodIn wsL_all wsX0_requests := goodIn_r _ [21, 22, 23, 24, 10, 25, 26, 27, 28, 29, 30, 79, 80, 81, 82, 83, 84, 85, 86, 87, 88, 89, 90, 91, 92, 93, 94, 95, 96, 97] (by decide +kernel) (by decide +kernel)
set_option maxRecDepth 20000 in
theorem gL_all_X0_requests : GoodIn wsL_all (wsV RL 100 RX0 yX0_requests wsX0_requests) := goodIn_app (goodIn_of _ (by decide +kernel)) ggL_all_X0_requests
set_option maxRecDepth 20000 in
theorem ggL_all_X0_loans : GoodIn wsL_all wsX0_loans := goodIn_r _ [34, 35, 79, 80, 81, 82, 83, 84, 85, 86, 87, 88, 89, 90, 91, 92, 93, 94, 95, 96, 97] (by decide +kernel) (by decide +kernel)
set_option maxRecDepth 20000 in
theorem gL_all_X0_loans : GoodIn wsL_all (wsV RL 105 RX0 yX0_loans wsX0_loans) := goodIn_app (goodIn_of _ (by decide +kernel)) ggL_all_X0_loans
set_option maxRecDepth 20000 in
theorem ggL_all_X0_owner : GoodIn wsL_all wsX0_owner := goodIn_ca (goodIn_r _ [39, 40, 41, 42, 28, 29, 10, 30, 79, 80, 81, 82, 83, 84, 85, 86, 87, 88, 89, 90, 91, 92, 93, 94, 95, 96, 97] (by decide +kernel) (by decide +kernel)) (goodIn_sub (fun _ h => List.mem_cons_of_mem _ (List.mem_append_right _ h)) (by decide +kernel))
set_option maxRecDepth 20000 in
theorem gL_all_X0_owner : GoodIn wsL_all (wsV RL 43 RX0 yX0_owner wsX0_owner) := goodIn_app (goodIn_of _ (by decide +kernel)) ggL_all_X0_owner
set_option maxRecDepth 20000 in
theorem ggL_all_X0_holder : GoodIn wsL_all wsX0_holder := goodIn_ca (goodIn_r _ [46, 40, 41, 47, 28, 29, 10, 30, 79, 80, 81, 82, 83, 84, 85, 86, 87, 88, 89, 90, 91, 92, 93, 94, 95, 96, 97] (by decide +kernel) (by decide +kernel)) (goodIn_sub (fun _ h => List.mem_cons_of_mem _ (List.mem_append_right _ h)) (by decide +kernel))
set_option maxRecDepth 20000 in
theorem gL_all_X0_holder : GoodIn wsL_all (wsV RL 46 RX0 yX0_holder wsX0_holder) := goodIn_app (goodIn_of _ (by decide +kernel)) ggL_all_X0_holder
set_option maxRecDepth 20000 in
theorem ggL_all_X0_pageIn : GoodIn wsL_all wsX0_pageIn := goodIn_ca (goodIn_r _ [51, 40, 41, 26, 28, 29, 10, 30, 79, 80, 81, 82, 83, 84, 85, 86, 87, 88, 89, 90, 91, 92, 93, 94, 95, 96, 97] (by decide +kernel) (by decide +kernel)) (goodIn_sub (fun _ h => List.mem_cons_of_mem _ (List.mem_append_right _ h)) (by decide +kernel))
set_option maxRecDepth 20000 in
theorem gL_all_X0_pageIn : GoodIn wsL_all (wsV RL 52 RX0 yX0_pageIn wsX0_pageIn) := goodIn_app (goodIn_of _ (by decide +kernel)) ggL_all_X0_pageIn
set_option maxRecDepth 20000 in
theorem ggL_all_X0_age : GoodIn wsL_all wsX0_age := goodIn_ca (goodIn_r _ [55, 40, 41, 28, 29, 10, 30, 56, 57, 58, 59, 27, 12, 60, 79, 80, 81, 82, 83, 84, 85, 86, 87, 88, 89, 90, 91, 92, 93, 94, 95, 96, 97] (by decide +kernel) (by decide +kernel)) (goodIn_sub (fun _ h => List.mem_cons_of_mem _ (List.mem_append_right _ h)) (by decide +kernel))
set_option maxRecDepth 20000 in
theorem gL_all_X0_age : GoodIn wsL_all (wsV RL 55 RX0 yX0_age wsX0_age) := goodIn_app (goodIn_of _ (by decide +kernel)) ggL_all_X0_age
set_option maxRecDepth 20000 in
theorem ggL_all_X0_purse : GoodIn wsL_all wsX0_purse := goodIn_ca (goodIn_r _ [64, 40, 41, 65, 66, 67, 10, 68, 79, 80, 81, 82, 83, 84, 85, 86, 87, 88, 89, 90, 91, 92, 93, 94, 95, 96, 97] (by decide +kernel) (by decide +kernel)) (goodIn_sub (fun _ h => List.mem_cons_of_mem _ (List.mem_append_right _ h)) (by decide +kernel))
set_option maxRecDepth 20000 in
theorem gL_all_X0_purse : GoodIn wsL_all (wsV RL 70 RX0 yX0_purse wsX0_purse) := goodIn_app (goodIn_of _ (by decide +kernel)) ggL_all_X0_purse
set_option maxRecDepth 20000 in
theorem ggL_all_X0_stateOf : GoodIn wsL_all wsX0_stateOf := goodIn_ca (goodIn_r _ [72, 40, 41, 73, 66, 67, 10, 68, 79, 80, 81, 82, 83, 84, 85, 86, 87, 88, 89, 90, 91, 92, 93, 94, 95, 96, 97] (by decide +kernel) (by decide +kernel)) (goodIn_sub (fun _ h => List.mem_cons_of_mem _ (List.mem_append_right _ h)) (by decide +kernel))
set_option maxRecDepth 20000 in
theorem gL_all_X0_stateOf : GoodIn wsL_all (wsV RL 67 RX0 yX0_stateOf wsX0_stateOf) := goodIn_app (goodIn_of _ (by decide +kernel)) ggL_all_X0_stateOf
set_option maxRecDepth 20000 in
theorem ggL_all_X0_faults : GoodIn wsL_all wsX0_faults := goodIn_ca (goodIn_r _ [77, 40, 41, 78, 66, 67, 10, 68, 79, 80, 81, 82, 83, 84, 85, 86, 87, 88, 89, 90, 91, 92, 93, 94, 95, 96, 97] (by decide +kernel) (by decide +kernel)) (goodIn_sub (fun _ h => List.mem_cons_of_mem _ (List.mem_append_right _ h)) (by decide +kernel))
set_option maxRecDepth 20000 in
theorem gL_all_X0_faults : GoodIn wsL_all (wsV RL 73 RX0 yX0_faults wsX0_faults) := goodIn_app (goodIn_of _ (by decide +kernel)) ggL_all_X0_faults
theorem dL_all_0 : decode cL_all 0 = .ok (.aload_n 0, 1) := by decide +kernel
theorem dL_all_1 : decode cL_all 1 = .ok (.invokevirtual 89, 3) := by decide +kernel
theorem dL_all_4 : decode cL_all 4 = .ok (.i2l, 1) := by decide +kernel
theorem dL_all_5 : decode cL_all 5 = .ok (.ldc2_w 93, 3) := by decide +kernel
theorem dL_all_8 : decode cL_all 8 = .ok (.aload_n 0, 1) := by decide +kernel
theorem dL_all_9 : decode cL_all 9 = .ok (.invokevirtual 95, 3) := by decide +kernel
theorem dL_all_12 : decode cL_all 12 = .ok (.i2l, 1) := by decide +kernel
theorem dL_all_13 : decode cL_all 13 = .ok (.lmul, 1) := by decide +kernel
theorem dL_all_14 : decode cL_all 14 = .ok (.ladd, 1) := by decide +kernel
theorem dL_all_15 : decode cL_all 15 = .ok (.ldc2_w 98, 3) := by decide +kernel
theorem dL_all_18 : decode cL_all 18 = .ok (.aload_n 0, 1) := by decide +kernel
theorem dL_all_19 : decode cL_all 19 = .ok (.invokevirtual 100, 3) := by decide +kernel
theorem dL_all_22 : decode cL_all 22 = .ok (.i2l, 1) := by decide +kernel
theorem dL_all_23 : decode cL_all 23 = .ok (.lmul, 1) := by decide +kernel
theorem dL_all_24 : decode cL_all 24 = .ok (.ladd, 1) := by decide +kernel
theorem dL_all_25 : decode cL_all 25 = .ok (.ldc2_w 103, 3) := by decide +kernel
theorem dL_all_28 : decode cL_all 28 = .ok (.aload_n 0, 1) := by decide +kernel
theorem dL_all_29 : decode cL_all 29 = .ok (.invokevirtual 105, 3) := by decide +kernel
theorem dL_all_32 : decode cL_all 32 = .ok (.i2l, 1) := by decide +kernel
theorem dL_all_33 : decode cL_all 33 = .ok (.lmul, 1) := by decide +kernel
theorem dL_all_34 : decode cL_all 34 = .ok (.ladd, 1) := by decide +kernel
theorem dL_all_35 : decode cL_all 35 = .ok (.lstore_n 1, 1) := by decide +kernel
theorem dL_all_36 : decode cL_all 36 = .ok (.iconst 0, 1) := by decide +kernel
theorem dL_all_37 : decode cL_all 37 = .ok (.istore_n 3, 1) := by decide +kernel
theorem dL_all_38 : decode cL_all 38 = .ok (.iload_n 3, 1) := by decide +kernel
theorem dL_all_39 : decode cL_all 39 = .ok (.bipush 12, 2) := by decide +kernel
theorem dL_all_41 : decode cL_all 41 = .ok (.if_icmp .ge 55, 3) := by decide +kernel
theorem dL_all_44 : decode cL_all 44 = .ok (.ldc2_w 108, 3) := by decide +kernel
theorem dL_all_47 : decode cL_all 47 = .ok (.lload_n 1, 1) := by decide +kernel
theorem dL_all_48 : decode cL_all 48 = .ok (.lmul, 1) := by decide +kernel
theorem dL_all_49 : decode cL_all 49 = .ok (.aload_n 0, 1) := by decide +kernel
theorem dL_all_50 : decode cL_all 50 = .ok (.iload_n 3, 1) := by decide +kernel
theorem dL_all_51 : decode cL_all 51 = .ok (.invokevirtual 43, 3) := by decide +kernel
theorem dL_all_54 : decode cL_all 54 = .ok (.i2l, 1) := by decide +kernel
theorem dL_all_55 : decode cL_all 55 = .ok (.ladd, 1) := by decide +kernel
theorem dL_all_56 : decode cL_all 56 = .ok (.ldc2_w 93, 3) := by decide +kernel
theorem dL_all_59 : decode cL_all 59 = .ok (.aload_n 0, 1) := by decide +kernel
theorem dL_all_60 : decode cL_all 60 = .ok (.iload_n 3, 1) := by decide +kernel
theorem dL_all_61 : decode cL_all 61 = .ok (.invokevirtual 46, 3) := by decide +kernel
theorem dL_all_64 : decode cL_all 64 = .ok (.i2l, 1) := by decide +kernel
theorem dL_all_65 : decode cL_all 65 = .ok (.lmul, 1) := by decide +kernel
theorem dL_all_66 : decode cL_all 66 = .ok (.ladd, 1) := by decide +kernel
theorem dL_all_67 : decode cL_all 67 = .ok (.ldc2_w 110, 3) := by decide +kernel
theorem dL_all_70 : decode cL_all 70 = .ok (.aload_n 0, 1) := by decide +kernel
theorem dL_all_71 : decode cL_all 71 = .ok (.iload_n 3, 1) := by decide +kernel
theorem dL_all_72 : decode cL_all 72 = .ok (.invokevirtual 52, 3) := by decide +kernel
theorem dL_all_75 : decode cL_all 75 = .ok (.i2l, 1) := by decide +kernel
theorem dL_all_76 : decode cL_all 76 = .ok (.lmul, 1) := by decide +kernel
theorem dL_all_77 : decode cL_all 77 = .ok (.ladd, 1) := by decide +kernel
theorem dL_all_78 : decode cL_all 78 = .ok (.ldc2_w 112, 3) := by decide +kernel
theorem dL_all_81 : decode cL_all 81 = .ok (.aload_n 0, 1) := by decide +kernel
theorem dL_all_82 : decode cL_all 82 = .ok (.iload_n 3, 1) := by decide +kernel
theorem dL_all_83 : decode cL_all 83 = .ok (.invokevirtual 55, 3) := by decide +kernel
theorem dL_all_86 : decode cL_all 86 = .ok (.i2l, 1) := by decide +kernel
theorem dL_all_87 : decode cL_all 87 = .ok (.lmul, 1) := by decide +kernel
theorem dL_all_88 : decode cL_all 88 = .ok (.ladd, 1) := by decide +kernel
theorem dL_all_89 : decode cL_all 89 = .ok (.lstore_n 1, 1) := by decide +kernel
theorem dL_all_90 : decode cL_all 90 = .ok (.iinc 3 1, 3) := by decide +kernel
theorem dL_all_93 : decode cL_all 93 = .ok (.goto (-55), 3) := by decide +kernel
theorem dL_all_96 : decode cL_all 96 = .ok (.iconst 0, 1) := by decide +kernel
theorem dL_all_97 : decode cL_all 97 = .ok (.istore_n 3, 1) := by decide +kernel
theorem dL_all_98 : decode cL_all 98 = .ok (.iload_n 3, 1) := by decide +kernel
theorem dL_all_99 : decode cL_all 99 = .ok (.iconst 5, 1) := by decide +kernel
theorem dL_all_100 : decode cL_all 100 = .ok (.if_icmp .ge 44, 3) := by decide +kernel
theorem dL_all_103 : decode cL_all 103 = .ok (.ldc2_w 108, 3) := by decide +kernel
theorem dL_all_106 : decode cL_all 106 = .ok (.lload_n 1, 1) := by decide +kernel
theorem dL_all_107 : decode cL_all 107 = .ok (.lmul, 1) := by decide +kernel
theorem dL_all_108 : decode cL_all 108 = .ok (.aload_n 0, 1) := by decide +kernel
theorem dL_all_109 : decode cL_all 109 = .ok (.iload_n 3, 1) := by decide +kernel
theorem dL_all_110 : decode cL_all 110 = .ok (.invokevirtual 70, 3) := by decide +kernel
theorem dL_all_113 : decode cL_all 113 = .ok (.i2l, 1) := by decide +kernel
theorem dL_all_114 : decode cL_all 114 = .ok (.ladd, 1) := by decide +kernel
theorem dL_all_115 : decode cL_all 115 = .ok (.ldc2_w 93, 3) := by decide +kernel
theorem dL_all_118 : decode cL_all 118 = .ok (.aload_n 0, 1) := by decide +kernel
theorem dL_all_119 : decode cL_all 119 = .ok (.iload_n 3, 1) := by decide +kernel
theorem dL_all_120 : decode cL_all 120 = .ok (.invokevirtual 67, 3) := by decide +kernel
theorem dL_all_123 : decode cL_all 123 = .ok (.i2l, 1) := by decide +kernel
theorem dL_all_124 : decode cL_all 124 = .ok (.lmul, 1) := by decide +kernel
theorem dL_all_125 : decode cL_all 125 = .ok (.ladd, 1) := by decide +kernel
theorem dL_all_126 : decode cL_all 126 = .ok (.ldc2_w 110, 3) := by decide +kernel
theorem dL_all_129 : decode cL_all 129 = .ok (.aload_n 0, 1) := by decide +kernel
theorem dL_all_130 : decode cL_all 130 = .ok (.iload_n 3, 1) := by decide +kernel
theorem dL_all_131 : decode cL_all 131 = .ok (.invokevirtual 73, 3) := by decide +kernel
theorem dL_all_134 : decode cL_all 134 = .ok (.i2l, 1) := by decide +kernel
theorem dL_all_135 : decode cL_all 135 = .ok (.lmul, 1) := by decide +kernel
theorem dL_all_136 : decode cL_all 136 = .ok (.ladd, 1) := by decide +kernel
theorem dL_all_137 : decode cL_all 137 = .ok (.lstore_n 1, 1) := by decide +kernel
theorem dL_all_138 : decode cL_all 138 = .ok (.iinc 3 1, 3) := by decide +kernel
theorem dL_all_141 : decode cL_all 141 = .ok (.goto (-43), 3) := by decide +kernel
theorem dL_all_144 : decode cL_all 144 = .ok (.lload_n 1, 1) := by decide +kernel
theorem dL_all_145 : decode cL_all 145 = .ok (.lreturn, 1) := by decide +kernel
set_option maxRecDepth 20000 in
theorem ggL_loanOf_X0_loans : GoodIn wsL_loanOf wsX0_loans := goodIn_r _ [5, 6, 25, 26, 27, 28, 29, 30, 31, 32, 33, 34, 35, 36, 37, 38, 39, 40, 41, 42, 43] (by decide +kernel) (by decide +kernel)
set_option maxRecDepth 20000 in
theorem gL_loanOf_X0_loans : GoodIn wsL_loanOf (wsV RL 105 RX0 yX0_loans wsX0_loans) := goodIn_app (goodIn_of _ (by decide +kernel)) ggL_loanOf_X0_loans
set_option maxRecDepth 20000 in
theorem ggL_loanOf_X0_lasts : GoodIn wsL_loanOf wsX0_lasts := goodIn_ca (goodIn_r _ [10, 11, 12, 13, 14, 15, 16, 4, 17, 6, 25, 26, 27, 28, 29, 30, 31, 32, 33, 34, 35, 36, 37, 38, 39, 40, 41, 42, 43] (by decide +kernel) (by decide +kernel)) (goodIn_sub (fun _ h => List.mem_cons_of_mem _ (List.mem_append_right _ h)) (by decide +kernel))
set_option maxRecDepth 20000 in
theorem gL_loanOf_X0_lasts : GoodIn wsL_loanOf (wsV RL 76 RX0 yX0_lasts wsX0_lasts) := goodIn_app (goodIn_of _ (by decide +kernel)) ggL_loanOf_X0_lasts
set_option maxRecDepth 20000 in
theorem ggL_loanOf_X0_partiesOf : GoodIn wsL_loanOf wsX0_partiesOf := goodIn_ca (goodIn_r _ [21, 11, 12, 22, 23, 24, 14, 15, 16, 4, 17, 6, 25, 26, 27, 28, 29, 30, 31, 32, 33, 34, 35, 36, 37, 38, 39, 40, 41, 42, 43] (by decide +kernel) (by decide +kernel)) (goodIn_sub (fun _ h => List.mem_cons_of_mem _ (List.mem_append_right _ h)) (by decide +kernel))
set_option maxRecDepth 20000 in
theorem gL_loanOf_X0_partiesOf : GoodIn wsL_loanOf (wsV RL 80 RX0 yX0_partiesOf wsX0_partiesOf) := goodIn_app (goodIn_of _ (by decide +kernel)) ggL_loanOf_X0_partiesOf
theorem dL_loanOf_0 : decode cL_loanOf 0 = .ok (.iconst (-1), 1) := by decide +kernel
theorem dL_loanOf_1 : decode cL_loanOf 1 = .ok (.istore_n 2, 1) := by decide +kernel
theorem dL_loanOf_2 : decode cL_loanOf 2 = .ok (.iconst 0, 1) := by decide +kernel
theorem dL_loanOf_3 : decode cL_loanOf 3 = .ok (.istore_n 3, 1) := by decide +kernel
theorem dL_loanOf_4 : decode cL_loanOf 4 = .ok (.iload_n 3, 1) := by decide +kernel
theorem dL_loanOf_5 : decode cL_loanOf 5 = .ok (.aload_n 0, 1) := by decide +kernel
theorem dL_loanOf_6 : decode cL_loanOf 6 = .ok (.invokevirtual 105, 3) := by decide +kernel
theorem dL_loanOf_9 : decode cL_loanOf 9 = .ok (.if_icmp .ge 35, 3) := by decide +kernel
theorem dL_loanOf_44 : decode cL_loanOf 44 = .ok (.iload_n 2, 1) := by decide +kernel
theorem dL_loanOf_45 : decode cL_loanOf 45 = .ok (.ireturn, 1) := by decide +kernel
set_option maxRecDepth 20000 in
theorem ggL_areFrames_X0_tick : GoodIn wsL_areFrames wsX0_tick := goodIn_r _ [5, 6, 119, 120, 121, 122, 123, 124, 125, 126, 127, 128, 129, 130, 131, 132, 133, 134, 135, 136, 137] (by decide +kernel) (by decide +kernel)
set_option maxRecDepth 20000 in
theorem gL_areFrames_X0_tick : GoodIn wsL_areFrames (wsV RL 89 RX0 yX0_tick wsX0_tick) := goodIn_app (goodIn_of _ (by decide +kernel)) ggL_areFrames_X0_tick
end
section
set_option maxRecDepth 20000 in
theorem ggL_areFrames_X0_owner : GoodIn wsL_areFrames wsX0_owner := goodIn_ca (goodIn_r _ [10, 11, 12, 13, 14, 15, 4, 16, 119, 120, 121, 122, 123, 124, 125, 126, 127, 128, 129, 130, 131, 132, 133, 134, 135, 136, 137] (by decide +kernel) (by decide +kernel)) (goodIn_sub (fun _ h => List.mem_cons_of_mem _ (List.mem_append_right _ h)) (by decide +kernel))
set_option maxRecDepth 20000 in
theorem gL_areFrames_X0_owner : GoodIn wsL_areFrames (wsV RL 43 RX0 yX0_owner wsX0_owner) := goodIn_app (goodIn_of _ (by decide +kernel)) ggL_areFrames_X0_owner
set_option maxRecDepth 20000 in
theorem ggL_areFrames_L_loanOf : GoodIn wsL_areFrames wsL_loanOf := goodIn_ca (goodIn_r _ [20, 21, 22, 23, 4, 24, 25, 26, 27, 28, 29, 11, 12, 30, 31, 32, 33, 34, 35, 36, 37, 38, 39, 40, 41, 119, 120, 121, 122, 123, 124, 125, 126, 127, 128, 129, 130, 131, 132, 133, 134, 135, 136, 137] (by decide +kernel) (by decide +kernel)) (goodIn_sub (fun _ h => List.mem_cons_of_mem _ (List.mem_append_right _ h)) (by decide +kernel))
set_option maxRecDepth 20000 in
theorem gL_areFrames_L_loanOf : GoodIn wsL_areFrames (va_wsS RL 114 yL_loanOf wsL_loanOf) := goodIn_app (goodIn_of _ (by decide +kernel)) ggL_areFrames_L_loanOf
set_option maxRecDepth 20000 in
theorem ggL_areFrames_X0_partiesOf : GoodIn wsL_areFrames wsX0_partiesOf := goodIn_ca (goodIn_r _ [38, 11, 12, 39, 40, 41, 31, 32, 33, 4, 34, 25, 119, 120, 121, 122, 123, 124, 125, 126, 127, 128, 129, 130, 131, 132, 133, 134, 135, 136, 137] (by decide +kernel) (by decide +kernel)) (goodIn_sub (fun _ h => List.mem_cons_of_mem _ (List.mem_append_right _ h)) (by decide +kernel))
set_option maxRecDepth 20000 in
theorem gL_areFrames_X0_partiesOf : GoodIn wsL_areFrames (wsV RL 80 RX0 yX0_partiesOf wsX0_partiesOf) := goodIn_app (goodIn_of _ (by decide +kernel)) ggL_areFrames_X0_partiesOf
set_option maxRecDepth 20000 in
theorem ggL_areFrames_X0_holder : GoodIn wsL_areFrames wsX0_holder := goodIn_ca (goodIn_r _ [45, 11, 12, 46, 14, 15, 4, 16, 119, 120, 121, 122, 123, 124, 125, 126, 127, 128, 129, 130, 131, 132, 133, 134, 135, 136, 137] (by decide +kernel) (by decide +kernel)) (goodIn_sub (fun _ h => List.mem_cons_of_mem _ (List.mem_append_right _ h)) (by decide +kernel))
set_option maxRecDepth 20000 in
theorem gL_areFrames_X0_holder : GoodIn wsL_areFrames (wsV RL 46 RX0 yX0_holder wsX0_holder) := goodIn_app (goodIn_of _ (by decide +kernel)) ggL_areFrames_X0_holder
set_option maxRecDepth 20000 in
theorem ggL_areFrames_X0_holderByLog : GoodIn wsL_areFrames wsX0_holderByLog := goodIn_ca (goodIn_r _ [50, 11, 12, 25, 30, 39, 41, 13, 14, 15, 4, 16, 119, 120, 121, 122, 123, 124, 125, 126, 127, 128, 129, 130, 131, 132, 133, 134, 135, 136, 137] (by decide +kernel) (by decide +kernel)) (goodIn_sub (fun _ h => List.mem_cons_of_mem _ (List.mem_append_right _ h)) (by decide +kernel))
set_option maxRecDepth 20000 in
theorem gL_areFrames_X0_holderByLog : GoodIn wsL_areFrames (wsV RL 49 RX0 yX0_holderByLog wsX0_holderByLog) := goodIn_app (goodIn_of _ (by decide +kernel)) ggL_areFrames_X0_holderByLog
set_option maxRecDepth 20000 in
theorem ggL_areFrames_X0_stateOf : GoodIn wsL_areFrames wsX0_stateOf := goodIn_ca (goodIn_r _ [54, 11, 12, 55, 56, 57, 4, 58, 119, 120, 121, 122, 123, 124, 125, 126, 127, 128, 129, 130, 131, 132, 133, 134, 135, 136, 137] (by decide +kernel) (by decide +kernel)) (goodIn_sub (fun _ h => List.mem_cons_of_mem _ (List.mem_append_right _ h)) (by decide +kernel))
set_option maxRecDepth 20000 in
theorem gL_areFrames_X0_stateOf : GoodIn wsL_areFrames (wsV RL 67 RX0 yX0_stateOf wsX0_stateOf) := goodIn_app (goodIn_of _ (by decide +kernel)) ggL_areFrames_X0_stateOf
set_option maxRecDepth 20000 in
theorem ggL_areFrames_X0_pageIn : GoodIn wsL_areFrames wsX0_pageIn := goodIn_ca (goodIn_r _ [62, 11, 12, 63, 14, 15, 4, 16, 119, 120, 121, 122, 123, 124, 125, 126, 127, 128, 129, 130, 131, 132, 133, 134, 135, 136, 137] (by decide +kernel) (by decide +kernel)) (goodIn_sub (fun _ h => List.mem_cons_of_mem _ (List.mem_append_right _ h)) (by decide +kernel))
set_option maxRecDepth 20000 in
theorem gL_areFrames_X0_pageIn : GoodIn wsL_areFrames (wsV RL 52 RX0 yX0_pageIn wsX0_pageIn) := goodIn_app (goodIn_of _ (by decide +kernel)) ggL_areFrames_X0_pageIn
set_option maxRecDepth 20000 in
theorem ggL_areFrames_X0_age : GoodIn wsL_areFrames wsX0_age := goodIn_ca (goodIn_r _ [67, 11, 12, 14, 15, 4, 16, 68, 69, 70, 71, 72, 6, 73, 119, 120, 121, 122, 123, 124, 125, 126, 127, 128, 129, 130, 131, 132, 133, 134, 135, 136, 137] (by decide +kernel) (by decide +kernel)) (goodIn_sub (fun _ h => List.mem_cons_of_mem _ (List.mem_append_right _ h)) (by decide +kernel))
set_option maxRecDepth 20000 in
theorem gL_areFrames_X0_age : GoodIn wsL_areFrames (wsV RL 55 RX0 yX0_age wsX0_age) := goodIn_app (goodIn_of _ (by decide +kernel)) ggL_areFrames_X0_age
set_option maxRecDepth 20000 in
theorem ggL_areFrames_X0_requestAt : GoodIn wsL_areFrames wsX0_requestAt := goodIn_ca (goodIn_r _ [77, 11, 12, 78, 79, 80, 4, 81, 82, 83, 84, 85, 63, 72, 14, 15, 16, 86, 87, 88, 89, 46, 119, 120, 121, 122, 123, 124, 125, 126, 127, 128, 129, 130, 131, 132, 133, 134, 135, 136, 137] (by decide +kernel) (by decide +kernel)) (goodIn_sub (fun _ h => List.mem_cons_of_mem _ (List.mem_append_right _ h)) (by decide +kernel))
set_option maxRecDepth 20000 in
theorem gL_areFrames_X0_requestAt : GoodIn wsL_areFrames (wsV RL 86 RX0 yX0_requestAt wsX0_requestAt) := goodIn_app (goodIn_of _ (by decide +kernel)) ggL_areFrames_X0_requestAt
set_option maxRecDepth 20000 in
theorem ggL_areFrames_X0_owns : GoodIn wsL_areFrames wsX0_owns := goodIn_ca (goodIn_r _ [93, 11, 12, 13, 56, 57, 4, 58, 119, 120, 121, 122, 123, 124, 125, 126, 127, 128, 129, 130, 131, 132, 133, 134, 135, 136, 137] (by decide +kernel) (by decide +kernel)) (goodIn_sub (fun _ h => List.mem_cons_of_mem _ (List.mem_append_right _ h)) (by decide +kernel))
set_option maxRecDepth 20000 in
theorem gL_areFrames_X0_owns : GoodIn wsL_areFrames (wsV RL 58 RX0 yX0_owns wsX0_owns) := goodIn_app (goodIn_of _ (by decide +kernel)) ggL_areFrames_X0_owns
set_option maxRecDepth 20000 in
theorem ggL_areFrames_X0_borrowed : GoodIn wsL_areFrames wsX0_borrowed := goodIn_ca (goodIn_r _ [97, 11, 12, 56, 57, 4, 58, 98, 99, 100, 101, 46, 13, 119, 120, 121, 122, 123, 124, 125, 126, 127, 128, 129, 130, 131, 132, 133, 134, 135, 136, 137] (by decide +kernel) (by decide +kernel)) (goodIn_sub (fun _ h => List.mem_cons_of_mem _ (List.mem_append_right _ h)) (by decide +kernel))
set_option maxRecDepth 20000 in
theorem gL_areFrames_X0_borrowed : GoodIn wsL_areFrames (wsV RL 61 RX0 yX0_borrowed wsX0_borrowed) := goodIn_app (goodIn_of _ (by decide +kernel)) ggL_areFrames_X0_borrowed
set_option maxRecDepth 20000 in
theorem ggL_areFrames_X0_lent : GoodIn wsL_areFrames wsX0_lent := goodIn_ca (goodIn_r _ [105, 11, 12, 13, 46, 56, 57, 4, 58, 119, 120, 121, 122, 123, 124, 125, 126, 127, 128, 129, 130, 131, 132, 133, 134, 135, 136, 137] (by decide +kernel) (by decide +kernel)) (goodIn_sub (fun _ h => List.mem_cons_of_mem _ (List.mem_append_right _ h)) (by decide +kernel))
set_option maxRecDepth 20000 in
theorem gL_areFrames_X0_lent : GoodIn wsL_areFrames (wsV RL 64 RX0 yX0_lent wsX0_lent) := goodIn_app (goodIn_of _ (by decide +kernel)) ggL_areFrames_X0_lent
set_option maxRecDepth 20000 in
theorem ggL_areFrames_X0_purse : GoodIn wsL_areFrames wsX0_purse := goodIn_ca (goodIn_r _ [109, 11, 12, 110, 56, 57, 4, 58, 119, 120, 121, 122, 123, 124, 125, 126, 127, 128, 129, 130, 131, 132, 133, 134, 135, 136, 137] (by decide +kernel) (by decide +kernel)) (goodIn_sub (fun _ h => List.mem_cons_of_mem _ (List.mem_append_right _ h)) (by decide +kernel))
set_option maxRecDepth 20000 in
theorem gL_areFrames_X0_purse : GoodIn wsL_areFrames (wsV RL 70 RX0 yX0_purse wsX0_purse) := goodIn_app (goodIn_of _ (by decide +kernel)) ggL_areFrames_X0_purse
set_option maxRecDepth 20000 in
theorem ggL_areFrames_X0_free : GoodIn wsL_areFrames wsX0_free := goodIn_r _ [114, 13, 119, 120, 121, 122, 123, 124, 125, 126, 127, 128, 129, 130, 131, 132, 133, 134, 135, 136, 137] (by decide +kernel) (by decide +kernel)
set_option maxRecDepth 20000 in
theorem gL_areFrames_X0_free : GoodIn wsL_areFrames (wsV RL 120 RX0 yX0_free wsX0_free) := goodIn_app (goodIn_of _ (by decide +kernel)) ggL_areFrames_X0_free
set_option maxRecDepth 20000 in
theorem ggL_areFrames_X0_requests : GoodIn wsL_areFrames wsX0_requests := goodIn_r _ [118, 82, 83, 84, 4, 85, 63, 72, 14, 15, 16, 119, 120, 121, 122, 123, 124, 125, 126, 127, 128, 129, 130, 131, 132, 133, 134, 135, 136, 137] (by decide +kernel) (by decide +kernel)
set_option maxRecDepth 20000 in
theorem gL_areFrames_X0_requests : GoodIn wsL_areFrames (wsV RL 100 RX0 yX0_requests wsX0_requests) := goodIn_app (goodIn_of _ (by decide +kernel)) ggL_areFrames_X0_requests
theorem dL_areFrames_0 : decode cL_areFrames 0 = .ok (.aload_n 0, 1) := by decide +kernel
theorem dL_areFrames_1 : decode cL_areFrames 1 = .ok (.invokevirtual 89, 3) := by decide +kernel
theorem dL_areFrames_4 : decode cL_areFrames 4 = .ok (.ifCond .lt 7, 3) := by decide +kernel
theorem dL_areFrames_7 : decode cL_areFrames 7 = .ok (.iconst 1, 1) := by decide +kernel
theorem dL_areFrames_8 : decode cL_areFrames 8 = .ok (.goto 4, 3) := by decide +kernel
theorem dL_areFrames_12 : decode cL_areFrames 12 = .ok (.istore_n 1, 1) := by decide +kernel
theorem dL_areFrames_13 : decode cL_areFrames 13 = .ok (.iconst 0, 1) := by decide +kernel
theorem dL_areFrames_14 : decode cL_areFrames 14 = .ok (.istore_n 2, 1) := by decide +kernel
theorem dL_areFrames_15 : decode cL_areFrames 15 = .ok (.iconst 0, 1) := by decide +kernel
theorem dL_areFrames_16 : decode cL_areFrames 16 = .ok (.istore_n 3, 1) := by decide +kernel
theorem dL_areFrames_17 : decode cL_areFrames 17 = .ok (.iconst 0, 1) := by decide +kernel
theorem dL_areFrames_18 : decode cL_areFrames 18 = .ok (.istore 4, 2) := by decide +kernel
theorem dL_areFrames_20 : decode cL_areFrames 20 = .ok (.iload 4, 2) := by decide +kernel
theorem dL_areFrames_22 : decode cL_areFrames 22 = .ok (.bipush 12, 2) := by decide +kernel
theorem dL_areFrames_24 : decode cL_areFrames 24 = .ok (.if_icmp .ge 313, 3) := by decide +kernel
theorem dL_areFrames_27 : decode cL_areFrames 27 = .ok (.iload_n 1, 1) := by decide +kernel
theorem dL_areFrames_28 : decode cL_areFrames 28 = .ok (.ifCond .eq 309, 3) := by decide +kernel
theorem dL_areFrames_31 : decode cL_areFrames 31 = .ok (.aload_n 0, 1) := by decide +kernel
theorem dL_areFrames_32 : decode cL_areFrames 32 = .ok (.iload 4, 2) := by decide +kernel
theorem dL_areFrames_34 : decode cL_areFrames 34 = .ok (.invokevirtual 43, 3) := by decide +kernel
theorem dL_areFrames_37 : decode cL_areFrames 37 = .ok (.istore 5, 2) := by decide +kernel
theorem dL_areFrames_39 : decode cL_areFrames 39 = .ok (.aload_n 0, 1) := by decide +kernel
theorem dL_areFrames_40 : decode cL_areFrames 40 = .ok (.iload 4, 2) := by decide +kernel
theorem dL_areFrames_42 : decode cL_areFrames 42 = .ok (.invokestatic 114, 3) := by decide +kernel
theorem dL_areFrames_45 : decode cL_areFrames 45 = .ok (.istore 6, 2) := by decide +kernel
theorem dL_areFrames_47 : decode cL_areFrames 47 = .ok (.iload 6, 2) := by decide +kernel
theorem dL_areFrames_49 : decode cL_areFrames 49 = .ok (.ifCond .ge 8, 3) := by decide +kernel
theorem dL_areFrames_52 : decode cL_areFrames 52 = .ok (.iload 5, 2) := by decide +kernel
theorem dL_areFrames_54 : decode cL_areFrames 54 = .ok (.goto 12, 3) := by decide +kernel
theorem dL_areFrames_66 : decode cL_areFrames 66 = .ok (.istore 7, 2) := by decide +kernel
theorem dL_areFrames_68 : decode cL_areFrames 68 = .ok (.aload_n 0, 1) := by decide +kernel
theorem dL_areFrames_69 : decode cL_areFrames 69 = .ok (.iload 4, 2) := by decide +kernel
theorem dL_areFrames_71 : decode cL_areFrames 71 = .ok (.invokevirtual 46, 3) := by decide +kernel
theorem dL_areFrames_74 : decode cL_areFrames 74 = .ok (.iload 7, 2) := by decide +kernel
theorem dL_areFrames_76 : decode cL_areFrames 76 = .ok (.if_icmp .ne 91, 3) := by decide +kernel
theorem dL_areFrames_79 : decode cL_areFrames 79 = .ok (.aload_n 0, 1) := by decide +kernel
theorem dL_areFrames_80 : decode cL_areFrames 80 = .ok (.iload 4, 2) := by decide +kernel
theorem dL_areFrames_82 : decode cL_areFrames 82 = .ok (.invokevirtual 49, 3) := by decide +kernel
theorem dL_areFrames_85 : decode cL_areFrames 85 = .ok (.iload 7, 2) := by decide +kernel
theorem dL_areFrames_87 : decode cL_areFrames 87 = .ok (.if_icmp .ne 80, 3) := by decide +kernel
theorem dL_areFrames_90 : decode cL_areFrames 90 = .ok (.iload 6, 2) := by decide +kernel
theorem dL_areFrames_92 : decode cL_areFrames 92 = .ok (.ifCond .lt 37, 3) := by decide +kernel
theorem dL_areFrames_129 : decode cL_areFrames 129 = .ok (.iload 5, 2) := by decide +kernel
theorem dL_areFrames_131 : decode cL_areFrames 131 = .ok (.ifCond .ge 13, 3) := by decide +kernel
theorem dL_areFrames_134 : decode cL_areFrames 134 = .ok (.aload_n 0, 1) := by decide +kernel
theorem dL_areFrames_135 : decode cL_areFrames 135 = .ok (.iload 4, 2) := by decide +kernel
theorem dL_areFrames_137 : decode cL_areFrames 137 = .ok (.invokevirtual 52, 3) := by decide +kernel
theorem dL_areFrames_140 : decode cL_areFrames 140 = .ok (.iconst (-1), 1) := by decide +kernel
theorem dL_areFrames_141 : decode cL_areFrames 141 = .ok (.if_icmp .ne 26, 3) := by decide +kernel
theorem dL_areFrames_144 : decode cL_areFrames 144 = .ok (.aload_n 0, 1) := by decide +kernel
theorem dL_areFrames_145 : decode cL_areFrames 145 = .ok (.iload 4, 2) := by decide +kernel
theorem dL_areFrames_147 : decode cL_areFrames 147 = .ok (.invokevirtual 52, 3) := by decide +kernel
theorem dL_areFrames_150 : decode cL_areFrames 150 = .ok (.ifCond .ge 13, 3) := by decide +kernel
theorem dL_areFrames_153 : decode cL_areFrames 153 = .ok (.aload_n 0, 1) := by decide +kernel
theorem dL_areFrames_154 : decode cL_areFrames 154 = .ok (.iload 4, 2) := by decide +kernel
theorem dL_areFrames_156 : decode cL_areFrames 156 = .ok (.invokevirtual 55, 3) := by decide +kernel
theorem dL_areFrames_159 : decode cL_areFrames 159 = .ok (.iconst (-1), 1) := by decide +kernel
theorem dL_areFrames_160 : decode cL_areFrames 160 = .ok (.if_icmp .ne 7, 3) := by decide +kernel
theorem dL_areFrames_163 : decode cL_areFrames 163 = .ok (.iconst 1, 1) := by decide +kernel
theorem dL_areFrames_164 : decode cL_areFrames 164 = .ok (.goto 4, 3) := by decide +kernel
theorem dL_areFrames_168 : decode cL_areFrames 168 = .ok (.istore_n 1, 1) := by decide +kernel
theorem dL_areFrames_169 : decode cL_areFrames 169 = .ok (.iload_n 2, 1) := by decide +kernel
theorem dL_areFrames_170 : decode cL_areFrames 170 = .ok (.iload 5, 2) := by decide +kernel
theorem dL_areFrames_172 : decode cL_areFrames 172 = .ok (.ifCond .ge 7, 3) := by decide +kernel
theorem dL_areFrames_175 : decode cL_areFrames 175 = .ok (.iconst 1, 1) := by decide +kernel
theorem dL_areFrames_176 : decode cL_areFrames 176 = .ok (.goto 4, 3) := by decide +kernel
theorem dL_areFrames_180 : decode cL_areFrames 180 = .ok (.iadd, 1) := by decide +kernel
theorem dL_areFrames_181 : decode cL_areFrames 181 = .ok (.istore_n 2, 1) := by decide +kernel
theorem dL_areFrames_182 : decode cL_areFrames 182 = .ok (.iload_n 1, 1) := by decide +kernel
theorem dL_areFrames_183 : decode cL_areFrames 183 = .ok (.ifCond .eq 148, 3) := by decide +kernel
theorem dL_areFrames_186 : decode cL_areFrames 186 = .ok (.aload_n 0, 1) := by decide +kernel
theorem dL_areFrames_187 : decode cL_areFrames 187 = .ok (.iload 4, 2) := by decide +kernel
theorem dL_areFrames_189 : decode cL_areFrames 189 = .ok (.invokevirtual 52, 3) := by decide +kernel
theorem dL_areFrames_192 : decode cL_areFrames 192 = .ok (.ifCond .lt 139, 3) := by decide +kernel
theorem dL_areFrames_331 : decode cL_areFrames 331 = .ok (.iinc 4 1, 3) := by decide +kernel
theorem dL_areFrames_334 : decode cL_areFrames 334 = .ok (.goto (-314), 3) := by decide +kernel
theorem dL_areFrames_337 : decode cL_areFrames 337 = .ok (.iconst 0, 1) := by decide +kernel
theorem dL_areFrames_338 : decode cL_areFrames 338 = .ok (.istore 4, 2) := by decide +kernel
theorem dL_areFrames_340 : decode cL_areFrames 340 = .ok (.iload 4, 2) := by decide +kernel
theorem dL_areFrames_342 : decode cL_areFrames 342 = .ok (.iconst 5, 1) := by decide +kernel
theorem dL_areFrames_343 : decode cL_areFrames 343 = .ok (.if_icmp .ge 274, 3) := by decide +kernel
theorem dL_areFrames_346 : decode cL_areFrames 346 = .ok (.iload_n 1, 1) := by decide +kernel
theorem dL_areFrames_347 : decode cL_areFrames 347 = .ok (.ifCond .eq 270, 3) := by decide +kernel
theorem dL_areFrames_350 : decode cL_areFrames 350 = .ok (.iconst 0, 1) := by decide +kernel
theorem dL_areFrames_351 : decode cL_areFrames 351 = .ok (.istore 5, 2) := by decide +kernel
theorem dL_areFrames_353 : decode cL_areFrames 353 = .ok (.iconst 0, 1) := by decide +kernel
theorem dL_areFrames_354 : decode cL_areFrames 354 = .ok (.istore 6, 2) := by decide +kernel
theorem dL_areFrames_356 : decode cL_areFrames 356 = .ok (.iconst 0, 1) := by decide +kernel
theorem dL_areFrames_357 : decode cL_areFrames 357 = .ok (.istore 7, 2) := by decide +kernel
theorem dL_areFrames_359 : decode cL_areFrames 359 = .ok (.iconst 0, 1) := by decide +kernel
theorem dL_areFrames_360 : decode cL_areFrames 360 = .ok (.istore 8, 2) := by decide +kernel
theorem dL_areFrames_362 : decode cL_areFrames 362 = .ok (.iconst 0, 1) := by decide +kernel
theorem dL_areFrames_363 : decode cL_areFrames 363 = .ok (.istore 9, 2) := by decide +kernel
theorem dL_areFrames_365 : decode cL_areFrames 365 = .ok (.iload 9, 2) := by decide +kernel
theorem dL_areFrames_367 : decode cL_areFrames 367 = .ok (.bipush 12, 2) := by decide +kernel
theorem dL_areFrames_369 : decode cL_areFrames 369 = .ok (.if_icmp .ge 169, 3) := by decide +kernel
theorem dL_areFrames_372 : decode cL_areFrames 372 = .ok (.aload_n 0, 1) := by decide +kernel
theorem dL_areFrames_373 : decode cL_areFrames 373 = .ok (.iload 9, 2) := by decide +kernel
theorem dL_areFrames_375 : decode cL_areFrames 375 = .ok (.invokevirtual 43, 3) := by decide +kernel
theorem dL_areFrames_378 : decode cL_areFrames 378 = .ok (.iload 4, 2) := by decide +kernel
theorem dL_areFrames_380 : decode cL_areFrames 380 = .ok (.if_icmp .ne 7, 3) := by decide +kernel
theorem dL_areFrames_387 : decode cL_areFrames 387 = .ok (.iconst 0, 1) := by decide +kernel
theorem dL_areFrames_388 : decode cL_areFrames 388 = .ok (.istore 10, 2) := by decide +kernel
theorem dL_areFrames_390 : decode cL_areFrames 390 = .ok (.aload_n 0, 1) := by decide +kernel
theorem dL_areFrames_391 : decode cL_areFrames 391 = .ok (.iload 9, 2) := by decide +kernel
theorem dL_areFrames_393 : decode cL_areFrames 393 = .ok (.invokevirtual 46, 3) := by decide +kernel
theorem dL_areFrames_396 : decode cL_areFrames 396 = .ok (.iload 4, 2) := by decide +kernel
theorem dL_areFrames_398 : decode cL_areFrames 398 = .ok (.if_icmp .ne 7, 3) := by decide +kernel
theorem dL_areFrames_405 : decode cL_areFrames 405 = .ok (.iconst 0, 1) := by decide +kernel
theorem dL_areFrames_406 : decode cL_areFrames 406 = .ok (.istore 11, 2) := by decide +kernel
theorem dL_areFrames_408 : decode cL_areFrames 408 = .ok (.iload 5, 2) := by decide +kernel
theorem dL_areFrames_410 : decode cL_areFrames 410 = .ok (.iload 10, 2) := by decide +kernel
theorem dL_areFrames_412 : decode cL_areFrames 412 = .ok (.ifCond .eq 7, 3) := by decide +kernel
theorem dL_areFrames_419 : decode cL_areFrames 419 = .ok (.iconst 0, 1) := by decide +kernel
theorem dL_areFrames_420 : decode cL_areFrames 420 = .ok (.iadd, 1) := by decide +kernel
theorem dL_areFrames_421 : decode cL_areFrames 421 = .ok (.istore 5, 2) := by decide +kernel
theorem dL_areFrames_423 : decode cL_areFrames 423 = .ok (.iload 7, 2) := by decide +kernel
theorem dL_areFrames_425 : decode cL_areFrames 425 = .ok (.iload 10, 2) := by decide +kernel
theorem dL_areFrames_427 : decode cL_areFrames 427 = .ok (.ifCond .eq 12, 3) := by decide +kernel
theorem dL_areFrames_439 : decode cL_areFrames 439 = .ok (.iconst 0, 1) := by decide +kernel
theorem dL_areFrames_440 : decode cL_areFrames 440 = .ok (.iadd, 1) := by decide +kernel
theorem dL_areFrames_441 : decode cL_areFrames 441 = .ok (.istore 7, 2) := by decide +kernel
theorem dL_areFrames_443 : decode cL_areFrames 443 = .ok (.iload 6, 2) := by decide +kernel
theorem dL_areFrames_445 : decode cL_areFrames 445 = .ok (.iload 11, 2) := by decide +kernel
theorem dL_areFrames_447 : decode cL_areFrames 447 = .ok (.ifCond .eq 12, 3) := by decide +kernel
theorem dL_areFrames_459 : decode cL_areFrames 459 = .ok (.iconst 0, 1) := by decide +kernel
theorem dL_areFrames_460 : decode cL_areFrames 460 = .ok (.iadd, 1) := by decide +kernel
theorem dL_areFrames_461 : decode cL_areFrames 461 = .ok (.istore 6, 2) := by decide +kernel
theorem dL_areFrames_463 : decode cL_areFrames 463 = .ok (.iload_n 1, 1) := by decide +kernel
theorem dL_areFrames_464 : decode cL_areFrames 464 = .ok (.ifCond .eq 35, 3) := by decide +kernel
theorem dL_areFrames_467 : decode cL_areFrames 467 = .ok (.iload 11, 2) := by decide +kernel
theorem dL_areFrames_469 : decode cL_areFrames 469 = .ok (.ifCond .eq 26, 3) := by decide +kernel
theorem dL_areFrames_495 : decode cL_areFrames 495 = .ok (.iconst 1, 1) := by decide +kernel
theorem dL_areFrames_496 : decode cL_areFrames 496 = .ok (.goto 4, 3) := by decide +kernel
theorem dL_areFrames_500 : decode cL_areFrames 500 = .ok (.istore_n 1, 1) := by decide +kernel
theorem dL_areFrames_501 : decode cL_areFrames 501 = .ok (.iload 8, 2) := by decide +kernel
theorem dL_areFrames_503 : decode cL_areFrames 503 = .ok (.iload 11, 2) := by decide +kernel
theorem dL_areFrames_505 : decode cL_areFrames 505 = .ok (.ifCond .eq 23, 3) := by decide +kernel
theorem dL_areFrames_528 : decode cL_areFrames 528 = .ok (.iconst 0, 1) := by decide +kernel
theorem dL_areFrames_529 : decode cL_areFrames 529 = .ok (.ior, 1) := by decide +kernel
theorem dL_areFrames_530 : decode cL_areFrames 530 = .ok (.istore 8, 2) := by decide +kernel
theorem dL_areFrames_532 : decode cL_areFrames 532 = .ok (.iinc 9 1, 3) := by decide +kernel
theorem dL_areFrames_535 : decode cL_areFrames 535 = .ok (.goto (-170), 3) := by decide +kernel
theorem dL_areFrames_538 : decode cL_areFrames 538 = .ok (.iload_n 1, 1) := by decide +kernel
theorem dL_areFrames_539 : decode cL_areFrames 539 = .ok (.ifCond .eq 70, 3) := by decide +kernel
theorem dL_areFrames_542 : decode cL_areFrames 542 = .ok (.aload_n 0, 1) := by decide +kernel
theorem dL_areFrames_543 : decode cL_areFrames 543 = .ok (.iload 4, 2) := by decide +kernel
theorem dL_areFrames_545 : decode cL_areFrames 545 = .ok (.invokevirtual 58, 3) := by decide +kernel
theorem dL_areFrames_548 : decode cL_areFrames 548 = .ok (.iload 5, 2) := by decide +kernel
theorem dL_areFrames_550 : decode cL_areFrames 550 = .ok (.if_icmp .ne 59, 3) := by decide +kernel
theorem dL_areFrames_553 : decode cL_areFrames 553 = .ok (.aload_n 0, 1) := by decide +kernel
theorem dL_areFrames_554 : decode cL_areFrames 554 = .ok (.iload 4, 2) := by decide +kernel
theorem dL_areFrames_556 : decode cL_areFrames 556 = .ok (.invokevirtual 61, 3) := by decide +kernel
theorem dL_areFrames_559 : decode cL_areFrames 559 = .ok (.iload 6, 2) := by decide +kernel
theorem dL_areFrames_561 : decode cL_areFrames 561 = .ok (.if_icmp .ne 48, 3) := by decide +kernel
theorem dL_areFrames_564 : decode cL_areFrames 564 = .ok (.aload_n 0, 1) := by decide +kernel
theorem dL_areFrames_565 : decode cL_areFrames 565 = .ok (.iload 4, 2) := by decide +kernel
theorem dL_areFrames_567 : decode cL_areFrames 567 = .ok (.invokevirtual 64, 3) := by decide +kernel
theorem dL_areFrames_570 : decode cL_areFrames 570 = .ok (.iload 7, 2) := by decide +kernel
theorem dL_areFrames_572 : decode cL_areFrames 572 = .ok (.if_icmp .ne 37, 3) := by decide +kernel
theorem dL_areFrames_575 : decode cL_areFrames 575 = .ok (.iload 6, 2) := by decide +kernel
theorem dL_areFrames_577 : decode cL_areFrames 577 = .ok (.iconst 3, 1) := by decide +kernel
theorem dL_areFrames_578 : decode cL_areFrames 578 = .ok (.if_icmp .gt 31, 3) := by decide +kernel
theorem dL_areFrames_581 : decode cL_areFrames 581 = .ok (.aload_n 0, 1) := by decide +kernel
theorem dL_areFrames_582 : decode cL_areFrames 582 = .ok (.iload 4, 2) := by decide +kernel
theorem dL_areFrames_584 : decode cL_areFrames 584 = .ok (.invokevirtual 70, 3) := by decide +kernel
theorem dL_areFrames_587 : decode cL_areFrames 587 = .ok (.ifCond .lt 22, 3) := by decide +kernel
theorem dL_areFrames_590 : decode cL_areFrames 590 = .ok (.aload_n 0, 1) := by decide +kernel
theorem dL_areFrames_591 : decode cL_areFrames 591 = .ok (.iload 4, 2) := by decide +kernel
theorem dL_areFrames_593 : decode cL_areFrames 593 = .ok (.invokevirtual 67, 3) := by decide +kernel
theorem dL_areFrames_596 : decode cL_areFrames 596 = .ok (.iconst 2, 1) := by decide +kernel
theorem dL_areFrames_597 : decode cL_areFrames 597 = .ok (.if_icmp .ne 8, 3) := by decide +kernel
theorem dL_areFrames_605 : decode cL_areFrames 605 = .ok (.iconst 1, 1) := by decide +kernel
theorem dL_areFrames_606 : decode cL_areFrames 606 = .ok (.goto 4, 3) := by decide +kernel
theorem dL_areFrames_610 : decode cL_areFrames 610 = .ok (.istore_n 1, 1) := by decide +kernel
theorem dL_areFrames_611 : decode cL_areFrames 611 = .ok (.iinc 4 1, 3) := by decide +kernel
theorem dL_areFrames_614 : decode cL_areFrames 614 = .ok (.goto (-274), 3) := by decide +kernel
theorem dL_areFrames_617 : decode cL_areFrames 617 = .ok (.iload_n 1, 1) := by decide +kernel
theorem dL_areFrames_618 : decode cL_areFrames 618 = .ok (.ifCond .eq 32, 3) := by decide +kernel
theorem dL_areFrames_621 : decode cL_areFrames 621 = .ok (.aload_n 0, 1) := by decide +kernel
theorem dL_areFrames_622 : decode cL_areFrames 622 = .ok (.invokevirtual 120, 3) := by decide +kernel
theorem dL_areFrames_625 : decode cL_areFrames 625 = .ok (.iload_n 2, 1) := by decide +kernel
theorem dL_areFrames_626 : decode cL_areFrames 626 = .ok (.if_icmp .ne 24, 3) := by decide +kernel
theorem dL_areFrames_629 : decode cL_areFrames 629 = .ok (.aload_n 0, 1) := by decide +kernel
theorem dL_areFrames_630 : decode cL_areFrames 630 = .ok (.invokevirtual 100, 3) := by decide +kernel
theorem dL_areFrames_633 : decode cL_areFrames 633 = .ok (.iload_n 3, 1) := by decide +kernel
theorem dL_areFrames_634 : decode cL_areFrames 634 = .ok (.if_icmp .ne 16, 3) := by decide +kernel
theorem dL_areFrames_637 : decode cL_areFrames 637 = .ok (.aload_n 0, 1) := by decide +kernel
theorem dL_areFrames_638 : decode cL_areFrames 638 = .ok (.iload_n 3, 1) := by decide +kernel
theorem dL_areFrames_639 : decode cL_areFrames 639 = .ok (.invokevirtual 86, 3) := by decide +kernel
theorem dL_areFrames_642 : decode cL_areFrames 642 = .ok (.iconst (-1), 1) := by decide +kernel
theorem dL_areFrames_643 : decode cL_areFrames 643 = .ok (.if_icmp .ne 7, 3) := by decide +kernel
theorem dL_areFrames_646 : decode cL_areFrames 646 = .ok (.iconst 1, 1) := by decide +kernel
theorem dL_areFrames_647 : decode cL_areFrames 647 = .ok (.goto 4, 3) := by decide +kernel
theorem dL_areFrames_651 : decode cL_areFrames 651 = .ok (.ireturn, 1) := by decide +kernel
set_option maxRecDepth 20000 in
theorem ggL_isRefused_X0_loans : GoodIn wsL_isRefused wsX0_loans := goodIn_r _ [5, 6, 276, 277, 278, 279, 280, 281, 282, 283, 284, 285, 286, 287, 288, 289, 290, 291, 292, 293, 294] (by decide +kernel) (by decide +kernel)
set_option maxRecDepth 20000 in
theorem gL_isRefused_X0_loans : GoodIn wsL_isRefused (wsV RL 105 RX0 yX0_loans wsX0_loans) := goodIn_app (goodIn_of _ (by decide +kernel)) ggL_isRefused_X0_loans
set_option maxRecDepth 20000 in
theorem ggL_isRefused_L_all : GoodIn wsL_isRefused wsL_all := goodIn_ca (goodIn_r _ [10, 11, 12, 13, 14, 15, 16, 17, 18, 19, 4, 20, 21, 22, 23, 24, 25, 26, 27, 28, 29, 30, 31, 32, 33, 34, 35, 36, 37, 38, 39, 1, 2, 3, 5, 6, 40, 41, 42, 43, 44, 45, 46, 47, 48, 49, 50, 51, 52, 53, 54, 55, 56, 57, 58, 59, 60, 61, 62, 63, 64, 65, 66, 67, 68, 69, 70, 71, 72, 73, 74, 75, 76, 77, 78, 79, 80, 81, 82, 276, 277, 278, 279, 280, 281, 282, 283, 284, 285, 286, 287, 288, 289, 290, 291, 292, 293, 294] (by decide +kernel) (by decide +kernel)) (goodIn_sub (fun _ h => List.mem_cons_of_mem _ (List.mem_append_left _ (List.mem_append_left _ (List.mem_append_right _ h)))) (by decide +kernel))
set_option maxRecDepth 20000 in
theorem gL_isRefused_L_all : GoodIn wsL_isRefused (va_wsS RL 143 yL_all wsL_all) := goodIn_app (goodIn_of _ (by decide +kernel)) ggL_isRefused_L_all
set_option maxRecDepth 20000 in
theorem ggL_isRefused_L_act : GoodIn wsL_isRefused wsL_act := goodIn_ca (goodIn_ca (goodIn_ca (goodIn_r _ [85, 86, 87, 88, 89, 90, 91, 4, 92, 44, 45, 93, 94, 95, 70, 71, 72, 96, 97, 98, 99, 100, 101, 102, 103, 104, 105, 106, 77, 69, 46, 51, 107, 108, 109, 110, 35, 37, 38, 39, 111, 112, 113, 114, 115, 116, 117, 118, 36, 119, 120, 121, 122, 123, 124, 125, 126, 127, 64, 21, 82, 128, 129, 130, 131, 132, 133, 134, 135, 136, 137, 138, 139, 140, 141, 142, 6, 143, 144, 145, 31, 32, 33, 34, 146, 147, 148, 149, 150, 151, 152, 153, 154, 155, 156, 157, 158, 159, 160, 161, 162, 163, 164, 165, 166, 60, 61, 62, 63, 167, 168, 169, 170, 171, 172, 173, 174, 175, 176, 177, 178, 179, 180, 181, 182, 183, 184, 185, 186, 187, 188, 189, 190, 191, 192, 193, 194, 195, 196, 197, 198, 199, 200, 201, 202, 203, 204, 205, 206, 207, 208, 209, 210, 211, 212, 213, 214, 215, 216, 26, 217, 218, 219, 220, 221, 222, 223, 224, 225, 226, 227, 228, 229, 230, 231, 232, 276, 277, 278, 279, 280, 281, 282, 283, 284, 285, 286, 287, 288, 289, 290, 291, 292, 293, 294] (by decide +kernel) (by decide +kernel)) (goodIn_sub (fun _ h => List.mem_cons_of_mem _ (List.mem_append_left _ (List.mem_append_left _ (List.mem_append_right _ h)))) (by decide +kernel))) (goodIn_sub (fun _ h => List.mem_cons_of_mem _ (List.mem_append_left _ (List.mem_append_right _ h))) (by decide +kernel))) (goodIn_sub (fun _ h => List.mem_cons_of_mem _ (List.mem_append_right _ h)) (by decide +kernel))
set_option maxRecDepth 20000 in
theorem gL_isRefused_L_act : GoodIn wsL_isRefused (va_wsS RL 131 yL_act wsL_act) := goodIn_app (goodIn_of _ (by decide +kernel)) ggL_isRefused_L_act
end
section
set_option maxRecDepth 20000 in
theorem ggL_isRefused_L_of : GoodIn wsL_isRefused wsL_of := goodIn_ca (goodIn_r _ [235, 86, 40, 41, 42, 4, 43, 44, 45, 46, 37, 38, 39, 47, 48, 49, 50, 51, 236, 237, 238, 239, 6, 143, 145, 154, 52, 53, 54, 55, 35, 56, 57, 58, 59, 60, 61, 62, 63, 36, 21, 64, 240, 241, 242, 243, 70, 71, 72, 244, 245, 246, 247, 155, 156, 157, 158, 248, 249, 250, 251, 73, 74, 75, 76, 77, 65, 66, 67, 68, 69, 78, 79, 80, 81, 82, 252, 253, 254, 255, 175, 176, 177, 178, 256, 257, 258, 259, 144, 260, 261, 262, 263, 200, 264, 265, 266, 267, 268, 269, 270, 271, 31, 32, 33, 34, 225, 226, 227, 228, 276, 277, 278, 279, 280, 281, 282, 283, 284, 285, 286, 287, 288, 289, 290, 291, 292, 293, 294] (by decide +kernel) (by decide +kernel)) (goodIn_sub (fun _ h => List.mem_cons_of_mem _ (List.mem_append_left _ (List.mem_append_left _ (List.mem_append_right _ h)))) (by decide +kernel))
set_option maxRecDepth 20000 in
theorem gL_isRefused_L_of : GoodIn wsL_isRefused (va_wsS RL 147 yL_of wsL_of) := goodIn_app (goodIn_of _ (by decide +kernel)) ggL_isRefused_L_of
set_option maxRecDepth 20000 in
theorem ggL_isRefused_X0_owner : GoodIn wsL_isRefused wsX0_owner := goodIn_ca (goodIn_r _ [43, 44, 45, 46, 37, 38, 4, 39, 276, 277, 278, 279, 280, 281, 282, 283, 284, 285, 286, 287, 288, 289, 290, 291, 292, 293, 294] (by decide +kernel) (by decide +kernel)) (goodIn_sub (fun _ h => List.mem_cons_of_mem _ (List.mem_append_left _ (List.mem_append_left _ (List.mem_append_right _ h)))) (by decide +kernel))
set_option maxRecDepth 20000 in
theorem gL_isRefused_X0_owner : GoodIn wsL_isRefused (wsV RL 43 RX0 yX0_owner wsX0_owner) := goodIn_app (goodIn_of _ (by decide +kernel)) ggL_isRefused_X0_owner
set_option maxRecDepth 20000 in
theorem ggL_isRefused_X0_holder : GoodIn wsL_isRefused wsX0_holder := goodIn_ca (goodIn_r _ [50, 44, 45, 51, 37, 38, 4, 39, 276, 277, 278, 279, 280, 281, 282, 283, 284, 285, 286, 287, 288, 289, 290, 291, 292, 293, 294] (by decide +kernel) (by decide +kernel)) (goodIn_sub (fun _ h => List.mem_cons_of_mem _ (List.mem_append_left _ (List.mem_append_left _ (List.mem_append_right _ h)))) (by decide +kernel))
set_option maxRecDepth 20000 in
theorem gL_isRefused_X0_holder : GoodIn wsL_isRefused (wsV RL 46 RX0 yX0_holder wsX0_holder) := goodIn_app (goodIn_of _ (by decide +kernel)) ggL_isRefused_X0_holder
set_option maxRecDepth 20000 in
theorem ggL_isRefused_X0_pageIn : GoodIn wsL_isRefused wsX0_pageIn := goodIn_ca (goodIn_r _ [55, 44, 45, 35, 37, 38, 4, 39, 276, 277, 278, 279, 280, 281, 282, 283, 284, 285, 286, 287, 288, 289, 290, 291, 292, 293, 294] (by decide +kernel) (by decide +kernel)) (goodIn_sub (fun _ h => List.mem_cons_of_mem _ (List.mem_append_left _ (List.mem_append_left _ (List.mem_append_right _ h)))) (by decide +kernel))
set_option maxRecDepth 20000 in
theorem gL_isRefused_X0_pageIn : GoodIn wsL_isRefused (wsV RL 52 RX0 yX0_pageIn wsX0_pageIn) := goodIn_app (goodIn_of _ (by decide +kernel)) ggL_isRefused_X0_pageIn
set_option maxRecDepth 20000 in
theorem ggL_isRefused_X0_stateOf : GoodIn wsL_isRefused wsX0_stateOf := goodIn_ca (goodIn_r _ [76, 44, 45, 77, 70, 71, 4, 72, 276, 277, 278, 279, 280, 281, 282, 283, 284, 285, 286, 287, 288, 289, 290, 291, 292, 293, 294] (by decide +kernel) (by decide +kernel)) (goodIn_sub (fun _ h => List.mem_cons_of_mem _ (List.mem_append_left _ (List.mem_append_left _ (List.mem_append_right _ h)))) (by decide +kernel))
set_option maxRecDepth 20000 in
theorem gL_isRefused_X0_stateOf : GoodIn wsL_isRefused (wsV RL 67 RX0 yX0_stateOf wsX0_stateOf) := goodIn_app (goodIn_of _ (by decide +kernel)) ggL_isRefused_X0_stateOf
set_option maxRecDepth 20000 in
theorem ggL_isRefused_X0_age : GoodIn wsL_isRefused wsX0_age := goodIn_ca (goodIn_r _ [59, 44, 45, 37, 38, 4, 39, 60, 61, 62, 63, 36, 21, 64, 276, 277, 278, 279, 280, 281, 282, 283, 284, 285, 286, 287, 288, 289, 290, 291, 292, 293, 294] (by decide +kernel) (by decide +kernel)) (goodIn_sub (fun _ h => List.mem_cons_of_mem _ (List.mem_append_left _ (List.mem_append_left _ (List.mem_append_right _ h)))) (by decide +kernel))
set_option maxRecDepth 20000 in
theorem gL_isRefused_X0_age : GoodIn wsL_isRefused (wsV RL 55 RX0 yX0_age wsX0_age) := goodIn_app (goodIn_of _ (by decide +kernel)) ggL_isRefused_X0_age
set_option maxRecDepth 20000 in
theorem ggL_isRefused_X0_purse : GoodIn wsL_isRefused wsX0_purse := goodIn_ca (goodIn_r _ [68, 44, 45, 69, 70, 71, 4, 72, 276, 277, 278, 279, 280, 281, 282, 283, 284, 285, 286, 287, 288, 289, 290, 291, 292, 293, 294] (by decide +kernel) (by decide +kernel)) (goodIn_sub (fun _ h => List.mem_cons_of_mem _ (List.mem_append_left _ (List.mem_append_left _ (List.mem_append_right _ h)))) (by decide +kernel))
set_option maxRecDepth 20000 in
theorem gL_isRefused_X0_purse : GoodIn wsL_isRefused (wsV RL 70 RX0 yX0_purse wsX0_purse) := goodIn_app (goodIn_of _ (by decide +kernel)) ggL_isRefused_X0_purse
set_option maxRecDepth 20000 in
theorem ggL_isRefused_X0_free : GoodIn wsL_isRefused wsX0_free := goodIn_r _ [275, 46, 276, 277, 278, 279, 280, 281, 282, 283, 284, 285, 286, 287, 288, 289, 290, 291, 292, 293, 294] (by decide +kernel) (by decide +kernel)
set_option maxRecDepth 20000 in
theorem gL_isRefused_X0_free : GoodIn wsL_isRefused (wsV RL 120 RX0 yX0_free wsX0_free) := goodIn_app (goodIn_of _ (by decide +kernel)) ggL_isRefused_X0_free
set_option maxRecDepth 20000 in
theorem ggL_isRefused_X0_partiesOf : GoodIn wsL_isRefused wsX0_partiesOf := goodIn_ca (goodIn_r _ [259, 44, 45, 145, 144, 154, 175, 176, 177, 4, 178, 6, 276, 277, 278, 279, 280, 281, 282, 283, 284, 285, 286, 287, 288, 289, 290, 291, 292, 293, 294] (by decide +kernel) (by decide +kernel)) (goodIn_sub (fun _ h => List.mem_cons_of_mem _ (List.mem_append_left _ (List.mem_append_left _ (List.mem_append_right _ h)))) (by decide +kernel))
set_option maxRecDepth 20000 in
theorem gL_isRefused_X0_partiesOf : GoodIn wsL_isRefused (wsV RL 80 RX0 yX0_partiesOf wsX0_partiesOf) := goodIn_app (goodIn_of _ (by decide +kernel)) ggL_isRefused_X0_partiesOf
set_option maxRecDepth 20000 in
theorem ggL_isRefused_X0_lasts : GoodIn wsL_isRefused wsX0_lasts := goodIn_ca (goodIn_r _ [255, 44, 45, 143, 175, 176, 177, 4, 178, 6, 276, 277, 278, 279, 280, 281, 282, 283, 284, 285, 286, 287, 288, 289, 290, 291, 292, 293, 294] (by decide +kernel) (by decide +kernel)) (goodIn_sub (fun _ h => List.mem_cons_of_mem _ (List.mem_append_left _ (List.mem_append_left _ (List.mem_append_right _ h)))) (by decide +kernel))
set_option maxRecDepth 20000 in
theorem gL_isRefused_X0_lasts : GoodIn wsL_isRefused (wsV RL 76 RX0 yX0_lasts wsX0_lasts) := goodIn_app (goodIn_of _ (by decide +kernel)) ggL_isRefused_X0_lasts
theorem dL_isRefused_0 : decode cL_isRefused 0 = .ok (.iload_n 1, 1) := by decide +kernel
theorem dL_isRefused_1 : decode cL_isRefused 1 = .ok (.iconst 2, 1) := by decide +kernel
theorem dL_isRefused_2 : decode cL_isRefused 2 = .ok (.irem, 1) := by decide +kernel
theorem dL_isRefused_3 : decode cL_isRefused 3 = .ok (.ifCond .ne 7, 3) := by decide +kernel
theorem dL_isRefused_6 : decode cL_isRefused 6 = .ok (.iconst 1, 1) := by decide +kernel
theorem dL_isRefused_7 : decode cL_isRefused 7 = .ok (.goto 4, 3) := by decide +kernel
theorem dL_isRefused_10 : decode cL_isRefused 10 = .ok (.iconst 0, 1) := by decide +kernel
theorem dL_isRefused_11 : decode cL_isRefused 11 = .ok (.istore_n 2, 1) := by decide +kernel
theorem dL_isRefused_12 : decode cL_isRefused 12 = .ok (.iload_n 2, 1) := by decide +kernel
theorem dL_isRefused_13 : decode cL_isRefused 13 = .ok (.ifCond .eq 12, 3) := by decide +kernel
theorem dL_isRefused_16 : decode cL_isRefused 16 = .ok (.iconst (-1), 1) := by decide +kernel
theorem dL_isRefused_17 : decode cL_isRefused 17 = .ok (.iload_n 1, 1) := by decide +kernel
theorem dL_isRefused_18 : decode cL_isRefused 18 = .ok (.bipush 30, 2) := by decide +kernel
theorem dL_isRefused_20 : decode cL_isRefused 20 = .ok (.irem, 1) := by decide +kernel
theorem dL_isRefused_21 : decode cL_isRefused 21 = .ok (.isub, 1) := by decide +kernel
theorem dL_isRefused_22 : decode cL_isRefused 22 = .ok (.goto 9, 3) := by decide +kernel
theorem dL_isRefused_25 : decode cL_isRefused 25 = .ok (.iconst 5, 1) := by decide +kernel
theorem dL_isRefused_26 : decode cL_isRefused 26 = .ok (.iload_n 1, 1) := by decide +kernel
theorem dL_isRefused_27 : decode cL_isRefused 27 = .ok (.bipush 30, 2) := by decide +kernel
theorem dL_isRefused_29 : decode cL_isRefused 29 = .ok (.irem, 1) := by decide +kernel
theorem dL_isRefused_30 : decode cL_isRefused 30 = .ok (.iadd, 1) := by decide +kernel
theorem dL_isRefused_31 : decode cL_isRefused 31 = .ok (.istore_n 3, 1) := by decide +kernel
theorem dL_isRefused_32 : decode cL_isRefused 32 = .ok (.iload_n 2, 1) := by decide +kernel
theorem dL_isRefused_33 : decode cL_isRefused 33 = .ok (.ifCond .eq 12, 3) := by decide +kernel
theorem dL_isRefused_36 : decode cL_isRefused 36 = .ok (.iconst (-1), 1) := by decide +kernel
theorem dL_isRefused_37 : decode cL_isRefused 37 = .ok (.iload_n 1, 1) := by decide +kernel
theorem dL_isRefused_38 : decode cL_isRefused 38 = .ok (.bipush 30, 2) := by decide +kernel
theorem dL_isRefused_40 : decode cL_isRefused 40 = .ok (.irem, 1) := by decide +kernel
theorem dL_isRefused_41 : decode cL_isRefused 41 = .ok (.isub, 1) := by decide +kernel
theorem dL_isRefused_42 : decode cL_isRefused 42 = .ok (.goto 10, 3) := by decide +kernel
theorem dL_isRefused_45 : decode cL_isRefused 45 = .ok (.bipush 12, 2) := by decide +kernel
theorem dL_isRefused_47 : decode cL_isRefused 47 = .ok (.iload_n 1, 1) := by decide +kernel
theorem dL_isRefused_48 : decode cL_isRefused 48 = .ok (.bipush 30, 2) := by decide +kernel
theorem dL_isRefused_50 : decode cL_isRefused 50 = .ok (.irem, 1) := by decide +kernel
theorem dL_isRefused_51 : decode cL_isRefused 51 = .ok (.iadd, 1) := by decide +kernel
theorem dL_isRefused_52 : decode cL_isRefused 52 = .ok (.istore 4, 2) := by decide +kernel
theorem dL_isRefused_54 : decode cL_isRefused 54 = .ok (.iload_n 2, 1) := by decide +kernel
theorem dL_isRefused_55 : decode cL_isRefused 55 = .ok (.ifCond .eq 12, 3) := by decide +kernel
theorem dL_isRefused_58 : decode cL_isRefused 58 = .ok (.iconst (-1), 1) := by decide +kernel
theorem dL_isRefused_59 : decode cL_isRefused 59 = .ok (.iload_n 1, 1) := by decide +kernel
theorem dL_isRefused_60 : decode cL_isRefused 60 = .ok (.bipush 30, 2) := by decide +kernel
theorem dL_isRefused_62 : decode cL_isRefused 62 = .ok (.irem, 1) := by decide +kernel
theorem dL_isRefused_63 : decode cL_isRefused 63 = .ok (.isub, 1) := by decide +kernel
theorem dL_isRefused_64 : decode cL_isRefused 64 = .ok (.goto 12, 3) := by decide +kernel
theorem dL_isRefused_67 : decode cL_isRefused 67 = .ok (.aload_n 0, 1) := by decide +kernel
theorem dL_isRefused_68 : decode cL_isRefused 68 = .ok (.invokevirtual 105, 3) := by decide +kernel
theorem dL_isRefused_71 : decode cL_isRefused 71 = .ok (.iload_n 1, 1) := by decide +kernel
theorem dL_isRefused_72 : decode cL_isRefused 72 = .ok (.bipush 30, 2) := by decide +kernel
theorem dL_isRefused_74 : decode cL_isRefused 74 = .ok (.irem, 1) := by decide +kernel
theorem dL_isRefused_75 : decode cL_isRefused 75 = .ok (.iadd, 1) := by decide +kernel
theorem dL_isRefused_76 : decode cL_isRefused 76 = .ok (.istore 5, 2) := by decide +kernel
theorem dL_isRefused_78 : decode cL_isRefused 78 = .ok (.aload_n 0, 1) := by decide +kernel
theorem dL_isRefused_79 : decode cL_isRefused 79 = .ok (.invokestatic 143, 3) := by decide +kernel
theorem dL_isRefused_82 : decode cL_isRefused 82 = .ok (.lstore 6, 2) := by decide +kernel
theorem dL_isRefused_84 : decode cL_isRefused 84 = .ok (.aload_n 0, 1) := by decide +kernel
theorem dL_isRefused_85 : decode cL_isRefused 85 = .ok (.iconst 0, 1) := by decide +kernel
theorem dL_isRefused_86 : decode cL_isRefused 86 = .ok (.iload_n 3, 1) := by decide +kernel
theorem dL_isRefused_87 : decode cL_isRefused 87 = .ok (.iconst (-1), 1) := by decide +kernel
theorem dL_isRefused_88 : decode cL_isRefused 88 = .ok (.invokestatic 131, 3) := by decide +kernel
theorem dL_isRefused_91 : decode cL_isRefused 91 = .ok (.sipush (-1211), 3) := by decide +kernel
theorem dL_isRefused_94 : decode cL_isRefused 94 = .ok (.if_icmp .ne 223, 3) := by decide +kernel
theorem dL_isRefused_97 : decode cL_isRefused 97 = .ok (.aload_n 0, 1) := by decide +kernel
theorem dL_isRefused_98 : decode cL_isRefused 98 = .ok (.iconst 0, 1) := by decide +kernel
theorem dL_isRefused_99 : decode cL_isRefused 99 = .ok (.iload_n 1, 1) := by decide +kernel
theorem dL_isRefused_100 : decode cL_isRefused 100 = .ok (.iconst 5, 1) := by decide +kernel
theorem dL_isRefused_101 : decode cL_isRefused 101 = .ok (.irem, 1) := by decide +kernel
theorem dL_isRefused_102 : decode cL_isRefused 102 = .ok (.iload_n 2, 1) := by decide +kernel
theorem dL_isRefused_103 : decode cL_isRefused 103 = .ok (.ifCond .eq 12, 3) := by decide +kernel
theorem dL_isRefused_106 : decode cL_isRefused 106 = .ok (.iconst (-1), 1) := by decide +kernel
theorem dL_isRefused_107 : decode cL_isRefused 107 = .ok (.iload_n 1, 1) := by decide +kernel
theorem dL_isRefused_108 : decode cL_isRefused 108 = .ok (.bipush 30, 2) := by decide +kernel
theorem dL_isRefused_110 : decode cL_isRefused 110 = .ok (.irem, 1) := by decide +kernel
theorem dL_isRefused_111 : decode cL_isRefused 111 = .ok (.isub, 1) := by decide +kernel
theorem dL_isRefused_112 : decode cL_isRefused 112 = .ok (.goto 5, 3) := by decide +kernel
theorem dL_isRefused_115 : decode cL_isRefused 115 = .ok (.bipush 10, 2) := by decide +kernel
theorem dL_isRefused_117 : decode cL_isRefused 117 = .ok (.invokestatic 131, 3) := by decide +kernel
theorem dL_isRefused_120 : decode cL_isRefused 120 = .ok (.sipush (-1212), 3) := by decide +kernel
theorem dL_isRefused_123 : decode cL_isRefused 123 = .ok (.if_icmp .ne 194, 3) := by decide +kernel
theorem dL_isRefused_126 : decode cL_isRefused 126 = .ok (.aload_n 0, 1) := by decide +kernel
theorem dL_isRefused_127 : decode cL_isRefused 127 = .ok (.iconst 1, 1) := by decide +kernel
theorem dL_isRefused_128 : decode cL_isRefused 128 = .ok (.iload_n 2, 1) := by decide +kernel
theorem dL_isRefused_129 : decode cL_isRefused 129 = .ok (.ifCond .eq 12, 3) := by decide +kernel
theorem dL_isRefused_132 : decode cL_isRefused 132 = .ok (.iconst (-1), 1) := by decide +kernel
theorem dL_isRefused_133 : decode cL_isRefused 133 = .ok (.iload_n 1, 1) := by decide +kernel
theorem dL_isRefused_134 : decode cL_isRefused 134 = .ok (.bipush 30, 2) := by decide +kernel
theorem dL_isRefused_136 : decode cL_isRefused 136 = .ok (.irem, 1) := by decide +kernel
theorem dL_isRefused_137 : decode cL_isRefused 137 = .ok (.isub, 1) := by decide +kernel
theorem dL_isRefused_138 : decode cL_isRefused 138 = .ok (.goto 10, 3) := by decide +kernel
theorem dL_isRefused_141 : decode cL_isRefused 141 = .ok (.bipush 10, 2) := by decide +kernel
theorem dL_isRefused_143 : decode cL_isRefused 143 = .ok (.iload_n 1, 1) := by decide +kernel
theorem dL_isRefused_144 : decode cL_isRefused 144 = .ok (.bipush 30, 2) := by decide +kernel
theorem dL_isRefused_146 : decode cL_isRefused 146 = .ok (.irem, 1) := by decide +kernel
theorem dL_isRefused_147 : decode cL_isRefused 147 = .ok (.iadd, 1) := by decide +kernel
theorem dL_isRefused_148 : decode cL_isRefused 148 = .ok (.iconst 0, 1) := by decide +kernel
theorem dL_isRefused_149 : decode cL_isRefused 149 = .ok (.invokestatic 131, 3) := by decide +kernel
theorem dL_isRefused_152 : decode cL_isRefused 152 = .ok (.sipush (-1212), 3) := by decide +kernel
theorem dL_isRefused_155 : decode cL_isRefused 155 = .ok (.if_icmp .ne 162, 3) := by decide +kernel
theorem dL_isRefused_158 : decode cL_isRefused 158 = .ok (.aload_n 0, 1) := by decide +kernel
theorem dL_isRefused_159 : decode cL_isRefused 159 = .ok (.iconst 2, 1) := by decide +kernel
theorem dL_isRefused_160 : decode cL_isRefused 160 = .ok (.iload_n 3, 1) := by decide +kernel
theorem dL_isRefused_161 : decode cL_isRefused 161 = .ok (.iconst 0, 1) := by decide +kernel
theorem dL_isRefused_162 : decode cL_isRefused 162 = .ok (.invokestatic 131, 3) := by decide +kernel
theorem dL_isRefused_165 : decode cL_isRefused 165 = .ok (.sipush (-1211), 3) := by decide +kernel
theorem dL_isRefused_168 : decode cL_isRefused 168 = .ok (.if_icmp .ne 149, 3) := by decide +kernel
theorem dL_isRefused_171 : decode cL_isRefused 171 = .ok (.aload_n 0, 1) := by decide +kernel
theorem dL_isRefused_172 : decode cL_isRefused 172 = .ok (.iconst 3, 1) := by decide +kernel
theorem dL_isRefused_173 : decode cL_isRefused 173 = .ok (.iload 4, 2) := by decide +kernel
theorem dL_isRefused_175 : decode cL_isRefused 175 = .ok (.iconst 0, 1) := by decide +kernel
theorem dL_isRefused_176 : decode cL_isRefused 176 = .ok (.invokestatic 131, 3) := by decide +kernel
theorem dL_isRefused_179 : decode cL_isRefused 179 = .ok (.sipush (-1211), 3) := by decide +kernel
theorem dL_isRefused_182 : decode cL_isRefused 182 = .ok (.if_icmp .ne 135, 3) := by decide +kernel
theorem dL_isRefused_185 : decode cL_isRefused 185 = .ok (.aload_n 0, 1) := by decide +kernel
theorem dL_isRefused_186 : decode cL_isRefused 186 = .ok (.iconst 4, 1) := by decide +kernel
theorem dL_isRefused_187 : decode cL_isRefused 187 = .ok (.iload 4, 2) := by decide +kernel
theorem dL_isRefused_189 : decode cL_isRefused 189 = .ok (.iconst 0, 1) := by decide +kernel
theorem dL_isRefused_190 : decode cL_isRefused 190 = .ok (.invokestatic 131, 3) := by decide +kernel
theorem dL_isRefused_193 : decode cL_isRefused 193 = .ok (.sipush (-1211), 3) := by decide +kernel
theorem dL_isRefused_196 : decode cL_isRefused 196 = .ok (.if_icmp .ne 121, 3) := by decide +kernel
theorem dL_isRefused_199 : decode cL_isRefused 199 = .ok (.aload_n 0, 1) := by decide +kernel
theorem dL_isRefused_200 : decode cL_isRefused 200 = .ok (.iconst 5, 1) := by decide +kernel
theorem dL_isRefused_201 : decode cL_isRefused 201 = .ok (.iload_n 3, 1) := by decide +kernel
theorem dL_isRefused_202 : decode cL_isRefused 202 = .ok (.iconst 0, 1) := by decide +kernel
theorem dL_isRefused_203 : decode cL_isRefused 203 = .ok (.invokestatic 131, 3) := by decide +kernel
theorem dL_isRefused_206 : decode cL_isRefused 206 = .ok (.sipush (-1211), 3) := by decide +kernel
theorem dL_isRefused_209 : decode cL_isRefused 209 = .ok (.if_icmp .ne 108, 3) := by decide +kernel
theorem dL_isRefused_212 : decode cL_isRefused 212 = .ok (.aload_n 0, 1) := by decide +kernel
theorem dL_isRefused_213 : decode cL_isRefused 213 = .ok (.iconst 5, 1) := by decide +kernel
theorem dL_isRefused_214 : decode cL_isRefused 214 = .ok (.iload_n 1, 1) := by decide +kernel
theorem dL_isRefused_215 : decode cL_isRefused 215 = .ok (.iconst 5, 1) := by decide +kernel
theorem dL_isRefused_216 : decode cL_isRefused 216 = .ok (.irem, 1) := by decide +kernel
theorem dL_isRefused_217 : decode cL_isRefused 217 = .ok (.iload_n 2, 1) := by decide +kernel
theorem dL_isRefused_218 : decode cL_isRefused 218 = .ok (.ifCond .eq 12, 3) := by decide +kernel
theorem dL_isRefused_221 : decode cL_isRefused 221 = .ok (.iconst (-1), 1) := by decide +kernel
theorem dL_isRefused_222 : decode cL_isRefused 222 = .ok (.iload_n 1, 1) := by decide +kernel
theorem dL_isRefused_223 : decode cL_isRefused 223 = .ok (.bipush 30, 2) := by decide +kernel
theorem dL_isRefused_225 : decode cL_isRefused 225 = .ok (.irem, 1) := by decide +kernel
theorem dL_isRefused_226 : decode cL_isRefused 226 = .ok (.isub, 1) := by decide +kernel
theorem dL_isRefused_227 : decode cL_isRefused 227 = .ok (.goto 10, 3) := by decide +kernel
theorem dL_isRefused_230 : decode cL_isRefused 230 = .ok (.bipush 8, 2) := by decide +kernel
theorem dL_isRefused_232 : decode cL_isRefused 232 = .ok (.iload_n 1, 1) := by decide +kernel
theorem dL_isRefused_233 : decode cL_isRefused 233 = .ok (.bipush 30, 2) := by decide +kernel
theorem dL_isRefused_235 : decode cL_isRefused 235 = .ok (.irem, 1) := by decide +kernel
theorem dL_isRefused_236 : decode cL_isRefused 236 = .ok (.iadd, 1) := by decide +kernel
theorem dL_isRefused_237 : decode cL_isRefused 237 = .ok (.invokestatic 131, 3) := by decide +kernel
theorem dL_isRefused_240 : decode cL_isRefused 240 = .ok (.sipush (-1211), 3) := by decide +kernel
theorem dL_isRefused_243 : decode cL_isRefused 243 = .ok (.if_icmp .ne 74, 3) := by decide +kernel
theorem dL_isRefused_246 : decode cL_isRefused 246 = .ok (.aload_n 0, 1) := by decide +kernel
theorem dL_isRefused_247 : decode cL_isRefused 247 = .ok (.bipush 6, 2) := by decide +kernel
theorem dL_isRefused_249 : decode cL_isRefused 249 = .ok (.iload 5, 2) := by decide +kernel
theorem dL_isRefused_251 : decode cL_isRefused 251 = .ok (.iconst 0, 1) := by decide +kernel
theorem dL_isRefused_252 : decode cL_isRefused 252 = .ok (.invokestatic 131, 3) := by decide +kernel
theorem dL_isRefused_255 : decode cL_isRefused 255 = .ok (.sipush (-1211), 3) := by decide +kernel
theorem dL_isRefused_258 : decode cL_isRefused 258 = .ok (.if_icmp .ne 59, 3) := by decide +kernel
theorem dL_isRefused_261 : decode cL_isRefused 261 = .ok (.aload_n 0, 1) := by decide +kernel
theorem dL_isRefused_262 : decode cL_isRefused 262 = .ok (.bipush 7, 2) := by decide +kernel
theorem dL_isRefused_264 : decode cL_isRefused 264 = .ok (.iload_n 2, 1) := by decide +kernel
theorem dL_isRefused_265 : decode cL_isRefused 265 = .ok (.ifCond .eq 12, 3) := by decide +kernel
theorem dL_isRefused_268 : decode cL_isRefused 268 = .ok (.iconst 0, 1) := by decide +kernel
theorem dL_isRefused_269 : decode cL_isRefused 269 = .ok (.iload_n 1, 1) := by decide +kernel
theorem dL_isRefused_270 : decode cL_isRefused 270 = .ok (.bipush 30, 2) := by decide +kernel
theorem dL_isRefused_272 : decode cL_isRefused 272 = .ok (.irem, 1) := by decide +kernel
theorem dL_isRefused_273 : decode cL_isRefused 273 = .ok (.isub, 1) := by decide +kernel
theorem dL_isRefused_274 : decode cL_isRefused 274 = .ok (.goto 11, 3) := by decide +kernel
theorem dL_isRefused_277 : decode cL_isRefused 277 = .ok (.sipush 201, 3) := by decide +kernel
theorem dL_isRefused_280 : decode cL_isRefused 280 = .ok (.iload_n 1, 1) := by decide +kernel
theorem dL_isRefused_281 : decode cL_isRefused 281 = .ok (.bipush 30, 2) := by decide +kernel
theorem dL_isRefused_283 : decode cL_isRefused 283 = .ok (.irem, 1) := by decide +kernel
theorem dL_isRefused_284 : decode cL_isRefused 284 = .ok (.iadd, 1) := by decide +kernel
theorem dL_isRefused_285 : decode cL_isRefused 285 = .ok (.iconst 0, 1) := by decide +kernel
theorem dL_isRefused_286 : decode cL_isRefused 286 = .ok (.invokestatic 131, 3) := by decide +kernel
theorem dL_isRefused_289 : decode cL_isRefused 289 = .ok (.sipush (-1212), 3) := by decide +kernel
theorem dL_isRefused_292 : decode cL_isRefused 292 = .ok (.if_icmp .ne 25, 3) := by decide +kernel
theorem dL_isRefused_295 : decode cL_isRefused 295 = .ok (.aload_n 0, 1) := by decide +kernel
theorem dL_isRefused_296 : decode cL_isRefused 296 = .ok (.bipush 14, 2) := by decide +kernel
theorem dL_isRefused_298 : decode cL_isRefused 298 = .ok (.iconst (-1), 1) := by decide +kernel
theorem dL_isRefused_299 : decode cL_isRefused 299 = .ok (.iload_n 1, 1) := by decide +kernel
theorem dL_isRefused_300 : decode cL_isRefused 300 = .ok (.bipush 30, 2) := by decide +kernel
theorem dL_isRefused_302 : decode cL_isRefused 302 = .ok (.irem, 1) := by decide +kernel
theorem dL_isRefused_303 : decode cL_isRefused 303 = .ok (.isub, 1) := by decide +kernel
theorem dL_isRefused_304 : decode cL_isRefused 304 = .ok (.invokestatic 147, 3) := by decide +kernel
theorem dL_isRefused_307 : decode cL_isRefused 307 = .ok (.sipush (-1211), 3) := by decide +kernel
theorem dL_isRefused_310 : decode cL_isRefused 310 = .ok (.if_icmp .ne 7, 3) := by decide +kernel
theorem dL_isRefused_313 : decode cL_isRefused 313 = .ok (.iconst 1, 1) := by decide +kernel
theorem dL_isRefused_314 : decode cL_isRefused 314 = .ok (.goto 4, 3) := by decide +kernel
theorem dL_isRefused_318 : decode cL_isRefused 318 = .ok (.istore 8, 2) := by decide +kernel
theorem dL_isRefused_320 : decode cL_isRefused 320 = .ok (.iconst 0, 1) := by decide +kernel
theorem dL_isRefused_321 : decode cL_isRefused 321 = .ok (.istore 9, 2) := by decide +kernel
theorem dL_isRefused_323 : decode cL_isRefused 323 = .ok (.iload 9, 2) := by decide +kernel
theorem dL_isRefused_325 : decode cL_isRefused 325 = .ok (.bipush 14, 2) := by decide +kernel
theorem dL_isRefused_327 : decode cL_isRefused 327 = .ok (.if_icmp .ge 57, 3) := by decide +kernel
theorem dL_isRefused_330 : decode cL_isRefused 330 = .ok (.iload 8, 2) := by decide +kernel
theorem dL_isRefused_332 : decode cL_isRefused 332 = .ok (.ifCond .eq 52, 3) := by decide +kernel
theorem dL_isRefused_335 : decode cL_isRefused 335 = .ok (.aload_n 0, 1) := by decide +kernel
theorem dL_isRefused_336 : decode cL_isRefused 336 = .ok (.iload 9, 2) := by decide +kernel
theorem dL_isRefused_338 : decode cL_isRefused 338 = .ok (.iload 9, 2) := by decide +kernel
theorem dL_isRefused_340 : decode cL_isRefused 340 = .ok (.iconst 5, 1) := by decide +kernel
theorem dL_isRefused_341 : decode cL_isRefused 341 = .ok (.if_icmp .ge 8, 3) := by decide +kernel
theorem dL_isRefused_344 : decode cL_isRefused 344 = .ok (.iload 4, 2) := by decide +kernel
theorem dL_isRefused_346 : decode cL_isRefused 346 = .ok (.goto 16, 3) := by decide +kernel
theorem dL_isRefused_349 : decode cL_isRefused 349 = .ok (.iload 9, 2) := by decide +kernel
theorem dL_isRefused_351 : decode cL_isRefused 351 = .ok (.bipush 11, 2) := by decide +kernel
theorem dL_isRefused_353 : decode cL_isRefused 353 = .ok (.if_icmp .ge 7, 3) := by decide +kernel
theorem dL_isRefused_356 : decode cL_isRefused 356 = .ok (.iload_n 3, 1) := by decide +kernel
theorem dL_isRefused_357 : decode cL_isRefused 357 = .ok (.goto 5, 3) := by decide +kernel
theorem dL_isRefused_360 : decode cL_isRefused 360 = .ok (.iload 5, 2) := by decide +kernel
theorem dL_isRefused_362 : decode cL_isRefused 362 = .ok (.invokestatic 147, 3) := by decide +kernel
theorem dL_isRefused_365 : decode cL_isRefused 365 = .ok (.sipush (-1211), 3) := by decide +kernel
theorem dL_isRefused_368 : decode cL_isRefused 368 = .ok (.if_icmp .ne 7, 3) := by decide +kernel
theorem dL_isRefused_371 : decode cL_isRefused 371 = .ok (.iconst 1, 1) := by decide +kernel
theorem dL_isRefused_372 : decode cL_isRefused 372 = .ok (.goto 4, 3) := by decide +kernel
theorem dL_isRefused_376 : decode cL_isRefused 376 = .ok (.istore 8, 2) := by decide +kernel
theorem dL_isRefused_378 : decode cL_isRefused 378 = .ok (.iinc 9 1, 3) := by decide +kernel
theorem dL_isRefused_381 : decode cL_isRefused 381 = .ok (.goto (-58), 3) := by decide +kernel
theorem dL_isRefused_384 : decode cL_isRefused 384 = .ok (.iconst 0, 1) := by decide +kernel
theorem dL_isRefused_385 : decode cL_isRefused 385 = .ok (.istore 9, 2) := by decide +kernel
theorem dL_isRefused_387 : decode cL_isRefused 387 = .ok (.iload 9, 2) := by decide +kernel
theorem dL_isRefused_389 : decode cL_isRefused 389 = .ok (.bipush 12, 2) := by decide +kernel
theorem dL_isRefused_391 : decode cL_isRefused 391 = .ok (.if_icmp .ge 117, 3) := by decide +kernel
theorem dL_isRefused_394 : decode cL_isRefused 394 = .ok (.iload 8, 2) := by decide +kernel
theorem dL_isRefused_396 : decode cL_isRefused 396 = .ok (.ifCond .eq 112, 3) := by decide +kernel
theorem dL_isRefused_399 : decode cL_isRefused 399 = .ok (.aload_n 0, 1) := by decide +kernel
theorem dL_isRefused_400 : decode cL_isRefused 400 = .ok (.iload 9, 2) := by decide +kernel
theorem dL_isRefused_402 : decode cL_isRefused 402 = .ok (.invokevirtual 43, 3) := by decide +kernel
theorem dL_isRefused_405 : decode cL_isRefused 405 = .ok (.ifCond .lt 45, 3) := by decide +kernel
theorem dL_isRefused_450 : decode cL_isRefused 450 = .ok (.iconst 0, 1) := by decide +kernel
theorem dL_isRefused_451 : decode cL_isRefused 451 = .ok (.istore 10, 2) := by decide +kernel
theorem dL_isRefused_453 : decode cL_isRefused 453 = .ok (.iload 10, 2) := by decide +kernel
theorem dL_isRefused_455 : decode cL_isRefused 455 = .ok (.ifCond .ne 17, 3) := by decide +kernel
theorem dL_isRefused_458 : decode cL_isRefused 458 = .ok (.aload_n 0, 1) := by decide +kernel
theorem dL_isRefused_459 : decode cL_isRefused 459 = .ok (.iconst 3, 1) := by decide +kernel
theorem dL_isRefused_460 : decode cL_isRefused 460 = .ok (.iload 9, 2) := by decide +kernel
theorem dL_isRefused_462 : decode cL_isRefused 462 = .ok (.iconst 0, 1) := by decide +kernel
theorem dL_isRefused_463 : decode cL_isRefused 463 = .ok (.invokestatic 131, 3) := by decide +kernel
theorem dL_isRefused_466 : decode cL_isRefused 466 = .ok (.sipush (-1213), 3) := by decide +kernel
theorem dL_isRefused_469 : decode cL_isRefused 469 = .ok (.if_icmp .ne 30, 3) := by decide +kernel
theorem dL_isRefused_472 : decode cL_isRefused 472 = .ok (.aload_n 0, 1) := by decide +kernel
theorem dL_isRefused_473 : decode cL_isRefused 473 = .ok (.iload 9, 2) := by decide +kernel
theorem dL_isRefused_475 : decode cL_isRefused 475 = .ok (.invokevirtual 55, 3) := by decide +kernel
theorem dL_isRefused_478 : decode cL_isRefused 478 = .ok (.ifCond .ge 17, 3) := by decide +kernel
theorem dL_isRefused_481 : decode cL_isRefused 481 = .ok (.aload_n 0, 1) := by decide +kernel
theorem dL_isRefused_482 : decode cL_isRefused 482 = .ok (.iconst 4, 1) := by decide +kernel
theorem dL_isRefused_483 : decode cL_isRefused 483 = .ok (.iload 9, 2) := by decide +kernel
theorem dL_isRefused_485 : decode cL_isRefused 485 = .ok (.iconst 0, 1) := by decide +kernel
theorem dL_isRefused_486 : decode cL_isRefused 486 = .ok (.invokestatic 131, 3) := by decide +kernel
theorem dL_isRefused_489 : decode cL_isRefused 489 = .ok (.sipush (-1213), 3) := by decide +kernel
theorem dL_isRefused_492 : decode cL_isRefused 492 = .ok (.if_icmp .ne 7, 3) := by decide +kernel
theorem dL_isRefused_495 : decode cL_isRefused 495 = .ok (.iconst 1, 1) := by decide +kernel
theorem dL_isRefused_496 : decode cL_isRefused 496 = .ok (.goto 4, 3) := by decide +kernel
theorem dL_isRefused_500 : decode cL_isRefused 500 = .ok (.istore 8, 2) := by decide +kernel
theorem dL_isRefused_502 : decode cL_isRefused 502 = .ok (.iinc 9 1, 3) := by decide +kernel
theorem dL_isRefused_505 : decode cL_isRefused 505 = .ok (.goto (-118), 3) := by decide +kernel
theorem dL_isRefused_508 : decode cL_isRefused 508 = .ok (.iconst 0, 1) := by decide +kernel
theorem dL_isRefused_509 : decode cL_isRefused 509 = .ok (.istore 9, 2) := by decide +kernel
theorem dL_isRefused_511 : decode cL_isRefused 511 = .ok (.iload 9, 2) := by decide +kernel
theorem dL_isRefused_513 : decode cL_isRefused 513 = .ok (.iconst 5, 1) := by decide +kernel
theorem dL_isRefused_514 : decode cL_isRefused 514 = .ok (.if_icmp .ge 103, 3) := by decide +kernel
theorem dL_isRefused_517 : decode cL_isRefused 517 = .ok (.iload 8, 2) := by decide +kernel
theorem dL_isRefused_519 : decode cL_isRefused 519 = .ok (.ifCond .eq 98, 3) := by decide +kernel
theorem dL_isRefused_522 : decode cL_isRefused 522 = .ok (.aload_n 0, 1) := by decide +kernel
theorem dL_isRefused_523 : decode cL_isRefused 523 = .ok (.iload 9, 2) := by decide +kernel
theorem dL_isRefused_525 : decode cL_isRefused 525 = .ok (.invokevirtual 67, 3) := by decide +kernel
theorem dL_isRefused_528 : decode cL_isRefused 528 = .ok (.iconst 2, 1) := by decide +kernel
theorem dL_isRefused_529 : decode cL_isRefused 529 = .ok (.if_icmp .eq 25, 3) := by decide +kernel
theorem dL_isRefused_532 : decode cL_isRefused 532 = .ok (.aload_n 0, 1) := by decide +kernel
theorem dL_isRefused_533 : decode cL_isRefused 533 = .ok (.iload 9, 2) := by decide +kernel
theorem dL_isRefused_535 : decode cL_isRefused 535 = .ok (.invokevirtual 70, 3) := by decide +kernel
theorem dL_isRefused_538 : decode cL_isRefused 538 = .ok (.bipush 8, 2) := by decide +kernel
theorem dL_isRefused_540 : decode cL_isRefused 540 = .ok (.if_icmp .lt 14, 3) := by decide +kernel
theorem dL_isRefused_543 : decode cL_isRefused 543 = .ok (.aload_n 0, 1) := by decide +kernel
theorem dL_isRefused_544 : decode cL_isRefused 544 = .ok (.invokevirtual 120, 3) := by decide +kernel
theorem dL_isRefused_547 : decode cL_isRefused 547 = .ok (.ifCond .le 7, 3) := by decide +kernel
theorem dL_isRefused_550 : decode cL_isRefused 550 = .ok (.iconst 1, 1) := by decide +kernel
theorem dL_isRefused_551 : decode cL_isRefused 551 = .ok (.goto 4, 3) := by decide +kernel
theorem dL_isRefused_555 : decode cL_isRefused 555 = .ok (.istore 10, 2) := by decide +kernel
theorem dL_isRefused_557 : decode cL_isRefused 557 = .ok (.iload 10, 2) := by decide +kernel
theorem dL_isRefused_559 : decode cL_isRefused 559 = .ok (.ifCond .ne 17, 3) := by decide +kernel
theorem dL_isRefused_576 : decode cL_isRefused 576 = .ok (.aload_n 0, 1) := by decide +kernel
theorem dL_isRefused_577 : decode cL_isRefused 577 = .ok (.iload 9, 2) := by decide +kernel
theorem dL_isRefused_579 : decode cL_isRefused 579 = .ok (.invokevirtual 67, 3) := by decide +kernel
theorem dL_isRefused_582 : decode cL_isRefused 582 = .ok (.ifCond .eq 22, 3) := by decide +kernel
theorem dL_isRefused_604 : decode cL_isRefused 604 = .ok (.iconst 1, 1) := by decide +kernel
theorem dL_isRefused_605 : decode cL_isRefused 605 = .ok (.goto 4, 3) := by decide +kernel
theorem dL_isRefused_609 : decode cL_isRefused 609 = .ok (.istore 8, 2) := by decide +kernel
theorem dL_isRefused_611 : decode cL_isRefused 611 = .ok (.iinc 9 1, 3) := by decide +kernel
theorem dL_isRefused_614 : decode cL_isRefused 614 = .ok (.goto (-103), 3) := by decide +kernel
theorem dL_isRefused_617 : decode cL_isRefused 617 = .ok (.iconst 0, 1) := by decide +kernel
theorem dL_isRefused_618 : decode cL_isRefused 618 = .ok (.istore 9, 2) := by decide +kernel
theorem dL_isRefused_620 : decode cL_isRefused 620 = .ok (.iload 9, 2) := by decide +kernel
theorem dL_isRefused_622 : decode cL_isRefused 622 = .ok (.aload_n 0, 1) := by decide +kernel
theorem dL_isRefused_623 : decode cL_isRefused 623 = .ok (.invokevirtual 105, 3) := by decide +kernel
theorem dL_isRefused_626 : decode cL_isRefused 626 = .ok (.if_icmp .ge 86, 3) := by decide +kernel
theorem dL_isRefused_712 : decode cL_isRefused 712 = .ok (.iload 8, 2) := by decide +kernel
theorem dL_isRefused_714 : decode cL_isRefused 714 = .ok (.ifCond .eq 17, 3) := by decide +kernel
theorem dL_isRefused_717 : decode cL_isRefused 717 = .ok (.aload_n 0, 1) := by decide +kernel
theorem dL_isRefused_718 : decode cL_isRefused 718 = .ok (.invokestatic 143, 3) := by decide +kernel
theorem dL_isRefused_721 : decode cL_isRefused 721 = .ok (.lload 6, 2) := by decide +kernel
theorem dL_isRefused_723 : decode cL_isRefused 723 = .ok (.lcmp, 1) := by decide +kernel
theorem dL_isRefused_724 : decode cL_isRefused 724 = .ok (.ifCond .ne 7, 3) := by decide +kernel
theorem dL_isRefused_727 : decode cL_isRefused 727 = .ok (.iconst 1, 1) := by decide +kernel
theorem dL_isRefused_728 : decode cL_isRefused 728 = .ok (.goto 4, 3) := by decide +kernel
theorem dL_isRefused_732 : decode cL_isRefused 732 = .ok (.ireturn, 1) := by decide +kernel
set_option maxRecDepth 20000 in
theorem ggL_law_X0_init : GoodIn wsL_law wsX0_init := goodIn_r _ [6, 7, 8, 9, 3, 10, 11, 12, 13, 14, 15, 16, 17, 18, 19, 20, 21, 22, 23, 24, 25, 26, 27, 28, 29, 30, 31, 32, 33, 324, 325, 326, 327, 328, 329, 330, 331, 332, 333, 334, 335, 336, 337, 338, 339, 340, 341, 342] (by decide +kernel) (by decide +kernel)
set_option maxRecDepth 20000 in
theorem gL_law_X0_init : GoodIn wsL_law (wsX0_init) := ggL_law_X0_init
end
section
theorem goodIn_cons {big : List Cond} {c : Cond} {L : List Cond} (h1 : GoodIn big [c]) (h2 : GoodIn big L) : GoodIn big (c :: L) := fun w h => (List.mem_cons.mp h).elim (fun e => h1 w (by rw [e]; exact List.mem_singleton.mpr rfl)) (h2 w)
set_option maxRecDepth 20000 in
theorem ggL_law_L_isRefused_q0 : GoodIn wsL_law wsL_isRefused_r1 := goodIn_r _ [38, 39, 40, 2, 41, 25, 42, 43, 36, 44, 45, 46, 47, 48, 49, 50, 51, 52, 53, 54, 27, 55, 56, 57] (by decide +kernel) (by decide +kernel)
set_option maxRecDepth 20000 in
theorem ggL_law_L_isRefused_q1 : GoodIn wsL_law wsL_isRefused_r2 := goodIn_r _ [58, 28, 59, 60, 61, 62, 63, 64, 65, 66, 16, 18, 67, 68, 69, 70, 71, 72, 73, 74, 75, 14, 76, 77] (by decide +kernel) (by decide +kernel)
set_option maxRecDepth 20000 in
theorem ggL_law_L_isRefused_q2 : GoodIn wsL_law wsL_isRefused_r3 := goodIn_r _ [78, 79, 15, 80, 81, 82, 83, 84, 85, 86, 87, 88, 89, 90, 91, 19, 92, 93, 94, 95, 11, 96, 97, 98] (by decide +kernel) (by decide +kernel)
set_option maxRecDepth 20000 in
theorem ggL_law_L_isRefused_q3 : GoodIn wsL_law wsL_isRefused_r4 := goodIn_r _ [99, 100, 101, 102, 12, 103, 104, 105, 106, 13, 107, 108, 109, 110, 111, 112, 113, 114, 115, 116, 117, 118, 10, 119] (by decide +kernel) (by decide +kernel)
set_option maxRecDepth 20000 in
theorem ggL_law_L_isRefused_q4 : GoodIn wsL_law wsL_isRefused_r5 := goodIn_r _ [120, 121, 122, 26, 123, 124, 125, 126, 127, 128, 129, 130, 131, 132, 133, 134, 135, 136, 137, 138, 139, 140, 141, 142] (by decide +kernel) (by decide +kernel)
set_option maxRecDepth 20000 in
theorem ggL_law_L_isRefused_q5 : GoodIn wsL_law wsL_isRefused_r6 := goodIn_r _ [143, 144, 29, 145, 146, 147, 148, 149, 150, 151, 152, 153, 154, 155, 156, 157, 158, 159, 160, 161, 162, 163, 23, 21] (by decide +kernel) (by decide +kernel)
set_option maxRecDepth 20000 in
theorem ggL_law_L_isRefused_q6 : GoodIn wsL_law wsL_isRefused_r7 := goodIn_r _ [20, 164, 165, 166, 167, 168, 169, 170, 171, 22, 172, 173, 174, 175, 176, 177, 178, 179, 180, 181, 182, 183, 184, 185] (by decide +kernel) (by decide +kernel)
end
section
theorem goodIn_one {big : List Cond} {c : Cond} (i : Nat) (h : big[i]? = some c) (hg : goodWord c = true) : GoodIn big [c] := fun w hw => by rw [List.mem_singleton.mp hw]; exact ⟨List.mem_of_getElem? h, good_of_word hg⟩
set_option maxRecDepth 20000 in
theorem ggL_law_L_isRefused_q7 : GoodIn wsL_law wsL_isRefused_r8 := goodIn_r _ [186, 187, 188, 189, 190, 191, 192, 193, 194, 195, 196, 197, 198, 199, 200, 201, 202, 203, 204, 205, 206, 207, 208, 209] (by decide +kernel) (by decide +kernel)
set_option maxRecDepth 20000 in
theorem ggL_law_L_isRefused_q8 : GoodIn wsL_law wsL_isRefused_r9 := goodIn_r _ [210, 211, 212, 213, 214, 215, 216, 24, 217, 218, 219, 220, 221, 222, 223, 224, 225, 226, 227, 228, 229, 230, 231, 232] (by decide +kernel) (by decide +kernel)
set_option maxRecDepth 20000 in
theorem ggL_law_L_isRefused_q9 : GoodIn wsL_law wsL_isRefused_r10 := goodIn_r _ [233, 234, 235, 236, 237, 238, 239, 240, 241, 242, 243, 244, 245, 246, 247, 248, 249, 250, 251, 252, 253, 254, 255, 256] (by decide +kernel) (by decide +kernel)
set_option maxRecDepth 20000 in
theorem ggL_law_L_isRefused_q10 : GoodIn wsL_law wsL_isRefused_r11 := goodIn_r _ [257, 258, 259, 260, 261, 262, 263, 264, 265, 266, 267, 268, 269, 270, 271, 272, 273, 274, 275, 276, 277, 278, 279, 280] (by decide +kernel) (by decide +kernel)
set_option maxRecDepth 20000 in
theorem ggL_law_L_isRefused_q11 : GoodIn wsL_law wsL_isRefused_r12 := goodIn_r _ [281, 282, 283, 284, 285, 286, 287, 288, 289, 290, 291] (by decide +kernel) (by decide +kernel)
set_option maxRecDepth 20000 in
theorem ggL_law_L_isRefused_qx : GoodIn wsL_law wsX00 := goodIn_r _ [324, 325, 326, 327, 328, 329, 330, 331, 332, 333, 334, 335, 336, 337, 338, 339, 340, 341, 342] (by decide +kernel) (by decide +kernel)
set_option maxRecDepth 20000 in
theorem ggL_law_L_isRefused_qh : GoodIn wsL_law [.code yL_isRefused cL_isRefused 12 (some .boolean)] := goodIn_one 37 rfl (by decide +kernel)
set_option maxRecDepth 20000 in
theorem ggL_law_L_isRefused : GoodIn wsL_law wsL_isRefused := goodIn_ca (goodIn_ca (goodIn_ca (goodIn_cons ggL_law_L_isRefused_qh (goodIn_app (goodIn_app ggL_law_L_isRefused_q0 (goodIn_app ggL_law_L_isRefused_q1 (goodIn_app ggL_law_L_isRefused_q2 (goodIn_app ggL_law_L_isRefused_q3 (goodIn_app ggL_law_L_isRefused_q4 (goodIn_app ggL_law_L_isRefused_q5 (goodIn_app ggL_law_L_isRefused_q6 (goodIn_app ggL_law_L_isRefused_q7 (goodIn_app ggL_law_L_isRefused_q8 (goodIn_app ggL_law_L_isRefused_q9 (goodIn_app ggL_law_L_isRefused_q10 (ggL_law_L_isRefused_q11)))))))))))) ggL_law_L_isRefused_qx)) (goodIn_sub (fun _ h => List.mem_append_left _ (List.mem_append_left _ (List.mem_append_right _ h))) (by decide +kernel))) (goodIn_sub (fun _ h => List.mem_append_left _ (List.mem_append_right _ h)) (by decide +kernel))) (goodIn_sub (fun _ h => List.mem_append_right _ h) (by decide +kernel))
end
section
set_option maxRecDepth 20000 in
theorem gL_law_L_isRefused : GoodIn wsL_law (va_wsS RL 152 yL_isRefused wsL_isRefused) := goodIn_app (goodIn_of _ (by decide +kernel)) ggL_law_L_isRefused
set_option maxRecDepth 20000 in
theorem ggL_law_X0_free : GoodIn wsL_law wsX0_free := goodIn_r _ [291, 14, 324, 325, 326, 327, 328, 329, 330, 331, 332, 333, 334, 335, 336, 337, 338, 339, 340, 341, 342] (by decide +kernel) (by decide +kernel)
set_option maxRecDepth 20000 in
theorem gL_law_X0_free : GoodIn wsL_law (wsV RL 120 RX0 yX0_free wsX0_free) := goodIn_app (goodIn_of _ (by decide +kernel)) ggL_law_X0_free
set_option maxRecDepth 20000 in
theorem ggL_law_L_dice : GoodIn wsL_law wsL_dice := goodIn_r _ [294, 295, 296] (by decide +kernel) (by decide +kernel)
set_option maxRecDepth 20000 in
theorem gL_law_L_dice : GoodIn wsL_law (va_wsS RL 156 yL_dice wsL_dice) := goodIn_app (goodIn_of _ (by decide +kernel)) ggL_law_L_dice
end
section
set_option maxRecDepth 20000 in
theorem ggL_law_L_act_q0 : GoodIn wsL_law wsL_act_r1 := goodIn_r _ [110, 111, 112, 113, 114, 115, 2, 116, 74, 75, 117, 118, 10, 96, 97, 98, 119, 120, 121, 122, 26, 123, 124, 125] (by decide +kernel) (by decide +kernel)
set_option maxRecDepth 20000 in
theorem ggL_law_L_act_q1 : GoodIn wsL_law wsL_act_r2 := goodIn_r _ [126, 127, 128, 12, 11, 14, 15, 129, 130, 131, 132, 16, 67, 68, 69, 133, 134, 135, 136, 137, 138, 139, 140, 18] (by decide +kernel) (by decide +kernel)
set_option maxRecDepth 20000 in
theorem ggL_law_L_act_q2 : GoodIn wsL_law wsL_act_r3 := goodIn_r _ [141, 142, 143, 144, 29, 145, 146, 147, 148, 19, 27, 13, 149, 150, 151, 152, 153, 154, 155, 156, 157, 158, 159, 160] (by decide +kernel) (by decide +kernel)
set_option maxRecDepth 20000 in
theorem ggL_law_L_act_q3 : GoodIn wsL_law wsL_act_r4 := goodIn_r _ [161, 162, 163, 25, 23, 21, 20, 63, 64, 65, 66, 164, 165, 166, 167, 168, 169, 170, 171, 22, 172, 173, 174, 175] (by decide +kernel) (by decide +kernel)
set_option maxRecDepth 20000 in
theorem ggL_law_L_act_q4 : GoodIn wsL_law wsL_act_r5 := goodIn_r _ [176, 177, 178, 179, 180, 181, 182, 183, 88, 89, 90, 91, 184, 185, 186, 187, 188, 189, 190, 191, 192, 193, 194, 195] (by decide +kernel) (by decide +kernel)
end
section
set_option maxRecDepth 20000 in
theorem ggL_law_L_act_q5 : GoodIn wsL_law wsL_act_r6 := goodIn_r _ [196, 197, 198, 199, 200, 201, 202, 203, 204, 205, 206, 207, 208, 209, 210, 211, 212, 213, 214, 215, 216, 24, 217, 218] (by decide +kernel) (by decide +kernel)
set_option maxRecDepth 20000 in
theorem ggL_law_L_act_q6 : GoodIn wsL_law wsL_act_r7 := goodIn_r _ [219, 220, 221, 222, 223, 224, 225, 226, 227, 228, 229, 230, 231, 232, 28, 233, 234, 235, 236, 237, 238, 239, 240, 241] (by decide +kernel) (by decide +kernel)
set_option maxRecDepth 20000 in
theorem ggL_law_L_act_q7 : GoodIn wsL_law wsL_act_r8 := goodIn_r _ [242, 243, 244, 245, 246, 247, 248] (by decide +kernel) (by decide +kernel)
set_option maxRecDepth 20000 in
theorem ggL_law_L_act_qx : GoodIn wsL_law wsX00 := goodIn_r _ [324, 325, 326, 327, 328, 329, 330, 331, 332, 333, 334, 335, 336, 337, 338, 339, 340, 341, 342] (by decide +kernel) (by decide +kernel)
set_option maxRecDepth 20000 in
theorem ggL_law_L_act_qh : GoodIn wsL_law [.codeWith yL_act cL_act 5 (some .int) [(0, 98, 99, 37), (0, 98, 105, 39), (0, 98, 111, 41)]] := goodIn_one 109 rfl (by decide +kernel)
set_option maxRecDepth 20000 in
theorem ggL_law_L_act : GoodIn wsL_law wsL_act := goodIn_ca (goodIn_ca (goodIn_ca (goodIn_cons ggL_law_L_act_qh (goodIn_app (goodIn_app ggL_law_L_act_q0 (goodIn_app ggL_law_L_act_q1 (goodIn_app ggL_law_L_act_q2 (goodIn_app ggL_law_L_act_q3 (goodIn_app ggL_law_L_act_q4 (goodIn_app ggL_law_L_act_q5 (goodIn_app ggL_law_L_act_q6 (ggL_law_L_act_q7)))))))) ggL_law_L_act_qx)) (goodIn_sub (fun _ h => List.mem_append_left _ (List.mem_append_left _ (List.mem_append_right _ h))) (by decide +kernel))) (goodIn_sub (fun _ h => List.mem_append_left _ (List.mem_append_right _ h)) (by decide +kernel))) (goodIn_sub (fun _ h => List.mem_append_right _ h) (by decide +kernel))
end
section
set_option maxRecDepth 20000 in
theorem gL_law_L_act : GoodIn wsL_law (va_wsS RL 131 yL_act wsL_act) := goodIn_app (goodIn_of _ (by decide +kernel)) ggL_law_L_act
set_option maxRecDepth 20000 in
theorem ggL_law_X0_age : GoodIn wsL_law wsX0_age := goodIn_ca (goodIn_r _ [87, 74, 75, 67, 68, 2, 69, 88, 89, 90, 91, 18, 27, 19, 324, 325, 326, 327, 328, 329, 330, 331, 332, 333, 334, 335, 336, 337, 338, 339, 340, 341, 342] (by decide +kernel) (by decide +kernel)) (goodIn_sub (fun _ h => List.mem_append_left _ (List.mem_append_left _ (List.mem_append_right _ h))) (by decide +kernel))
set_option maxRecDepth 20000 in
theorem gL_law_X0_age : GoodIn wsL_law (wsV RL 55 RX0 yX0_age wsX0_age) := goodIn_app (goodIn_of _ (by decide +kernel)) ggL_law_X0_age
set_option maxRecDepth 20000 in
theorem ggL_law_X0_pageIn : GoodIn wsL_law wsX0_pageIn := goodIn_ca (goodIn_r _ [83, 74, 75, 16, 67, 68, 2, 69, 324, 325, 326, 327, 328, 329, 330, 331, 332, 333, 334, 335, 336, 337, 338, 339, 340, 341, 342] (by decide +kernel) (by decide +kernel)) (goodIn_sub (fun _ h => List.mem_append_left _ (List.mem_append_left _ (List.mem_append_right _ h))) (by decide +kernel))
set_option maxRecDepth 20000 in
theorem gL_law_X0_pageIn : GoodIn wsL_law (wsV RL 52 RX0 yX0_pageIn wsX0_pageIn) := goodIn_app (goodIn_of _ (by decide +kernel)) ggL_law_X0_pageIn
set_option maxRecDepth 20000 in
theorem ggL_law_X0_loans : GoodIn wsL_law wsX0_loans := goodIn_r _ [41, 25, 324, 325, 326, 327, 328, 329, 330, 331, 332, 333, 334, 335, 336, 337, 338, 339, 340, 341, 342] (by decide +kernel) (by decide +kernel)
set_option maxRecDepth 20000 in
theorem gL_law_X0_loans : GoodIn wsL_law (wsV RL 105 RX0 yX0_loans wsX0_loans) := goodIn_app (goodIn_of _ (by decide +kernel)) ggL_law_X0_loans
set_option maxRecDepth 20000 in
theorem ggL_law_X0_lasts : GoodIn wsL_law wsX0_lasts := goodIn_ca (goodIn_r _ [271, 74, 75, 23, 192, 193, 194, 2, 195, 25, 324, 325, 326, 327, 328, 329, 330, 331, 332, 333, 334, 335, 336, 337, 338, 339, 340, 341, 342] (by decide +kernel) (by decide +kernel)) (goodIn_sub (fun _ h => List.mem_append_left _ (List.mem_append_left _ (List.mem_append_right _ h))) (by decide +kernel))
set_option maxRecDepth 20000 in
theorem gL_law_X0_lasts : GoodIn wsL_law (wsV RL 76 RX0 yX0_lasts wsX0_lasts) := goodIn_app (goodIn_of _ (by decide +kernel)) ggL_law_X0_lasts
set_option maxRecDepth 20000 in
theorem ggL_law_X0_partiesOf : GoodIn wsL_law wsX0_partiesOf := goodIn_ca (goodIn_r _ [275, 74, 75, 20, 21, 22, 192, 193, 194, 2, 195, 25, 324, 325, 326, 327, 328, 329, 330, 331, 332, 333, 334, 335, 336, 337, 338, 339, 340, 341, 342] (by decide +kernel) (by decide +kernel)) (goodIn_sub (fun _ h => List.mem_append_left _ (List.mem_append_left _ (List.mem_append_right _ h))) (by decide +kernel))
set_option maxRecDepth 20000 in
theorem gL_law_X0_partiesOf : GoodIn wsL_law (wsV RL 80 RX0 yX0_partiesOf wsX0_partiesOf) := goodIn_app (goodIn_of _ (by decide +kernel)) ggL_law_X0_partiesOf
end
section
set_option maxRecDepth 20000 in
theorem ggL_law_L_areFrames_q0 : GoodIn wsL_law wsL_areFrames_r1 := goodIn_r _ [51, 52, 53, 2, 54, 27, 70, 71, 72, 73, 74, 75, 14, 67, 68, 69, 321, 322, 36, 323, 38, 39, 40, 41] (by decide +kernel) (by decide +kernel)
set_option maxRecDepth 20000 in
theorem ggL_law_L_areFrames_q1 : GoodIn wsL_law wsL_areFrames_r2 := goodIn_r _ [25, 268, 269, 270, 271, 23, 192, 193, 194, 195, 272, 273, 274, 275, 20, 21, 22, 76, 77, 78, 79, 15, 252, 253] (by decide +kernel) (by decide +kernel)
set_option maxRecDepth 20000 in
theorem ggL_law_L_areFrames_q2 : GoodIn wsL_law wsL_areFrames_r3 := goodIn_r _ [254, 255, 99, 100, 101, 102, 12, 96, 97, 98, 80, 81, 82, 83, 16, 84, 85, 86, 87, 88, 89, 90, 91, 18] (by decide +kernel) (by decide +kernel)
set_option maxRecDepth 20000 in
theorem ggL_law_L_areFrames_q3 : GoodIn wsL_law wsL_areFrames_r4 := goodIn_r _ [19, 280, 281, 282, 283, 284, 285, 286, 287, 63, 64, 65, 66, 241, 242, 243, 244, 256, 257, 258, 259, 260, 261, 262] (by decide +kernel) (by decide +kernel)
end
section
set_option maxRecDepth 20000 in
theorem ggL_law_L_areFrames_q4 : GoodIn wsL_law wsL_areFrames_r5 := goodIn_r _ [263, 172, 173, 174, 175, 264, 265, 266, 267, 92, 93, 94, 95, 11, 288, 289, 290, 291, 59, 60, 61, 62] (by decide +kernel) (by decide +kernel)
set_option maxRecDepth 20000 in
theorem ggL_law_L_areFrames_qx : GoodIn wsL_law wsX00 := goodIn_r _ [324, 325, 326, 327, 328, 329, 330, 331, 332, 333, 334, 335, 336, 337, 338, 339, 340, 341, 342] (by decide +kernel) (by decide +kernel)
set_option maxRecDepth 20000 in
theorem ggL_law_L_areFrames_qh : GoodIn wsL_law [.code yL_areFrames cL_areFrames 12 (some .boolean)] := goodIn_one 320 rfl (by decide +kernel)
set_option maxRecDepth 20000 in
theorem ggL_law_L_areFrames : GoodIn wsL_law wsL_areFrames := goodIn_ca (goodIn_cons ggL_law_L_areFrames_qh (goodIn_app (goodIn_app ggL_law_L_areFrames_q0 (goodIn_app ggL_law_L_areFrames_q1 (goodIn_app ggL_law_L_areFrames_q2 (goodIn_app ggL_law_L_areFrames_q3 (ggL_law_L_areFrames_q4))))) ggL_law_L_areFrames_qx)) (goodIn_sub (fun _ h => List.mem_append_left _ (List.mem_append_left _ (List.mem_append_right _ h))) (by decide +kernel))
end
section
set_option maxRecDepth 20000 in
theorem gL_law_L_areFrames : GoodIn wsL_law (va_wsS RL 172 yL_areFrames wsL_areFrames) := goodIn_app (goodIn_of _ (by decide +kernel)) ggL_law_L_areFrames
theorem dL_law_0 : decode cL_law 0 = .ok (.new 10, 3) := by decide +kernel
theorem dL_law_3 : decode cL_law 3 = .ok (.dup, 1) := by decide +kernel
theorem dL_law_4 : decode cL_law 4 = .ok (.invokespecial 151, 3) := by decide +kernel
theorem dL_law_7 : decode cL_law 7 = .ok (.astore_n 1, 1) := by decide +kernel
theorem dL_law_8 : decode cL_law 8 = .ok (.bipush 48, 2) := by decide +kernel
theorem dL_law_10 : decode cL_law 10 = .ok (.newarray .int, 2) := by decide +kernel
theorem dL_law_12 : decode cL_law 12 = .ok (.astore_n 2, 1) := by decide +kernel
theorem dL_law_13 : decode cL_law 13 = .ok (.bipush 10, 2) := by decide +kernel
theorem dL_law_15 : decode cL_law 15 = .ok (.newarray .int, 2) := by decide +kernel
theorem dL_law_17 : decode cL_law 17 = .ok (.astore_n 3, 1) := by decide +kernel
theorem dL_law_18 : decode cL_law 18 = .ok (.iconst 1, 1) := by decide +kernel
theorem dL_law_19 : decode cL_law 19 = .ok (.istore 4, 2) := by decide +kernel
theorem dL_law_21 : decode cL_law 21 = .ok (.aload_n 1, 1) := by decide +kernel
theorem dL_law_22 : decode cL_law 22 = .ok (.iconst 0, 1) := by decide +kernel
theorem dL_law_23 : decode cL_law 23 = .ok (.invokestatic 152, 3) := by decide +kernel
theorem dL_law_26 : decode cL_law 26 = .ok (.ifCond .eq 24, 3) := by decide +kernel
theorem dL_law_29 : decode cL_law 29 = .ok (.aload_n 1, 1) := by decide +kernel
theorem dL_law_30 : decode cL_law 30 = .ok (.iconst 1, 1) := by decide +kernel
theorem dL_law_31 : decode cL_law 31 = .ok (.invokestatic 152, 3) := by decide +kernel
theorem dL_law_34 : decode cL_law 34 = .ok (.ifCond .eq 16, 3) := by decide +kernel
theorem dL_law_37 : decode cL_law 37 = .ok (.aload_n 1, 1) := by decide +kernel
theorem dL_law_38 : decode cL_law 38 = .ok (.invokevirtual 120, 3) := by decide +kernel
theorem dL_law_41 : decode cL_law 41 = .ok (.bipush 12, 2) := by decide +kernel
theorem dL_law_43 : decode cL_law 43 = .ok (.if_icmp .ne 7, 3) := by decide +kernel
theorem dL_law_46 : decode cL_law 46 = .ok (.iconst 1, 1) := by decide +kernel
theorem dL_law_47 : decode cL_law 47 = .ok (.goto 4, 3) := by decide +kernel
theorem dL_law_51 : decode cL_law 51 = .ok (.istore 5, 2) := by decide +kernel
theorem dL_law_53 : decode cL_law 53 = .ok (.iconst 0, 1) := by decide +kernel
theorem dL_law_54 : decode cL_law 54 = .ok (.istore 6, 2) := by decide +kernel
theorem dL_law_56 : decode cL_law 56 = .ok (.iload 6, 2) := by decide +kernel
theorem dL_law_58 : decode cL_law 58 = .ok (.bipush 110, 2) := by decide +kernel
theorem dL_law_60 : decode cL_law 60 = .ok (.if_icmp .ge 557, 3) := by decide +kernel
theorem dL_law_63 : decode cL_law 63 = .ok (.iload 5, 2) := by decide +kernel
theorem dL_law_65 : decode cL_law 65 = .ok (.ifCond .eq 552, 3) := by decide +kernel
theorem dL_law_68 : decode cL_law 68 = .ok (.aload_n 0, 1) := by decide +kernel
theorem dL_law_69 : decode cL_law 69 = .ok (.iload 6, 2) := by decide +kernel
theorem dL_law_71 : decode cL_law 71 = .ok (.invokestatic 156, 3) := by decide +kernel
theorem dL_law_74 : decode cL_law 74 = .ok (.istore 7, 2) := by decide +kernel
theorem dL_law_76 : decode cL_law 76 = .ok (.iload 7, 2) := by decide +kernel
theorem dL_law_78 : decode cL_law 78 = .ok (.bipush 32, 2) := by decide +kernel
theorem dL_law_80 : decode cL_law 80 = .ok (.idiv, 1) := by decide +kernel
theorem dL_law_81 : decode cL_law 81 = .ok (.istore 8, 2) := by decide +kernel
theorem dL_law_83 : decode cL_law 83 = .ok (.iload 7, 2) := by decide +kernel
theorem dL_law_85 : decode cL_law 85 = .ok (.bipush 32, 2) := by decide +kernel
theorem dL_law_87 : decode cL_law 87 = .ok (.irem, 1) := by decide +kernel
theorem dL_law_88 : decode cL_law 88 = .ok (.istore 9, 2) := by decide +kernel
theorem dL_law_90 : decode cL_law 90 = .ok (.iload 8, 2) := by decide +kernel
theorem dL_law_92 : decode cL_law 92 = .ok (.iconst 5, 1) := by decide +kernel
theorem dL_law_93 : decode cL_law 93 = .ok (.irem, 1) := by decide +kernel
theorem dL_law_94 : decode cL_law 94 = .ok (.istore 10, 2) := by decide +kernel
theorem dL_law_96 : decode cL_law 96 = .ok (.iload 9, 2) := by decide +kernel
theorem dL_law_98 : decode cL_law 98 = .ok (.iconst 3, 1) := by decide +kernel
theorem dL_law_99 : decode cL_law 99 = .ok (.if_icmp .ge 57, 3) := by decide +kernel
theorem dL_law_156 : decode cL_law 156 = .ok (.iload 9, 2) := by decide +kernel
theorem dL_law_158 : decode cL_law 158 = .ok (.iconst 3, 1) := by decide +kernel
theorem dL_law_159 : decode cL_law 159 = .ok (.if_icmp .ne 48, 3) := by decide +kernel
theorem dL_law_207 : decode cL_law 207 = .ok (.iload 9, 2) := by decide +kernel
theorem dL_law_209 : decode cL_law 209 = .ok (.bipush 9, 2) := by decide +kernel
theorem dL_law_211 : decode cL_law 211 = .ok (.if_icmp .ge 33, 3) := by decide +kernel
theorem dL_law_244 : decode cL_law 244 = .ok (.iload 9, 2) := by decide +kernel
theorem dL_law_246 : decode cL_law 246 = .ok (.bipush 9, 2) := by decide +kernel
theorem dL_law_248 : decode cL_law 248 = .ok (.if_icmp .ne 76, 3) := by decide +kernel
theorem dL_law_251 : decode cL_law 251 = .ok (.aload_n 1, 1) := by decide +kernel
theorem dL_law_252 : decode cL_law 252 = .ok (.iload 8, 2) := by decide +kernel
theorem dL_law_254 : decode cL_law 254 = .ok (.bipush 12, 2) := by decide +kernel
theorem dL_law_256 : decode cL_law 256 = .ok (.irem, 1) := by decide +kernel
theorem dL_law_257 : decode cL_law 257 = .ok (.invokevirtual 55, 3) := by decide +kernel
theorem dL_law_260 : decode cL_law 260 = .ok (.ifCond .ge 9, 3) := by decide +kernel
theorem dL_law_263 : decode cL_law 263 = .ok (.sipush (-1213), 3) := by decide +kernel
theorem dL_law_266 : decode cL_law 266 = .ok (.goto 12, 3) := by decide +kernel
theorem dL_law_278 : decode cL_law 278 = .ok (.istore 11, 2) := by decide +kernel
theorem dL_law_280 : decode cL_law 280 = .ok (.aload_n 1, 1) := by decide +kernel
theorem dL_law_281 : decode cL_law 281 = .ok (.iconst 4, 1) := by decide +kernel
theorem dL_law_282 : decode cL_law 282 = .ok (.iload 8, 2) := by decide +kernel
theorem dL_law_284 : decode cL_law 284 = .ok (.bipush 12, 2) := by decide +kernel
theorem dL_law_286 : decode cL_law 286 = .ok (.irem, 1) := by decide +kernel
theorem dL_law_287 : decode cL_law 287 = .ok (.iconst 0, 1) := by decide +kernel
theorem dL_law_288 : decode cL_law 288 = .ok (.invokestatic 131, 3) := by decide +kernel
theorem dL_law_291 : decode cL_law 291 = .ok (.iload 11, 2) := by decide +kernel
theorem dL_law_293 : decode cL_law 293 = .ok (.if_icmp .ne 25, 3) := by decide +kernel
theorem dL_law_296 : decode cL_law 296 = .ok (.iload 11, 2) := by decide +kernel
theorem dL_law_298 : decode cL_law 298 = .ok (.ifCond .lt 16, 3) := by decide +kernel
theorem dL_law_314 : decode cL_law 314 = .ok (.iconst 1, 1) := by decide +kernel
theorem dL_law_315 : decode cL_law 315 = .ok (.goto 4, 3) := by decide +kernel
theorem dL_law_319 : decode cL_law 319 = .ok (.istore 5, 2) := by decide +kernel
theorem dL_law_321 : decode cL_law 321 = .ok (.goto 245, 3) := by decide +kernel
theorem dL_law_566 : decode cL_law 566 = .ok (.iload 5, 2) := by decide +kernel
theorem dL_law_568 : decode cL_law 568 = .ok (.ifCond .eq 40, 3) := by decide +kernel
theorem dL_law_571 : decode cL_law 571 = .ok (.iload 6, 2) := by decide +kernel
theorem dL_law_573 : decode cL_law 573 = .ok (.iconst 2, 1) := by decide +kernel
theorem dL_law_574 : decode cL_law 574 = .ok (.irem, 1) := by decide +kernel
theorem dL_law_575 : decode cL_law 575 = .ok (.ifCond .gt 10, 3) := by decide +kernel
theorem dL_law_578 : decode cL_law 578 = .ok (.aload_n 1, 1) := by decide +kernel
theorem dL_law_579 : decode cL_law 579 = .ok (.invokestatic 172, 3) := by decide +kernel
theorem dL_law_582 : decode cL_law 582 = .ok (.ifCond .eq 26, 3) := by decide +kernel
theorem dL_law_585 : decode cL_law 585 = .ok (.iload 6, 2) := by decide +kernel
theorem dL_law_587 : decode cL_law 587 = .ok (.bipush 22, 2) := by decide +kernel
theorem dL_law_589 : decode cL_law 589 = .ok (.irem, 1) := by decide +kernel
theorem dL_law_590 : decode cL_law 590 = .ok (.ifCond .gt 14, 3) := by decide +kernel
theorem dL_law_593 : decode cL_law 593 = .ok (.aload_n 1, 1) := by decide +kernel
theorem dL_law_594 : decode cL_law 594 = .ok (.iload 7, 2) := by decide +kernel
theorem dL_law_596 : decode cL_law 596 = .ok (.iconst 3, 1) := by decide +kernel
theorem dL_law_597 : decode cL_law 597 = .ok (.idiv, 1) := by decide +kernel
theorem dL_law_598 : decode cL_law 598 = .ok (.invokestatic 152, 3) := by decide +kernel
theorem dL_law_601 : decode cL_law 601 = .ok (.ifCond .eq 7, 3) := by decide +kernel
theorem dL_law_604 : decode cL_law 604 = .ok (.iconst 1, 1) := by decide +kernel
theorem dL_law_605 : decode cL_law 605 = .ok (.goto 4, 3) := by decide +kernel
theorem dL_law_609 : decode cL_law 609 = .ok (.istore 5, 2) := by decide +kernel
theorem dL_law_611 : decode cL_law 611 = .ok (.iinc 6 1, 3) := by decide +kernel
theorem dL_law_614 : decode cL_law 614 = .ok (.goto (-558), 3) := by decide +kernel
theorem dL_law_617 : decode cL_law 617 = .ok (.iload 5, 2) := by decide +kernel
theorem dL_law_619 : decode cL_law 619 = .ok (.ireturn, 1) := by decide +kernel
end
section
/-! THE WORLD OF ONE OBJECT AND ITS ROWS: st 0 j is the number in the field j, st (j + 1) the row that the field j points to; ly: for each field the length of its row (0: a number) and whether it holds booleans; al 0 the object, al (j + 1) the row of the field j. -/
abbrev ST : Type := Nat → Nat → Int32
abbrev Res : Type := Nat × Int32 × ST
abbrev LY : Type := List (Nat × Bool)
def oz_us (st : ST) (k : Nat) (f : Nat → Int32) : ST := fun a => if a = k then f else st a
/-- one number of a row (or, in row 0, of a field) is changed -/
def oz_se (st : ST) (k i : Nat) (v : Int32) : ST := oz_us st k (upd (st k) i v)
def oz_fl (ad : Nat → Nat) (st : ST) : Nat → LY → List Value
  | _, [] => []
  | j, (0, _) :: r => .int (st 0 j) :: oz_fl ad st (j + 1) r
  | j, (_ + 1, _) :: r => .ref (ad (j + 1)) :: oz_fl ad st (j + 1) r
def oz_al (cI cZ : ClassId) (ad : Nat → Nat) (st : ST) : Nat → LY → va_W
  | _, [] => []
  | j, (0, _) :: r => oz_al cI cZ ad st (j + 1) r
  | j, (n + 1, b) :: r => (ad (j + 1), .inl (if b then cZ else cI, n + 1, .inl (st (j + 1)))) :: oz_al cI cZ ad st (j + 1) r
def oz_wd (ci : Nat) (cI cZ : ClassId) (ad : Nat → Nat) (ly : LY) (st : ST) : va_W := (ad 0, .inr (ci, oz_fl ad st 0 ly)) :: oz_al cI cZ ad st 0 ly
theorem oz_us_same (st : ST) (k : Nat) (f : Nat → Int32) : oz_us st k f k = f := by simp [oz_us]
theorem oz_us_ne (st : ST) {k a : Nat} (f : Nat → Int32) (h : a ≠ k) : oz_us st k f a = st a := by simp [oz_us, h]
theorem oz_se_at (st : ST) (k i : Nat) (v : Int32) (a b : Nat) : oz_se st k i v a b = if a = k ∧ b = i then v else st a b := by
  by_cases h : a = k
  · subst h
    by_cases h2 : b = i
    · simp [oz_se, oz_us, upd, h2]
    · simp [oz_se, oz_us, upd, h2]
  · simp [oz_se, oz_us, h]
theorem oz_fl_len (ad : Nat → Nat) (st : ST) : ∀ (ly : LY) (j : Nat), (oz_fl ad st j ly).length = ly.length
  | [], _ => rfl
  | (0, _) :: r, j => by simp [oz_fl, oz_fl_len ad st r]
  | (_ + 1, _) :: r, j => by simp [oz_fl, oz_fl_len ad st r]
theorem oz_fl_int (ad : Nat → Nat) (st : ST) : ∀ (ly : LY) (j i : Nat) {b : Bool}, ly[i]? = some (0, b) → (oz_fl ad st j ly)[i]? = some (.int (st 0 (j + i)))
  | [], _, _, _, h => by simp at h
  | (0, _) :: r, j, 0, _, h => by simp [oz_fl]
  | (_ + 1, _) :: r, j, 0, _, h => by simp at h
  | (0, _) :: r, j, i + 1, _, h => by
    have := oz_fl_int ad st r (j + 1) i (by simpa using h)
    simp only [oz_fl, List.getElem?_cons_succ]
    rw [this, show j + 1 + i = j + (i + 1) by omega]
  | (_ + 1, _) :: r, j, i + 1, _, h => by
    have := oz_fl_int ad st r (j + 1) i (by simpa using h)
    simp only [oz_fl, List.getElem?_cons_succ]
    rw [this, show j + 1 + i = j + (i + 1) by omega]
theorem oz_fl_ref (ad : Nat → Nat) (st : ST) : ∀ (ly : LY) (j i : Nat) {n : Nat} {b : Bool}, ly[i]? = some (n + 1, b) → (oz_fl ad st j ly)[i]? = some (.ref (ad (j + i + 1)))
  | [], _, _, _, _, h => by simp at h
  | (0, _) :: r, j, 0, _, _, h => by simp at h
  | (_ + 1, _) :: r, j, 0, _, _, h => by simp [oz_fl]
  | (0, _) :: r, j, i + 1, _, _, h => by
    have := oz_fl_ref ad st r (j + 1) i (by simpa using h)
    simp only [oz_fl, List.getElem?_cons_succ]
    rw [this, show j + 1 + i + 1 = j + (i + 1) + 1 by omega]
  | (_ + 1, _) :: r, j, i + 1, _, _, h => by
    have := oz_fl_ref ad st r (j + 1) i (by simpa using h)
    simp only [oz_fl, List.getElem?_cons_succ]
    rw [this, show j + 1 + i + 1 = j + (i + 1) + 1 by omega]
theorem oz_fl_cong (ad : Nat → Nat) {st st2 : ST} : ∀ (ly : LY) (j : Nat), (∀ a, j ≤ a → st 0 a = st2 0 a) → oz_fl ad st j ly = oz_fl ad st2 j ly
  | [], _, _ => rfl
  | (0, _) :: r, j, h => by simp only [oz_fl]; rw [h j (Nat.le_refl j), oz_fl_cong ad r (j + 1) (fun a q => h a (by omega))]
  | (_ + 1, _) :: r, j, h => by simp only [oz_fl]; rw [oz_fl_cong ad r (j + 1) (fun a q => h a (by omega))]
theorem oz_fl_set (ad : Nat → Nat) (st : ST) (v : Int32) : ∀ (ly : LY) (j i : Nat) {b : Bool}, ly[i]? = some (0, b) → (oz_fl ad st j ly).set i (.int v) = oz_fl ad (oz_se st 0 (j + i) v) j ly
  | [], _, _, _, h => by simp at h
  | (0, _) :: r, j, 0, _, h => by
    simp only [oz_fl, List.set_cons_zero]
    rw [oz_se_at, if_pos ⟨rfl, rfl⟩, oz_fl_cong ad (st := st) (st2 := oz_se st 0 (j + 0) v) r (j + 1) (fun a q => by rw [oz_se_at, if_neg (by omega)])]
  | (_ + 1, _) :: r, j, 0, _, h => by simp at h
  | (0, _) :: r, j, i + 1, _, h => by
    have := oz_fl_set ad st v r (j + 1) i (by simpa using h)
    simp only [oz_fl, List.set_cons_succ]
    rw [this, show j + 1 + i = j + (i + 1) by omega, oz_se_at, if_neg (by omega)]
  | (_ + 1, _) :: r, j, i + 1, _, h => by
    have := oz_fl_set ad st v r (j + 1) i (by simpa using h)
    simp only [oz_fl, List.set_cons_succ]
    rw [this, show j + 1 + i = j + (i + 1) by omega]
theorem oz_al_cong (cI cZ : ClassId) (ad : Nat → Nat) {st st2 : ST} : ∀ (ly : LY) (j : Nat), (∀ a, j < a → st a = st2 a) → oz_al cI cZ ad st j ly = oz_al cI cZ ad st2 j ly
  | [], _, _ => rfl
  | (0, _) :: r, j, h => by simp only [oz_al]; exact oz_al_cong cI cZ ad r (j + 1) (fun a q => h a (by omega))
  | (_ + 1, _) :: r, j, h => by simp only [oz_al]; rw [h (j + 1) (by omega), oz_al_cong cI cZ ad r (j + 1) (fun a q => h a (by omega))]
theorem oz_al_get (cI cZ : ClassId) (ad : Nat → Nat) (st : ST) : ∀ (ly : LY) (j i : Nat) {n : Nat} {b : Bool}, ly[i]? = some (n + 1, b) →
    ∃ q, (oz_al cI cZ ad st j ly)[q]? = some (ad (j + i + 1), .inl (if b then cZ else cI, n + 1, .inl (st (j + i + 1)))) ∧ ∀ f, (oz_al cI cZ ad st j ly).set q (ad (j + i + 1), .inl (if b then cZ else cI, n + 1, .inl f)) = oz_al cI cZ ad (oz_us st (j + i + 1) f) j ly
  | [], _, _, _, _, h => by simp at h
  | (0, _) :: r, j, 0, _, _, h => by simp at h
  | (m + 1, b0) :: r, j, 0, n, b, h => by
    have h1 : m = n ∧ b0 = b := by simpa using h
    obtain ⟨rfl, rfl⟩ := h1
    refine ⟨0, by simp [oz_al], fun f => ?_⟩
    simp only [oz_al, List.set_cons_zero, Nat.add_zero]
    rw [oz_us_same, oz_al_cong cI cZ ad (st := st) (st2 := oz_us st (j + 1) f) r (j + 1) (fun a q => (oz_us_ne st f (by omega)).symm)]
  | (0, _) :: r, j, i + 1, n, b, h => by
    obtain ⟨q, h1, h2⟩ := oz_al_get cI cZ ad st r (j + 1) i (by simpa using h)
    have e : j + 1 + i + 1 = j + (i + 1) + 1 := by omega
    rw [e] at h1 h2
    exact ⟨q, by simpa only [oz_al] using h1, fun f => by simpa only [oz_al] using h2 f⟩
  | (m + 1, b0) :: r, j, i + 1, n, b, h => by
    obtain ⟨q, h1, h2⟩ := oz_al_get cI cZ ad st r (j + 1) i (by simpa using h)
    have e : j + 1 + i + 1 = j + (i + 1) + 1 := by omega
    rw [e] at h1 h2
    refine ⟨q + 1, by simpa only [oz_al, List.getElem?_cons_succ] using h1, fun f => ?_⟩
    simp only [oz_al, List.set_cons_succ]
    rw [h2 f, oz_us_ne st f (by omega)]
/-- the object's own cell, and a row's, in the world -/
theorem oz_wd_obj (ci : Nat) (cI cZ : ClassId) (ad : Nat → Nat) (ly : LY) (st : ST) : (oz_wd ci cI cZ ad ly st)[0]? = some (ad 0, .inr (ci, oz_fl ad st 0 ly)) := rfl
theorem oz_wd_put (ci : Nat) (cI cZ : ClassId) (ad : Nat → Nat) (ly : LY) (st : ST) {k : Nat} {b : Bool} (h : ly[k]? = some (0, b)) (v : Int32) : (oz_wd ci cI cZ ad ly st).set 0 (ad 0, .inr (ci, (oz_fl ad st 0 ly).set k (.int v))) = oz_wd ci cI cZ ad ly (oz_se st 0 k v) := by
  unfold oz_wd
  rw [List.set_cons_zero, oz_fl_set ad st v ly 0 k h, Nat.zero_add]
  rw [oz_al_cong cI cZ ad (st := st) (st2 := oz_se st 0 k v) ly 0 (fun a q => (oz_us_ne st _ (by omega)).symm)]
theorem oz_wd_get (ci : Nat) (cI cZ : ClassId) (ad : Nat → Nat) (ly : LY) (st : ST) {k n : Nat} {b : Bool} (h : ly[k]? = some (n + 1, b)) :
    ∃ q, (oz_wd ci cI cZ ad ly st)[q]? = some (ad (k + 1), .inl (if b then cZ else cI, n + 1, .inl (st (k + 1)))) ∧ ∀ i v, (oz_wd ci cI cZ ad ly st).set q (ad (k + 1), .inl (if b then cZ else cI, n + 1, .inl (upd (st (k + 1)) i v))) = oz_wd ci cI cZ ad ly (oz_se st (k + 1) i v) := by
  obtain ⟨q, h1, h2⟩ := oz_al_get cI cZ ad st ly 0 k h
  rw [Nat.zero_add] at h1 h2
  refine ⟨q + 1, h1, fun i v => ?_⟩
  unfold oz_wd
  rw [List.set_cons_succ, h2]
  rw [oz_fl_cong ad (st := st) (st2 := oz_se st (k + 1) i v) ly 0 (fun a _ => by rw [oz_se_at, if_neg (by omega)])]
  rfl
/-- the addresses don't depend on what the cells hold -/
theorem oz_al_fst (cI cZ : ClassId) (ad : Nat → Nat) (st st2 : ST) : ∀ (ly : LY) (j : Nat), (oz_al cI cZ ad st j ly).map Prod.fst = (oz_al cI cZ ad st2 j ly).map Prod.fst
  | [], _ => rfl
  | (0, _) :: r, j => by simp only [oz_al]; exact oz_al_fst cI cZ ad st st2 r (j + 1)
  | (_ + 1, _) :: r, j => by simp only [oz_al, List.map_cons]; rw [oz_al_fst cI cZ ad st st2 r (j + 1)]
theorem oz_wd_fst (ci : Nat) (cI cZ : ClassId) (ad : Nat → Nat) (ly : LY) (st st2 : ST) : (oz_wd ci cI cZ ad ly st).map Prod.fst = (oz_wd ci cI cZ ad ly st2).map Prod.fst := by
  simp only [oz_wd, List.map_cons]
  rw [oz_al_fst cI cZ ad st st2 ly 0]
theorem oz_fst_get {ws ws2 : va_W} (h : ws.map Prod.fst = ws2.map Prod.fst) {k : Nat} {q : Nat × va_E} (hk : ws[k]? = some q) : ∃ e, ws2[k]? = some (q.1, e) := by
  have h1 : (ws.map Prod.fst)[k]? = some q.1 := by rw [List.getElem?_map, hk]; rfl
  rw [h, List.getElem?_map] at h1
  cases h2 : ws2[k]? with
  | none => rw [h2] at h1; cases h1
  | some r => rw [h2] at h1; obtain ⟨a, e⟩ := r; cases h1; exact ⟨e, rfl⟩
theorem oz_D_cong {A : Nat → Prop} {ws ws2 : va_W} (h : ws.map Prod.fst = ws2.map Prod.fst) (hD : va_D A ws) : va_D A ws2 := by
  refine ⟨fun i j p q hi hj hpq => ?_, fun k q hk => ?_⟩
  · obtain ⟨e1, h1⟩ := oz_fst_get h.symm hi
    obtain ⟨e2, h2⟩ := oz_fst_get h.symm hj
    exact hD.1 i j _ _ h1 h2 hpq
  · obtain ⟨e1, h1⟩ := oz_fst_get h.symm hk
    exact hD.2 k (q.1, e1) h1
theorem oz_A_cong {ws ws2 : va_W} (h : ws.map Prod.fst = ws2.map Prod.fst) (sz q : Nat) (k : va_A ws sz q) : va_A ws2 sz q := by
  rcases k with ⟨k, e, hk⟩ | k
  · obtain ⟨e2, h2⟩ := oz_fst_get h hk
    exact Or.inl ⟨k, e2, h2⟩
  · exact Or.inr k
end
section
section VY
variable {p : Program} {l : Launch} {e : Env} {R : Room} {s : State} {m : MethodId} {args : Array Value} {below : List Frame} {meth : Method} {c : Code} {H : Heap} {locs : List Loc} {cells slots : Nat} {Q : State → Prop}
variable {mc ms : Nat} {free : Addr → Prop} {A0 A1 : Nat → Prop} {H0 : Heap} {a : Array Value} {ls : Array Slot} {st0 rest : List Value}
variable {Qc : Array Value → State → Outcome → State → Prop} {XC : String → State → State → Prop}
/-- as vx_throwS, and the heap has a cell more -/
theorem vy_throwS {cc : ByteArray} {pc : Nat} (hexec : p.tables.exec = Jvm.exec) (hb : c.code = cc) (hl : l.stackTraces = false) {own cls text : String} {names : List String} {ik is ic mc ms sa : Nat} {A : Nat → Prop}
    (hown : s.vm.findClass own = some m.cls) (hcls : Bundle.fit cls = true) (hnames : ∀ n ∈ names, Bundle.fit n = true)
    (hk : (Cond.classLink own ik cls).before args s = true) (hini : (Cond.initialized cls).before args s = true) (hstr : vk_R own is text sa s) (hat : ∀ w ∈ vx_atS own ic cls names, w.before args s = true)
    (hgood : ∀ w ∈ Cond.classLink own ik cls :: Cond.initialized cls :: vx_atS own ic cls names, vx_ot w = true)
    (hU : vx_Zq Bundle.tN "UNASSIGNED_STACK" Bundle.steD A s s.heap) (hN : vx_Zq Bundle.tN "SUPPRESSED_SENTINEL" Bundle.listD A s s.heap) (hS : va_S A s.heap H locs) (hsize : ls.size = c.maxLocals)
    (d0 : decode cc pc = .ok (.new ik, 3)) (d3 : decode cc (pc + 3) = .ok (.dup, 1)) (d4 : decode cc (pc + 4) = .ok (.ldc is, 2)) (d6 : decode cc (pc + 6) = .ok (.invokespecial ic, 3)) (d9 : decode cc (pc + 9) = .ok (.athrow, 1))
    (hout : ∀ x ∈ c.exceptionTable.toList, covers x (pc + 9) = false)
    (hRframes : names.length + 3 < R.frames) (hRlocals : (rest.map fun v => v.category).sum + (13 * (names.length + 1) + 43) ≤ R.locals) (hRcells : cells + 1 ≤ R.cells) (hRslots : slots + 6 ≤ R.slots) (hlocks : meth.locks = false)
    (hx : ∀ t : State, s.vm.Alike t.vm → H.size + 1 ≤ t.heap.size → (∀ q : Nat, q < H.size → t.heap[q]? = H[q]?) → XC cls s t)
    (hf : ∀ z ∈ locs, free z.base) (hc : cells + 1 ≤ mc) (hs : slots + 6 ≤ ms) :
    W p l e R s m args below meth c H locs cells slots (vx_MQ below Qc XC args s mc ms free) (F0 m pc ls rest) := by
  intro T hT X
  have htr : e.platform.stackTraces = false := (show e.platform.stackTraces = l.stackTraces by rw [X.admits.platform]).trans hl
  have Y := vx_rebase X (R' := { frames := R.frames, locals := R.locals, cells := 1, slots := 6 }) (Nat.le_refl _) (Nat.le_refl _) hRcells hRslots
  obtain ⟨s', hA⟩ : ∃ z, z = (T.setVm s.vm).setFrames (.invoking m args :: below) := ⟨_, rfl⟩
  rw [← hA] at Y
  have hvm : s'.vm = s.vm := by rw [hA]; rfl
  have hhp : s'.heap = H := by rw [hA]; exact hT
  have hW0 : s.WarmedH s'.vm := by rw [hvm]; exact State.WarmedH.refl s
  have hat' : ∀ w ∈ vx_atS own ic cls names, w.before args s' = true := fun w hw => vx_ot_at hW0 hvm.symm (hgood w (List.mem_cons_of_mem _ (List.mem_cons_of_mem _ hw))) (hat w hw)
  have hk' : (Cond.classLink own ik cls).before args s' = true := vx_ot_at hW0 hvm.symm (hgood _ List.mem_cons_self) hk
  have hini' : (Cond.initialized cls).before args s' = true := vx_ot_at hW0 hvm.symm (hgood _ (List.mem_cons_of_mem _ List.mem_cons_self)) hini
  have hU' : vx_Zq Bundle.tN "UNASSIGNED_STACK" Bundle.steD A s' s'.heap := by rw [hhp]; exact vx_Zq.moved hW0.alike (hU.kept hS.2.1)
  have hN' : vx_Zq Bundle.tN "SUPPRESSED_SENTINEL" Bundle.listD A s' s'.heap := by rw [hhp]; exact vx_Zq.moved hW0.alike (hN.kept hS.2.1)
  have h : ∀ w ∈ Bundle.ownAtoms own ic cls names, w.before args s' = true := vx_own hat' (vx_isRefq hU'.1) (vx_isRefq hN'.1) hU'.2.word hN'.2.word
  have hown' : s'.vm.findClass own = some m.cls := by rw [hvm]; exact hown
  have hins : (Cond.instantiable cls 6).before args s' = true := h _ (by simp [Bundle.ownAtoms])
  obtain ⟨vm₁, cX, kX, hfX, hkX, -, -, X₁, st1⟩ := Y.newCold hexec (own := own) (C := cls) (index := ik) (n := 6) hown' hk' hins hini'
    (g := F0 m pc ls rest) rfl (by rw [hb]; exact d0) (Nat.le_refl _) (Nat.le_refl _)
  generalize hT1 : (T.setVm vm₁).pushCell { cls := cX, slots := kX.instanceTypes.map defaultValue, vm := .none } = T1 at X₁ st1
  have hcat : (Value.ref T.heap.size).category = 1 := rfl
  have hcellA : T1.heap[T.heap.size]? = some (freshCell cX kX) := by rw [← hT1]; exact State.heap_pushCell_size _ _
  have d3' : decode c.code (pc + 3) = .ok (.dup, 1) := by rw [hb]; exact d3
  have d4' : decode c.code (pc + 4) = .ok (.ldc is, 2) := by rw [hb]; exact d4
  have hstr' : vk_R own is text sa s' := vk_R.warm hW0 hstr
  obtain ⟨U, hsteps, hrun, hend, hW, hsame, ce, hce, hO⟩ := X₁.ctorThrowS hexec htr (own := own) (cls := cls) (names := names) (ic := ic) hown' hcls hnames h (fun x hx => nomatch hx) hfX hkX hcellA (by rw [hhp, hT]; exact Nat.le_refl _) (msg := .ref sa) rfl
    (g := { method := m, pc := pc + 6, locals := ls, stack := .ref sa :: .ref T.heap.size :: .ref T.heap.size :: rest, locked := none }) rfl hsize rfl rfl (rest := rest) rfl
    (by rw [hb]; exact d6) (by rw [hb]; exact d9) hout hRframes (by simp only [List.map_cons, List.sum_cons, hcat]; omega) hlocks
  obtain ⟨f1, f2⟩ := vx_frame hsame
  rw [hhp] at f1 f2
  have hWs : s.WarmedH U.vm := State.WarmedH.trans hW0 hW
  have hcl : s.vm.findClass cls = some ce.cls := by
    have h9 := hO.cls
    rw [hvm] at h9
    exact h9
  have hall : s.sameButNew ({ U with vm := s.vm } : State) locs mc ms := by
    subst hA
    obtain ⟨e1, e2⟩ := hsame
    rw [State.setFrames_setFrames] at e1
    have h2 : (T.setVm s.vm).sameButNew ({ U with vm := s.vm } : State) [] (0 + 1) (0 + 6) := ⟨e1, e2⟩
    have h3 := X.same.trans h2
    rw [List.append_nil] at h3
    exact h3.mono hc hs
  refine ⟨U, ?_, .threw T.heap.size, hrun, hend, Or.inr ⟨T.heap.size, rfl, cls, ce, locs, hx U hWs.alike (by have h8 := (Array.getElem?_eq_some_iff.mp hce).1; rw [hT] at h8; exact h8) (fun q hq => f2 q hq (fun z hz => nomatch hz)), hce, hO.vm, hcl, hWs, hall, hf⟩⟩
  refine st1 _ ?_
  show Steps p.tables e below (T1.setTop { method := m, pc := pc + 3, locals := ls, stack := .ref T.heap.size :: rest, locked := none }) _
  jvm_step X₁.here [X₁.here.top, hexec, d3', Value.category]
  exact X₁.ldcString hexec (own := own) (text := text) (index := is) (a := sa) hown' hstr'.1 hstr'.2
    (g := { method := m, pc := pc + 4, locals := ls, stack := .ref T.heap.size :: .ref T.heap.size :: rest, locked := none }) rfl d4' _ hsteps
end VY
/-! THE OBJECT AS IT IS MADE: its rows, which no call of this walk changes -/
def FX : ST := fun a => match a with
  | 0 => fun b => if b = 18 then -1 else if b = 15 then 1 else 0
  | 2 => fun b => if b < 5 then 20 else 0
  | 5 => fun b => if b < 12 then -1 else 0
  | 6 => fun b => if b < 12 then -1 else 0
  | 7 => fun b => if b < 12 then -1 else 0
  | _ => fun _ => 0
abbrev RC : Type := Nat × Int32 × Int32
/-! THE ROAD OF ONE METHOD: G k pc L S st o: st is the count of throwables so far: ad 99 and that count are no more than the heap's cells. -/
def oz_exn (n : Nat) : String := if n = 1 then "java/lang/IndexOutOfBoundsException" else if n = 2 then "java/lang/IllegalStateException" else "java/lang/IllegalArgumentException"
def oz_in (i : Int32) (n : Nat) : Bool := decide (0 ≤ i.toInt ∧ i.toInt < n)
theorem oz_in_spec {i : Int32} {n : Nat} (h : oz_in i n = true) : vp_in i n := vp_in_iff.mpr (of_decide_eq_true h)
def gd (b : Bool) (o : Option RC) : Option RC := if b = true then o else none
/-- the answer of a call; what it throws is thrown on -/
def bnd (o : Option RC) (f : Int32 → Int32 → Option RC) : Option RC := match o with
  | none => none
  | some (e, v, st) => if e = 0 then f v st else some (e, 0, st)
/-- a long for an answer: 4 and its 64 bits stand in the place of the throwable's number -/
def bndL (o : Option RC) (f : Int64 → Int32 → Option RC) : Option RC := match o with
  | none => none
  | some (e, _, st) => if e < 4 then none else f (Int64.ofNat (e - 4)) st
def lgc (r : Int64) : Nat := 4 + r.toUInt64.toNat
theorem lgc_back (r : Int64) : Int64.ofNat (lgc r - 4) = r := by
  unfold lgc
  rw [Nat.add_sub_cancel_left]
  apply Int64.toBitVec_inj.mp
  simp
/-- one throwable more -/
def bump (st : Int32) : Int32 := st + 1
def gh (ad : Nat → Nat) (st : Int32) : Nat := ad 99 + st.toNatClampNeg
theorem gh_bump (ad : Nat → Nat) (st : Int32) : gh ad (bump st) ≤ gh ad st + 1 := by
  have h1 : (st + 1).toInt = (st.toInt + 1).bmod (2 ^ 32) := by rw [Int32.toInt_add]; rfl
  have h2 := st.toInt_lt
  have h3 := st.le_toInt
  have h4 : (st + 1).toNatClampNeg ≤ st.toNatClampNeg + 1 := by
    show (st + 1).toInt.toNat ≤ st.toInt.toNat + 1
    rw [h1, Int.bmod]
    split <;> omega
  show ad 99 + (st + 1).toNatClampNeg ≤ ad 99 + st.toNatClampNeg + 1
  omega
/-- the object's cells, and the count -/
def oz_P (D : va_G) (cI cZ : ClassId) (ci : Nat) (ad : Nat → Nat) (ly : LY) (st : Int32) (H : Heap) : Prop := va_P D vwCl (oz_wd ci cI cZ ad ly FX) H ∧ gh ad st ≤ H.size
def oz_names : List String := ["java/lang/RuntimeException", "java/lang/Exception"]
def oz_BX : List Cond := [.declares (Bundle.initS "java/lang/RuntimeException"), .declares (Bundle.initS "java/lang/Exception"), .declares (Bundle.initS "java/lang/Throwable"), .castable "java/lang/IndexOutOfBoundsException" "java/lang/IndexOutOfBoundsException", .castable "java/lang/IllegalStateException" "java/lang/IllegalStateException", .castable "java/lang/IllegalArgumentException" "java/lang/IllegalArgumentException"]
theorem oz_BX_on : ∀ w ∈ oz_BX, w.onTables = true := by decide +kernel
theorem oz_BX_all {P : Cond → Prop} (h : P (.declares (Bundle.initS "java/lang/RuntimeException")) ∧ P (.declares (Bundle.initS "java/lang/Exception")) ∧ P (.declares (Bundle.initS "java/lang/Throwable")) ∧ P (.castable "java/lang/IndexOutOfBoundsException" "java/lang/IndexOutOfBoundsException") ∧ P (.castable "java/lang/IllegalStateException" "java/lang/IllegalStateException") ∧ P (.castable "java/lang/IllegalArgumentException" "java/lang/IllegalArgumentException")) : ∀ w ∈ oz_BX, P w := by
  intro w hw
  simp only [oz_BX, List.mem_cons, List.not_mem_nil, or_false] at hw
  obtain ⟨h1, h2, h3, h4, h5, h6⟩ := h
  rcases hw with rfl | rfl | rfl | rfl | rfl | rfl <;> assumption
theorem oz_BX_warm {s U : State} (hW : s.WarmedH U.vm) (h : ∀ w ∈ oz_BX, va_Nw w s) : ∀ w ∈ oz_BX, va_Nw w U := by
  have g : ∀ {w}, w ∈ oz_BX → va_Nw w s := fun hw => h _ hw
  refine oz_BX_all ⟨va_Nw.warmD hW (g ?_), va_Nw.warmD hW (g ?_), va_Nw.warmD hW (g ?_), va_Nw.warmC hW (g ?_), va_Nw.warmC hW (g ?_), va_Nw.warmC hW (g ?_)⟩ <;> simp [oz_BX]
def ow_NC (U : State) : Prop := va_Nc "java/lang/IllegalStateException" "java/lang/IndexOutOfBoundsException" U ∧ va_Nc "java/lang/IllegalArgumentException" "java/lang/IndexOutOfBoundsException" U ∧ va_Nc "java/lang/IllegalStateException" "java/lang/IllegalArgumentException" U
theorem ow_NC_moved {u U : State} (hvm : u.vm.Alike U.vm) (h : ow_NC u) : ow_NC U := ⟨h.1.moved hvm, h.2.1.moved hvm, h.2.2.moved hvm⟩
abbrev KSt : Type := List (Nat × String)
/-- what a method's caller gives; own: the object's class -/
def oz_Pre (D : va_G) (cI cZ : ClassId) (own : String) (ci : Nat) (KS : KSt) (ad : Nat → Nat) (ly : LY) (sz : Nat) (st : Int32) (U : State) : Prop :=
  U.heap.size = sz ∧ oz_P D cI cZ ci ad ly st U.heap ∧ va_K D vwCl [(cI, .int), (cZ, .boolean)] U ∧ va_D (fun _ => True) (oz_wd ci cI cZ ad ly FX) ∧ (∀ q ∈ KS, ∃ sa, vk_R own q.1 q.2 sa U) ∧ (∀ w ∈ oz_BX, va_Nw w U) ∧ ow_NC U ∧
  vx_Zq Bundle.tN "UNASSIGNED_STACK" Bundle.steD (va_A (oz_wd ci cI cZ ad ly FX) sz) U U.heap ∧ vx_Zq Bundle.tN "SUPPRESSED_SENTINEL" Bundle.listD (va_A (oz_wd ci cI cZ ad ly FX) sz) U U.heap
theorem oz_Pre_blind {D : va_G} {cI cZ : ClassId} {own : String} {ci : Nat} {KS : KSt} {ad : Nat → Nat} {ly : LY} {sz : Nat} {st : Int32} {av : List Value} : FrameBlind (va_Pc av (oz_Pre D cI cZ own ci KS ad ly sz st)) := by
  intro a U g mk q
  obtain ⟨q0, q1, q2, q3, q4, q5, q6, q9, q7, q8⟩ := q
  exact ⟨q0, q1, q2, va_K.moved (u := U) (U := U.calling g mk a) (Vm.Alike.refl U.vm) q3, q4, fun x hx => (q5 x hx).elim fun sa h => ⟨sa, vk_R.same (u := U) rfl h⟩, fun x hx => va_Nw.same (u := U) (U := U.calling g mk a) (oz_BX_on x hx) rfl (q6 x hx), ow_NC_moved (u := U) (U := U.calling g mk a) (Vm.Alike.refl U.vm) q9, vx_Zq.moved (u := U) (Vm.Alike.refl U.vm) q7, vx_Zq.moved (u := U) (Vm.Alike.refl U.vm) q8⟩
def oz_B (D : va_G) (cI cZ : ClassId) (ci : Nat) (ad : Nat → Nat) (ly : LY) (u : Int32) (t : State) : Prop := oz_P D cI cZ ci ad ly u t.heap
def oz_XC (D : va_G) (cI cZ : ClassId) (ci : Nat) (ad : Nat → Nat) (ly : LY) (res : RC) (A : Nat → Prop) : String → State → State → Prop :=
  vx_X (fun u : Nat × Int32 => (u.1, 0, u.2) = res ∧ u.1 ≠ 0 ∧ u.1 < 4) (fun E u t => E = oz_exn u.1 ∧ oz_B D cI cZ ci ad ly u.2 t) A
def oz_Qi (D : va_G) (cI cZ : ClassId) (ci : Nat) (ad : Nat → Nat) (ly : LY) (res : RC) (A : Nat → Prop) : Array Value → State → Outcome → State → Prop :=
  va_Qi (fun r u => (0, r, u) = res) (oz_B D cI cZ ci ad ly) A
def oz_Ql (D : va_G) (cI cZ : ClassId) (ci : Nat) (ad : Nat → Nat) (ly : LY) (res : RC) (A : Nat → Prop) : Array Value → State → Outcome → State → Prop :=
  va_Ql (fun r u => (lgc r, 0, u) = res) (oz_B D cI cZ ci ad ly) A
/-- THE CONTRACT of a method with a number for an answer: what it answers, or throws, is o -/
def oz_MI (l : Launch) (y : MethodName) (ws : List Cond) (rm : Room) (D : va_G) (cI cZ : ClassId) (own : String) (ci : Nat) (KS : KSt) (ad : Nat → Nat) (ly : LY) (kc : Nat) (av : List Value) (o : Int32 → Option RC) : Prop :=
  ∀ (sz : Nat) (st : Int32) (res : RC), o st = some res → vx_Met l y ws rm (va_Pc av (oz_Pre D cI cZ own ci KS ad ly sz st)) (oz_Qi D cI cZ ci ad ly res (va_A (oz_wd ci cI cZ ad ly FX) sz)) (oz_XC D cI cZ ci ad ly res (va_A (oz_wd ci cI cZ ad ly FX) sz)) kc (6 * kc) (va_A (oz_wd ci cI cZ ad ly FX) sz)
/-- .. with a long for an answer -/
def oz_ML (l : Launch) (y : MethodName) (ws : List Cond) (rm : Room) (D : va_G) (cI cZ : ClassId) (own : String) (ci : Nat) (KS : KSt) (ad : Nat → Nat) (ly : LY) (kc : Nat) (av : List Value) (o : Int32 → Option RC) : Prop :=
  ∀ (sz : Nat) (st : Int32) (res : RC), o st = some res → vx_Met l y ws rm (va_Pc av (oz_Pre D cI cZ own ci KS ad ly sz st)) (oz_Ql D cI cZ ci ad ly res (va_A (oz_wd ci cI cZ ad ly FX) sz)) (oz_XC D cI cZ ci ad ly res (va_A (oz_wd ci cI cZ ad ly FX) sz)) kc (6 * kc) (va_A (oz_wd ci cI cZ ad ly FX) sz)
/-- what is known of a class -/
def oz_C (own : String) (ci : Nat) (T : u_T) (N : Nat) (ly : LY) : Prop :=
  vwCl[ci]? = some (own, T, N) ∧ ly.length = N ∧ (∀ k, k < N → (T k).1 = own) ∧ N < 99
section OZ
variable {p : Program} {l : Launch} {e : Env} {R : Room} {s : State} {m : MethodId} {args : Array Value} {below : List Frame} {meth : Method} {c : Code} {Q : State → Prop}
variable {cc : ByteArray} {nL : Nat} {Ts : List Cond} {own wn : String} {D : va_G} {cI cZ : ClassId} {ci : Nat} {T : u_T} {N : Nat} {KS : KSt} {ly : LY} {ad : Nat → Nat} {A : Nat → Prop} {res : RC} {hh : List (Nat × Nat × Nat × Nat)}
variable {G : Nat → Nat → List (Nat × Value) → List Value → Int32 → Option RC → Prop}
/-- wn: the class of the method that is walked; own: the object's -/
def oz_E (p : Program) (l : Launch) (e : Env) (R : Room) (s : State) (m : MethodId) (args : Array Value) (below : List Frame) (meth : Method) (c : Code) (Q : State → Prop) (cc : ByteArray) (nL : Nat) (Ts : List Cond) (own wn : String) (D : va_G) (cI cZ : ClassId) (ci : Nat) (T : u_T) (N : Nat) (KS : KSt) (ly : LY) (ad : Nat → Nat) (A : Nat → Prop) (res : RC) (hh : List (Nat × Nat × Nat × Nat)) (G : Nat → Nat → List (Nat × Value) → List Value → Int32 → Option RC → Prop) : Prop :=
  (G = fun k pc L S st o => o = some res → ∀ (H : Heap) (locs : List Loc) (ls : Array Slot), oz_P D cI cZ ci ad ly st H → va_S A s.heap H locs → lv_has ls nL L → W p l e R s m args below meth c H locs k (6 * k) Q (F0 m pc ls S)) ∧
  CallFix p m c cc nL s args Ts wn ∧ va_K D vwCl [(cI, .int), (cZ, .boolean)] s ∧ va_D A (oz_wd ci cI cZ ad ly FX) ∧ (∀ q, s.heap.size ≤ q → A q) ∧ oz_C own ci T N ly ∧
  (∀ q ∈ KS, ∃ sa, vk_R own q.1 q.2 sa s) ∧ (∀ w ∈ oz_BX, va_Nw w s) ∧ ow_NC s ∧ vx_Zq Bundle.tN "UNASSIGNED_STACK" Bundle.steD A s s.heap ∧ vx_Zq Bundle.tN "SUPPRESSED_SENTINEL" Bundle.listD A s s.heap ∧ l.stackTraces = false ∧ meth.locks = false ∧ c.exceptionTable.toList = hh.map (fun h => { startPc := h.1, endPc := h.2.1, handlerPc := h.2.2.1, catchType := h.2.2.2 })
variable {pc k : Nat} {L : List (Nat × Value)} {S : List Value} {st : Int32} {o o1 o2 : Option RC}
theorem oz_E.hts (X : oz_E p l e R s m args below meth c Q cc nL Ts own wn D cI cZ ci T N KS ly ad A res hh G) : ∀ w ∈ Ts, w.before args s = true := X.2.1.2.2.2.2
theorem oz_sub (X : oz_E p l e R s m args below meth c Q cc nL Ts own wn D cI cZ ci T N KS ly ad A res hh G) (ks : List Nat) {L2 : List (Nat × Value)} (h : lv_pick L ks = L2) (kk : G k pc L2 S st o) : G k pc L S st o := by
  obtain ⟨rfl, -⟩ := X
  intro ho H locs ls hP hS hl
  exact kk ho H locs ls hP hS (lv_sub hl ks h)

theorem oz_iconst (X : oz_E p l e R s m args below meth c Q cc nL Ts own wn D cI cZ ci T N KS ly ad A res hh G) {n : Int} {v : Int32} (d : decode cc pc = .ok (.iconst n, 1)) (hv : Int32.ofInt n = v) (kk : G k (pc + 1) L (.int v :: S) st o) : G k pc L (S) st o := by
  obtain ⟨rfl, ⟨hx, hb, -⟩, -⟩ := X
  intro ho H locs ls hP hS hl
  exact lv_iconst hx hb d hv (kk ho H locs ls hP hS hl)
theorem oz_bipush (X : oz_E p l e R s m args below meth c Q cc nL Ts own wn D cI cZ ci T N KS ly ad A res hh G) {n : Int} {v : Int32} (d : decode cc pc = .ok (.bipush n, 2)) (hv : (Int8.ofInt n).toInt32 = v) (kk : G k (pc + 2) L (.int v :: S) st o) : G k pc L (S) st o := by
  obtain ⟨rfl, ⟨hx, hb, -⟩, -⟩ := X
  intro ho H locs ls hP hS hl
  exact lv_bipush hx hb d hv (kk ho H locs ls hP hS hl)
theorem oz_sipush (X : oz_E p l e R s m args below meth c Q cc nL Ts own wn D cI cZ ci T N KS ly ad A res hh G) {n : Int} {v : Int32} (d : decode cc pc = .ok (.sipush n, 3)) (hv : (Int16.ofInt n).toInt32 = v) (kk : G k (pc + 3) L (.int v :: S) st o) : G k pc L (S) st o := by
  obtain ⟨rfl, ⟨hx, hb, -⟩, -⟩ := X
  intro ho H locs ls hP hS hl
  exact lv_sipush hx hb d hv (kk ho H locs ls hP hS hl)
theorem oz_iload_n (X : oz_E p l e R s m args below meth c Q cc nL Ts own wn D cI cZ ci T N KS ly ad A res hh G) {j : Fin 4} {i : Nat} {x : Int32} (d : decode cc pc = .ok (.iload_n j, 1)) (hi : (j : Nat) = i) (q : Nat) (hq : L[q]? = some (i, .int x)) (kk : G k (pc + 1) L (.int x :: S) st o) : G k pc L (S) st o := by
  obtain ⟨rfl, ⟨hx, hb, -⟩, -⟩ := X
  intro ho H locs ls hP hS hl
  exact lv_iload_n hx hb d hi (lv_at hl q hq) (kk ho H locs ls hP hS hl)
theorem oz_iload (X : oz_E p l e R s m args below meth c Q cc nL Ts own wn D cI cZ ci T N KS ly ad A res hh G) {i : Nat} {x : Int32} (d : decode cc pc = .ok (.iload i, 2)) (q : Nat) (hq : L[q]? = some (i, .int x)) (kk : G k (pc + 2) L (.int x :: S) st o) : G k pc L (S) st o := by
  obtain ⟨rfl, ⟨hx, hb, -⟩, -⟩ := X
  intro ho H locs ls hP hS hl
  exact lv_iload hx hb d (lv_at hl q hq) (kk ho H locs ls hP hS hl)
theorem oz_lload_n (X : oz_E p l e R s m args below meth c Q cc nL Ts own wn D cI cZ ci T N KS ly ad A res hh G) {j : Fin 4} {i : Nat} {x : Int64} (d : decode cc pc = .ok (.lload_n j, 1)) (hi : (j : Nat) = i) (q : Nat) (hq : L[q]? = some (i, .long x)) (kk : G k (pc + 1) L (.long x :: S) st o) : G k pc L (S) st o := by
  obtain ⟨rfl, ⟨hx, hb, -⟩, -⟩ := X
  intro ho H locs ls hP hS hl
  exact lv_lload_n hx hb d hi (lv_at hl q hq) (kk ho H locs ls hP hS hl)
theorem oz_lload (X : oz_E p l e R s m args below meth c Q cc nL Ts own wn D cI cZ ci T N KS ly ad A res hh G) {i : Nat} {x : Int64} (d : decode cc pc = .ok (.lload i, 2)) (q : Nat) (hq : L[q]? = some (i, .long x)) (kk : G k (pc + 2) L (.long x :: S) st o) : G k pc L (S) st o := by
  obtain ⟨rfl, ⟨hx, hb, -⟩, -⟩ := X
  intro ho H locs ls hP hS hl
  exact lv_lload hx hb d (lv_at hl q hq) (kk ho H locs ls hP hS hl)
theorem oz_aload_n (X : oz_E p l e R s m args below meth c Q cc nL Ts own wn D cI cZ ci T N KS ly ad A res hh G) {j : Fin 4} {i x : Nat} (d : decode cc pc = .ok (.aload_n j, 1)) (hi : (j : Nat) = i) (q : Nat) (hq : L[q]? = some (i, .ref x)) (kk : G k (pc + 1) L (.ref x :: S) st o) : G k pc L (S) st o := by
  obtain ⟨rfl, ⟨hx, hb, -⟩, -⟩ := X
  intro ho H locs ls hP hS hl
  exact lv_aload_n hx hb d hi (lv_at hl q hq) (kk ho H locs ls hP hS hl)
theorem oz_iadd (X : oz_E p l e R s m args below meth c Q cc nL Ts own wn D cI cZ ci T N KS ly ad A res hh G) {x y : Int32} (d : decode cc pc = .ok (.iadd, 1)) (kk : G k (pc + 1) L (.int (x + y) :: S) st o) : G k pc L (.int y :: .int x :: S) st o := by
  obtain ⟨rfl, ⟨hx, hb, -⟩, -⟩ := X
  intro ho H locs ls hP hS hl
  exact lv_iadd hx hb d (kk ho H locs ls hP hS hl)
theorem oz_isub (X : oz_E p l e R s m args below meth c Q cc nL Ts own wn D cI cZ ci T N KS ly ad A res hh G) {x y : Int32} (d : decode cc pc = .ok (.isub, 1)) (kk : G k (pc + 1) L (.int (x - y) :: S) st o) : G k pc L (.int y :: .int x :: S) st o := by
  obtain ⟨rfl, ⟨hx, hb, -⟩, -⟩ := X
  intro ho H locs ls hP hS hl
  exact lv_isub hx hb d (kk ho H locs ls hP hS hl)
theorem oz_imul (X : oz_E p l e R s m args below meth c Q cc nL Ts own wn D cI cZ ci T N KS ly ad A res hh G) {x y : Int32} (d : decode cc pc = .ok (.imul, 1)) (kk : G k (pc + 1) L (.int (x * y) :: S) st o) : G k pc L (.int y :: .int x :: S) st o := by
  obtain ⟨rfl, ⟨hx, hb, -⟩, -⟩ := X
  intro ho H locs ls hP hS hl
  exact lv_imul hx hb d (kk ho H locs ls hP hS hl)
theorem oz_ior (X : oz_E p l e R s m args below meth c Q cc nL Ts own wn D cI cZ ci T N KS ly ad A res hh G) {x y : Int32} (d : decode cc pc = .ok (.ior, 1)) (kk : G k (pc + 1) L (.int (x ||| y) :: S) st o) : G k pc L (.int y :: .int x :: S) st o := by
  obtain ⟨rfl, ⟨hx, hb, -⟩, -⟩ := X
  intro ho H locs ls hP hS hl
  exact lv_ior hx hb d (kk ho H locs ls hP hS hl)
theorem oz_iand (X : oz_E p l e R s m args below meth c Q cc nL Ts own wn D cI cZ ci T N KS ly ad A res hh G) {x y : Int32} (d : decode cc pc = .ok (.iand, 1)) (kk : G k (pc + 1) L (.int (x &&& y) :: S) st o) : G k pc L (.int y :: .int x :: S) st o := by
  obtain ⟨rfl, ⟨hx, hb, -⟩, -⟩ := X
  intro ho H locs ls hP hS hl
  exact lv_iand hx hb d (kk ho H locs ls hP hS hl)
theorem oz_idiv (X : oz_E p l e R s m args below meth c Q cc nL Ts own wn D cI cZ ci T N KS ly ad A res hh G) {x y : Int32} (d : decode cc pc = .ok (.idiv, 1)) (hne : ¬ y = 0) (kk : G k (pc + 1) L (.int (x / y) :: S) st o) : G k pc L (.int y :: .int x :: S) st o := by
  obtain ⟨rfl, ⟨hx, hb, -⟩, -⟩ := X
  intro ho H locs ls hP hS hl
  exact lv_idiv hx hb d hne (kk ho H locs ls hP hS hl)
theorem oz_irem (X : oz_E p l e R s m args below meth c Q cc nL Ts own wn D cI cZ ci T N KS ly ad A res hh G) {x y : Int32} (d : decode cc pc = .ok (.irem, 1)) (hne : ¬ y = 0) (kk : G k (pc + 1) L (.int (x - x / y * y) :: S) st o) : G k pc L (.int y :: .int x :: S) st o := by
  obtain ⟨rfl, ⟨hx, hb, -⟩, -⟩ := X
  intro ho H locs ls hP hS hl
  exact lv_irem hx hb d hne (kk ho H locs ls hP hS hl)
theorem oz_ladd (X : oz_E p l e R s m args below meth c Q cc nL Ts own wn D cI cZ ci T N KS ly ad A res hh G) {x y : Int64} (d : decode cc pc = .ok (.ladd, 1)) (kk : G k (pc + 1) L (.long (x + y) :: S) st o) : G k pc L (.long y :: .long x :: S) st o := by
  obtain ⟨rfl, ⟨hx, hb, -⟩, -⟩ := X
  intro ho H locs ls hP hS hl
  exact lv_ladd hx hb d (kk ho H locs ls hP hS hl)
theorem oz_lmul (X : oz_E p l e R s m args below meth c Q cc nL Ts own wn D cI cZ ci T N KS ly ad A res hh G) {x y : Int64} (d : decode cc pc = .ok (.lmul, 1)) (kk : G k (pc + 1) L (.long (x * y) :: S) st o) : G k pc L (.long y :: .long x :: S) st o := by
  obtain ⟨rfl, ⟨hx, hb, -⟩, -⟩ := X
  intro ho H locs ls hP hS hl
  exact lv_lmul hx hb d (kk ho H locs ls hP hS hl)
theorem oz_i2l (X : oz_E p l e R s m args below meth c Q cc nL Ts own wn D cI cZ ci T N KS ly ad A res hh G) {x : Int32} (d : decode cc pc = .ok (.i2l, 1)) (kk : G k (pc + 1) L (.long x.toInt64 :: S) st o) : G k pc L (.int x :: S) st o := by
  obtain ⟨rfl, ⟨hx, hb, -⟩, -⟩ := X
  intro ho H locs ls hP hS hl
  exact lv_i2l hx hb d rfl (kk ho H locs ls hP hS hl)
theorem oz_lcmp (X : oz_E p l e R s m args below meth c Q cc nL Ts own wn D cI cZ ci T N KS ly ad A res hh G) {x y : Int64} (d : decode cc pc = .ok (.lcmp, 1)) (kk : G k (pc + 1) L (.int (lg_cmp x y) :: S) st o) : G k pc L (.long y :: .long x :: S) st o := by
  obtain ⟨rfl, ⟨hx, hb, -⟩, -⟩ := X
  intro ho H locs ls hP hS hl
  exact W.lcmp hx hb d (kk ho H locs ls hP hS hl)
theorem oz_dup (X : oz_E p l e R s m args below meth c Q cc nL Ts own wn D cI cZ ci T N KS ly ad A res hh G) {a : Value} (d : decode cc pc = .ok (.dup, 1)) (ha : a.category = 1) (kk : G k (pc + 1) L (a :: a :: S) st o) : G k pc L (a :: S) st o := by
  obtain ⟨rfl, ⟨hx, hb, -⟩, -⟩ := X
  intro ho H locs ls hP hS hl
  exact lv_dup hx hb d ha (kk ho H locs ls hP hS hl)
theorem oz_ldc (X : oz_E p l e R s m args below meth c Q cc nL Ts own wn D cI cZ ci T N KS ly ad A res hh G) {index : Nat} {v : Int32} (hc : Cond.constant wn index v ∈ Ts) (d : decode cc pc = .ok (.ldc index, 2)) (kk : G k (pc + 2) L (.int v :: S) st o) : G k pc L S st o := by
  obtain ⟨rfl, ⟨hx, hb, hml, hown, hts⟩, -⟩ := X
  intro ho H locs ls hP hS hl
  exact lv_ldc hx hb hown (hts _ hc) d (kk ho H locs ls hP hS hl)
theorem oz_ldc2 (X : oz_E p l e R s m args below meth c Q cc nL Ts own wn D cI cZ ci T N KS ly ad A res hh G) {index : Nat} {v : Int64} (hc : Cond.constantLong wn index v ∈ Ts) (d : decode cc pc = .ok (.ldc2_w index, 3)) (kk : G k (pc + 3) L (.long v :: S) st o) : G k pc L S st o := by
  obtain ⟨rfl, ⟨hx, hb, hml, hown, hts⟩, -⟩ := X
  intro ho H locs ls hP hS hl
  exact lv_ldc2 hx hb hown (hts _ hc) d (kk ho H locs ls hP hS hl)
theorem oz_istore_n (X : oz_E p l e R s m args below meth c Q cc nL Ts own wn D cI cZ ci T N KS ly ad A res hh G) {j : Fin 4} {i : Nat} {x : Int32} {L2 : List (Nat × Value)} (d : decode cc pc = .ok (.istore_n j, 1)) (hi : (j : Nat) = i) (hn : i < nL) (hL : (i, Value.int x) :: L.filter (fun q => !(q.1 == i) && !(q.1 + 1 == i && q.2.category == 2)) = L2) (kk : G k (pc + 1) L2 S st o) : G k pc L (.int x :: S) st o := by
  obtain ⟨rfl, ⟨hx, hb, -⟩, -⟩ := X
  intro ho H locs ls hP hS hl
  exact lv_istore_n hx hb d hi hl hn hL (fun ls2 hl2 => kk ho H locs ls2 hP hS hl2)
theorem oz_istore (X : oz_E p l e R s m args below meth c Q cc nL Ts own wn D cI cZ ci T N KS ly ad A res hh G)  {i : Nat} {x : Int32} {L2 : List (Nat × Value)} (d : decode cc pc = .ok (.istore i, 2))  (hn : i < nL) (hL : (i, Value.int x) :: L.filter (fun q => !(q.1 == i) && !(q.1 + 1 == i && q.2.category == 2)) = L2) (kk : G k (pc + 2) L2 S st o) : G k pc L (.int x :: S) st o := by
  obtain ⟨rfl, ⟨hx, hb, -⟩, -⟩ := X
  intro ho H locs ls hP hS hl
  exact lv_istore hx hb d hl hn hL (fun ls2 hl2 => kk ho H locs ls2 hP hS hl2)
theorem oz_lstore_n (X : oz_E p l e R s m args below meth c Q cc nL Ts own wn D cI cZ ci T N KS ly ad A res hh G) {j : Fin 4} {i : Nat} {x : Int64} {L2 : List (Nat × Value)} (d : decode cc pc = .ok (.lstore_n j, 1)) (hi : (j : Nat) = i) (hn : i + 1 < nL) (hL : (i, Value.long x) :: L.filter (fun q => !(q.1 == i) && (!(q.1 == i + 1) && !(q.1 + 1 == i && q.2.category == 2))) = L2) (kk : G k (pc + 1) L2 S st o) : G k pc L (.long x :: S) st o := by
  obtain ⟨rfl, ⟨hx, hb, -⟩, -⟩ := X
  intro ho H locs ls hP hS hl
  exact lv_lstore_n hx hb d hi hl hn hL (fun ls2 hl2 => kk ho H locs ls2 hP hS hl2)
theorem oz_lstore (X : oz_E p l e R s m args below meth c Q cc nL Ts own wn D cI cZ ci T N KS ly ad A res hh G)  {i : Nat} {x : Int64} {L2 : List (Nat × Value)} (d : decode cc pc = .ok (.lstore i, 2))  (hn : i + 1 < nL) (hL : (i, Value.long x) :: L.filter (fun q => !(q.1 == i) && (!(q.1 == i + 1) && !(q.1 + 1 == i && q.2.category == 2))) = L2) (kk : G k (pc + 2) L2 S st o) : G k pc L (.long x :: S) st o := by
  obtain ⟨rfl, ⟨hx, hb, -⟩, -⟩ := X
  intro ho H locs ls hP hS hl
  exact lv_lstore hx hb d hl hn hL (fun ls2 hl2 => kk ho H locs ls2 hP hS hl2)
theorem oz_iinc (X : oz_E p l e R s m args below meth c Q cc nL Ts own wn D cI cZ ci T N KS ly ad A res hh G) {i q : Nat} {n : Int} {x v : Int32} {L2 : List (Nat × Value)} (d : decode cc pc = .ok (.iinc i n, 3)) (hq : L[q]? = some (i, .int x)) (hv : x + Int32.ofInt n = v) (hn : i < nL) (hL : (i, Value.int v) :: L.filter (fun q => !(q.1 == i) && !(q.1 + 1 == i && q.2.category == 2)) = L2) (kk : G k (pc + 3) L2 S st o) : G k pc L S st o := by
  obtain ⟨rfl, ⟨hx, hb, -⟩, -⟩ := X
  intro ho H locs ls hP hS hl
  exact lv_iinc hx hb d hl hq hv hn hL (fun ls2 hl2 => kk ho H locs ls2 hP hS hl2)
theorem oz_if_eq (X : oz_E p l e R s m args below meth c Q cc nL Ts own wn D cI cZ ci T N KS ly ad A res hh G) {x : Int32} {off : Int} {tgt : Nat} (d : decode cc pc = .ok (.ifCond .eq off, 3)) (ht : (pc : Int) + off = (tgt : Int)) (k1 : x = 0 → G k tgt L S st o1) (k2 : ¬ x = 0 → G k (pc + 3) L S st o2) : G k pc L (.int x :: S) st (if x = 0 then o1 else o2) := by
  obtain ⟨rfl, ⟨hx, hb, -⟩, -⟩ := X
  intro ho H locs ls hP hS hl
  exact lv_if_eq hx hb d ht (fun h => (k1 h (by rw [if_pos h] at ho; exact ho) H locs ls hP hS hl)) (fun h => (k2 h (by rw [if_neg h] at ho; exact ho) H locs ls hP hS hl))
theorem oz_icmp_eq (X : oz_E p l e R s m args below meth c Q cc nL Ts own wn D cI cZ ci T N KS ly ad A res hh G) {x y : Int32} {off : Int} {tgt : Nat} (d : decode cc pc = .ok (.if_icmp .eq off, 3)) (ht : (pc : Int) + off = (tgt : Int)) (k1 : x = y → G k tgt L S st o1) (k2 : ¬ x = y → G k (pc + 3) L S st o2) : G k pc L (.int y :: .int x :: S) st (if x = y then o1 else o2) := by
  obtain ⟨rfl, ⟨hx, hb, -⟩, -⟩ := X
  intro ho H locs ls hP hS hl
  exact lv_icmp_eq hx hb d ht (fun h => (k1 h (by rw [if_pos h] at ho; exact ho) H locs ls hP hS hl)) (fun h => (k2 h (by rw [if_neg h] at ho; exact ho) H locs ls hP hS hl))
theorem oz_if_ne (X : oz_E p l e R s m args below meth c Q cc nL Ts own wn D cI cZ ci T N KS ly ad A res hh G) {x : Int32} {off : Int} {tgt : Nat} (d : decode cc pc = .ok (.ifCond .ne off, 3)) (ht : (pc : Int) + off = (tgt : Int)) (k1 : ¬ x = 0 → G k tgt L S st o1) (k2 : x = 0 → G k (pc + 3) L S st o2) : G k pc L (.int x :: S) st (if x = 0 then o2 else o1) := by
  obtain ⟨rfl, ⟨hx, hb, -⟩, -⟩ := X
  intro ho H locs ls hP hS hl
  exact lv_if_ne hx hb d ht (fun h => (k1 h (by rw [if_neg h] at ho; exact ho) H locs ls hP hS hl)) (fun h => (k2 h (by rw [if_pos h] at ho; exact ho) H locs ls hP hS hl))
theorem oz_icmp_ne (X : oz_E p l e R s m args below meth c Q cc nL Ts own wn D cI cZ ci T N KS ly ad A res hh G) {x y : Int32} {off : Int} {tgt : Nat} (d : decode cc pc = .ok (.if_icmp .ne off, 3)) (ht : (pc : Int) + off = (tgt : Int)) (k1 : ¬ x = y → G k tgt L S st o1) (k2 : x = y → G k (pc + 3) L S st o2) : G k pc L (.int y :: .int x :: S) st (if x = y then o2 else o1) := by
  obtain ⟨rfl, ⟨hx, hb, -⟩, -⟩ := X
  intro ho H locs ls hP hS hl
  exact lv_icmp_ne hx hb d ht (fun h => (k1 h (by rw [if_neg h] at ho; exact ho) H locs ls hP hS hl)) (fun h => (k2 h (by rw [if_pos h] at ho; exact ho) H locs ls hP hS hl))
theorem oz_if_lt (X : oz_E p l e R s m args below meth c Q cc nL Ts own wn D cI cZ ci T N KS ly ad A res hh G) {x : Int32} {off : Int} {tgt : Nat} (d : decode cc pc = .ok (.ifCond .lt off, 3)) (ht : (pc : Int) + off = (tgt : Int)) (k1 : x < 0 → G k tgt L S st o1) (k2 : ¬ x < 0 → G k (pc + 3) L S st o2) : G k pc L (.int x :: S) st (if x < 0 then o1 else o2) := by
  obtain ⟨rfl, ⟨hx, hb, -⟩, -⟩ := X
  intro ho H locs ls hP hS hl
  exact lv_if_lt hx hb d ht (fun h => (k1 h (by rw [if_pos h] at ho; exact ho) H locs ls hP hS hl)) (fun h => (k2 h (by rw [if_neg h] at ho; exact ho) H locs ls hP hS hl))
theorem oz_icmp_lt (X : oz_E p l e R s m args below meth c Q cc nL Ts own wn D cI cZ ci T N KS ly ad A res hh G) {x y : Int32} {off : Int} {tgt : Nat} (d : decode cc pc = .ok (.if_icmp .lt off, 3)) (ht : (pc : Int) + off = (tgt : Int)) (k1 : x < y → G k tgt L S st o1) (k2 : ¬ x < y → G k (pc + 3) L S st o2) : G k pc L (.int y :: .int x :: S) st (if x < y then o1 else o2) := by
  obtain ⟨rfl, ⟨hx, hb, -⟩, -⟩ := X
  intro ho H locs ls hP hS hl
  exact lv_icmp_lt hx hb d ht (fun h => (k1 h (by rw [if_pos h] at ho; exact ho) H locs ls hP hS hl)) (fun h => (k2 h (by rw [if_neg h] at ho; exact ho) H locs ls hP hS hl))
theorem oz_if_ge (X : oz_E p l e R s m args below meth c Q cc nL Ts own wn D cI cZ ci T N KS ly ad A res hh G) {x : Int32} {off : Int} {tgt : Nat} (d : decode cc pc = .ok (.ifCond .ge off, 3)) (ht : (pc : Int) + off = (tgt : Int)) (k1 : 0 ≤ x → G k tgt L S st o1) (k2 : ¬ 0 ≤ x → G k (pc + 3) L S st o2) : G k pc L (.int x :: S) st (if 0 ≤ x then o1 else o2) := by
  obtain ⟨rfl, ⟨hx, hb, -⟩, -⟩ := X
  intro ho H locs ls hP hS hl
  exact lv_if_ge hx hb d ht (fun h => (k1 h (by rw [if_pos h] at ho; exact ho) H locs ls hP hS hl)) (fun h => (k2 h (by rw [if_neg h] at ho; exact ho) H locs ls hP hS hl))
theorem oz_icmp_ge (X : oz_E p l e R s m args below meth c Q cc nL Ts own wn D cI cZ ci T N KS ly ad A res hh G) {x y : Int32} {off : Int} {tgt : Nat} (d : decode cc pc = .ok (.if_icmp .ge off, 3)) (ht : (pc : Int) + off = (tgt : Int)) (k1 : y ≤ x → G k tgt L S st o1) (k2 : ¬ y ≤ x → G k (pc + 3) L S st o2) : G k pc L (.int y :: .int x :: S) st (if y ≤ x then o1 else o2) := by
  obtain ⟨rfl, ⟨hx, hb, -⟩, -⟩ := X
  intro ho H locs ls hP hS hl
  exact lv_icmp_ge hx hb d ht (fun h => (k1 h (by rw [if_pos h] at ho; exact ho) H locs ls hP hS hl)) (fun h => (k2 h (by rw [if_neg h] at ho; exact ho) H locs ls hP hS hl))
theorem oz_if_gt (X : oz_E p l e R s m args below meth c Q cc nL Ts own wn D cI cZ ci T N KS ly ad A res hh G) {x : Int32} {off : Int} {tgt : Nat} (d : decode cc pc = .ok (.ifCond .gt off, 3)) (ht : (pc : Int) + off = (tgt : Int)) (k1 : 0 < x → G k tgt L S st o1) (k2 : ¬ 0 < x → G k (pc + 3) L S st o2) : G k pc L (.int x :: S) st (if 0 < x then o1 else o2) := by
  obtain ⟨rfl, ⟨hx, hb, -⟩, -⟩ := X
  intro ho H locs ls hP hS hl
  exact lv_if_gt hx hb d ht (fun h => (k1 h (by rw [if_pos h] at ho; exact ho) H locs ls hP hS hl)) (fun h => (k2 h (by rw [if_neg h] at ho; exact ho) H locs ls hP hS hl))
theorem oz_icmp_gt (X : oz_E p l e R s m args below meth c Q cc nL Ts own wn D cI cZ ci T N KS ly ad A res hh G) {x y : Int32} {off : Int} {tgt : Nat} (d : decode cc pc = .ok (.if_icmp .gt off, 3)) (ht : (pc : Int) + off = (tgt : Int)) (k1 : y < x → G k tgt L S st o1) (k2 : ¬ y < x → G k (pc + 3) L S st o2) : G k pc L (.int y :: .int x :: S) st (if y < x then o1 else o2) := by
  obtain ⟨rfl, ⟨hx, hb, -⟩, -⟩ := X
  intro ho H locs ls hP hS hl
  exact lv_icmp_gt hx hb d ht (fun h => (k1 h (by rw [if_pos h] at ho; exact ho) H locs ls hP hS hl)) (fun h => (k2 h (by rw [if_neg h] at ho; exact ho) H locs ls hP hS hl))
theorem oz_if_le (X : oz_E p l e R s m args below meth c Q cc nL Ts own wn D cI cZ ci T N KS ly ad A res hh G) {x : Int32} {off : Int} {tgt : Nat} (d : decode cc pc = .ok (.ifCond .le off, 3)) (ht : (pc : Int) + off = (tgt : Int)) (k1 : x ≤ 0 → G k tgt L S st o1) (k2 : ¬ x ≤ 0 → G k (pc + 3) L S st o2) : G k pc L (.int x :: S) st (if x ≤ 0 then o1 else o2) := by
  obtain ⟨rfl, ⟨hx, hb, -⟩, -⟩ := X
  intro ho H locs ls hP hS hl
  exact lv_if_le hx hb d ht (fun h => (k1 h (by rw [if_pos h] at ho; exact ho) H locs ls hP hS hl)) (fun h => (k2 h (by rw [if_neg h] at ho; exact ho) H locs ls hP hS hl))
theorem oz_icmp_le (X : oz_E p l e R s m args below meth c Q cc nL Ts own wn D cI cZ ci T N KS ly ad A res hh G) {x y : Int32} {off : Int} {tgt : Nat} (d : decode cc pc = .ok (.if_icmp .le off, 3)) (ht : (pc : Int) + off = (tgt : Int)) (k1 : x ≤ y → G k tgt L S st o1) (k2 : ¬ x ≤ y → G k (pc + 3) L S st o2) : G k pc L (.int y :: .int x :: S) st (if x ≤ y then o1 else o2) := by
  obtain ⟨rfl, ⟨hx, hb, -⟩, -⟩ := X
  intro ho H locs ls hP hS hl
  exact lv_icmp_le hx hb d ht (fun h => (k1 h (by rw [if_pos h] at ho; exact ho) H locs ls hP hS hl)) (fun h => (k2 h (by rw [if_neg h] at ho; exact ho) H locs ls hP hS hl))
theorem oz_goto (X : oz_E p l e R s m args below meth c Q cc nL Ts own wn D cI cZ ci T N KS ly ad A res hh G) {off : Int} {tgt : Nat} (d : decode cc pc = .ok (.goto off, 3)) (ht : (pc : Int) + off = (tgt : Int)) (kk : G k tgt L S st o) : G k pc L S st o := by
  obtain ⟨rfl, ⟨hx, hb, -⟩, -⟩ := X
  intro ho H locs ls hP hS hl
  exact lv_goto hx hb d ht (kk ho H locs ls hP hS hl)
theorem oz_getA (X : oz_E p l e R s m args below meth c Q cc nL Ts own own D cI cZ ci T N KS ly ad A res [] G) (hin : ∀ w ∈ u_ws own T N, w ∈ Ts) {j n index : Nat} {b : Bool} (hj : ly[j]? = some (n + 1, b)) (hlink : Cond.fieldLink own index own (T j).2.1 (T j).2.2.1 ∈ Ts) (d : decode cc pc = .ok (.getfield index, 3)) (kk : G k (pc + 3) L (.ref (ad (j + 1)) :: S) st o) : G k pc L (.ref (ad 0) :: S) st o := by
  obtain ⟨rfl, ⟨hx, hb, hml, hown, hts⟩, hK, hD, hA, hC, -⟩ := X
  intro ho H locs ls hP hS hl
  have hjN : j < N := by rw [← hC.2.1]; exact (List.getElem?_eq_some_iff.mp hj).1
  refine va_get (ref := own) hx hb hts hin hown hK hP.1 0 (oz_wd_obj ci cI cZ ad ly FX) hC.1 j hjN (hts _ hlink) (fun x h => by rw [hC.2.2.1 j hjN] at h; exact h) (v := .ref (ad (j + 1))) ?_ d (kk ho H locs ls hP hS hl)
  rw [oz_fl_ref ad FX ly 0 j hj, Nat.zero_add]
theorem oz_getS (X : oz_E p l e R s m args below meth c Q cc nL Ts own own D cI cZ ci T N KS ly ad A res [] G) (hin : ∀ w ∈ u_ws own T N, w ∈ Ts) {j index : Nat} {b : Bool} (hj : ly[j]? = some (0, b)) (hlink : Cond.fieldLink own index own (T j).2.1 (T j).2.2.1 ∈ Ts) (d : decode cc pc = .ok (.getfield index, 3)) (kk : G k (pc + 3) L (.int (FX 0 j) :: S) st o) : G k pc L (.ref (ad 0) :: S) st o := by
  obtain ⟨rfl, ⟨hx, hb, hml, hown, hts⟩, hK, hD, hA, hC, -⟩ := X
  intro ho H locs ls hP hS hl
  have hjN : j < N := by rw [← hC.2.1]; exact (List.getElem?_eq_some_iff.mp hj).1
  refine va_get (ref := own) hx hb hts hin hown hK hP.1 0 (oz_wd_obj ci cI cZ ad ly FX) hC.1 j hjN (hts _ hlink) (fun x h => by rw [hC.2.2.1 j hjN] at h; exact h) (v := .int (FX 0 j)) ?_ d (kk ho H locs ls hP hS hl)
  rw [oz_fl_int ad FX ly 0 j hj, Nat.zero_add]
theorem oz_iald (X : oz_E p l e R s m args below meth c Q cc nL Ts own wn D cI cZ ci T N KS ly ad A res hh G) {j n : Nat} {i : Int32} (hj : ly[j]? = some (n, false)) (hn : 0 < n) (d : decode cc pc = .ok (.iaload, 1)) (kk : oz_in i n = true → G k (pc + 1) L (.int (FX (j + 1) i.toNatClampNeg) :: S) st o) : G k pc L (.int i :: .ref (ad (j + 1)) :: S) st (gd (oz_in i n) o) := by
  obtain ⟨rfl, ⟨hx, hb, hml, hown, hts⟩, hK, hD, hA, hC, -⟩ := X
  intro ho H locs ls hP hS hl
  by_cases hi : oz_in i n = true
  · rw [gd, if_pos hi] at ho
    obtain ⟨n0, rfl⟩ : ∃ n0, n = n0 + 1 := ⟨n - 1, by omega⟩
    obtain ⟨q, hq, -⟩ := oz_wd_get ci cI cZ ad ly FX hj
    exact va_iald hx hb hK hP.1 q 0 hq rfl (oz_in_spec hi) d (kk hi ho H locs ls hP hS hl)
  · rw [gd, if_neg hi] at ho
    cases ho
theorem oz_zald (X : oz_E p l e R s m args below meth c Q cc nL Ts own wn D cI cZ ci T N KS ly ad A res hh G) {j n : Nat} {i : Int32} (hj : ly[j]? = some (n, true)) (hn : 0 < n) (d : decode cc pc = .ok (.baload, 1)) (kk : oz_in i n = true → G k (pc + 1) L (.int (FX (j + 1) i.toNatClampNeg) :: S) st o) : G k pc L (.int i :: .ref (ad (j + 1)) :: S) st (gd (oz_in i n) o) := by
  obtain ⟨rfl, ⟨hx, hb, hml, hown, hts⟩, hK, hD, hA, hC, -⟩ := X
  intro ho H locs ls hP hS hl
  by_cases hi : oz_in i n = true
  · rw [gd, if_pos hi] at ho
    obtain ⟨n0, rfl⟩ : ∃ n0, n = n0 + 1 := ⟨n - 1, by omega⟩
    obtain ⟨q, hq, -⟩ := oz_wd_get ci cI cZ ad ly FX hj
    exact va_zald hx hb hK hP.1 q 1 hq rfl (oz_in_spec hi) d (kk hi ho H locs ls hP hS hl)
  · rw [gd, if_neg hi] at ho
    cases ho
theorem oz_iret (X : oz_E p l e R s m args below meth c Q cc nL Ts own wn D cI cZ ci T N KS ly ad A res hh G) {kc : Nat} (hQ : Q = vx_MQ below (oz_Qi D cI cZ ci ad ly res A) (oz_XC D cI cZ ci ad ly res A) args s kc (6 * kc) A) (hr : meth.sig.returnType = some .int) {v : Int32} (hk : k ≤ kc) (d : decode cc pc = .ok (.ireturn, 1)) : G k pc L [.int v] st (some (0, v, st)) := by
  obtain ⟨rfl, ⟨hx, hb, hml, hown, hts⟩, hK, hD, hA, hC, hKS, hBX, hNC, hUZ, hN, hstt, hlk, htab⟩ := X
  intro ho H locs ls hP hS hl
  subst hQ
  refine W.widen (k := kc) (n := 6 * kc) hk (by omega) (vx_ret ?_)
  exact W.iret hx hb hr (fun t ht hW => ⟨⟨v, st, rfl, Option.some.inj ho, by unfold oz_B; rw [ht]; exact hP⟩, hS.F ht⟩) hS.2.2 d hlk
theorem oz_zret (X : oz_E p l e R s m args below meth c Q cc nL Ts own wn D cI cZ ci T N KS ly ad A res hh G) {kc : Nat} (hQ : Q = vx_MQ below (oz_Qi D cI cZ ci ad ly res A) (oz_XC D cI cZ ci ad ly res A) args s kc (6 * kc) A) (hr : meth.sig.returnType = some .boolean) {v : Int32} (hv : narrow .boolean (.int v) = .int v) (hk : k ≤ kc) (d : decode cc pc = .ok (.ireturn, 1)) : G k pc L [.int v] st (some (0, v, st)) := by
  obtain ⟨rfl, ⟨hx, hb, hml, hown, hts⟩, hK, hD, hA, hC, hKS, hBX, hNC, hUZ, hN, hstt, hlk, htab⟩ := X
  intro ho H locs ls hP hS hl
  subst hQ
  refine W.widen (k := kc) (n := 6 * kc) hk (by omega) (vx_ret ?_)
  exact W.zret hx hb hr hv (fun t ht hW => ⟨⟨v, st, rfl, Option.some.inj ho, by unfold oz_B; rw [ht]; exact hP⟩, hS.F ht⟩) hS.2.2 d hlk
def oz_bit (v : Int32) : Bool := decide (v = 0 ∨ v = 1)
theorem oz_zretG (X : oz_E p l e R s m args below meth c Q cc nL Ts own wn D cI cZ ci T N KS ly ad A res hh G) {kc : Nat} (hQ : Q = vx_MQ below (oz_Qi D cI cZ ci ad ly res A) (oz_XC D cI cZ ci ad ly res A) args s kc (6 * kc) A) (hr : meth.sig.returnType = some .boolean) {v : Int32} (hk : k ≤ kc) (d : decode cc pc = .ok (.ireturn, 1)) : G k pc L [.int v] st (gd (oz_bit v) (some (0, v, st))) := by
  by_cases hb : oz_bit v = true
  · rw [gd, if_pos hb]
    refine oz_zret X hQ hr ?_ hk d
    rcases of_decide_eq_true hb with rfl | rfl <;> rfl
  · rw [gd, if_neg hb]
    obtain ⟨rfl, -⟩ := X
    intro ho
    cases ho
theorem oz_lret (X : oz_E p l e R s m args below meth c Q cc nL Ts own wn D cI cZ ci T N KS ly ad A res hh G) {kc : Nat} (hQ : Q = vx_MQ below (oz_Ql D cI cZ ci ad ly res A) (oz_XC D cI cZ ci ad ly res A) args s kc (6 * kc) A) (hr : meth.sig.returnType = some .long) {v : Int64} (hk : k ≤ kc) (d : decode cc pc = .ok (.lreturn, 1)) : G k pc L [.long v] st (some (lgc v, 0, st)) := by
  obtain ⟨rfl, ⟨hx, hb, hml, hown, hts⟩, hK, hD, hA, hC, hKS, hBX, hNC, hUZ, hN, hstt, hlk, htab⟩ := X
  intro ho H locs ls hP hS hl
  subst hQ
  refine W.widen (k := kc) (n := 6 * kc) hk (by omega) (vx_ret ?_)
  exact W.lret hx hb hr (fun t ht hW => ⟨⟨v, st, rfl, Option.some.inj ho, by unfold oz_B; rw [ht]; exact hP⟩, hS.F ht⟩) hS.2.2 d hlk
/-- no answer: nothing is owed -/
theorem oz_none (X : oz_E p l e R s m args below meth c Q cc nL Ts own wn D cI cZ ci T N KS ly ad A res hh G) : G k pc L S st none := by
  obtain ⟨rfl, -⟩ := X
  intro ho
  cases ho

/-- throw new E(text) -/
theorem oz_throw (X : oz_E p l e R s m args below meth c Q cc nL Ts own own D cI cZ ci T N KS ly ad A res [] G) {kc : Nat} {Qc : Array Value → State → Outcome → State → Prop} (hQ : Q = vx_MQ below Qc (oz_XC D cI cZ ci ad ly res A) args s kc (6 * kc) A) (en : Nat) {text : String} {ik is ic : Nat} (he : en ≠ 0 ∧ en < 4) (hstr : (is, text) ∈ KS) (hcls : Bundle.fit (oz_exn en) = true)
    (hk : Cond.classLink own ik (oz_exn en) ∈ Ts) (hini : Cond.initialized (oz_exn en) ∈ Ts) (hin1 : ∀ w ∈ (vx_atS own ic (oz_exn en) oz_names).filter goodWord, w ∈ Ts) (hin2 : ∀ w ∈ (vx_atS own ic (oz_exn en) oz_names).filter (fun w => !goodWord w), w ∈ oz_BX)
    (hgood : ∀ w ∈ Cond.classLink own ik (oz_exn en) :: Cond.initialized (oz_exn en) :: vx_atS own ic (oz_exn en) oz_names, vx_ot w = true)
    (d0 : decode cc pc = .ok (.new ik, 3)) (d3 : decode cc (pc + 3) = .ok (.dup, 1)) (d4 : decode cc (pc + 4) = .ok (.ldc is, 2)) (d6 : decode cc (pc + 6) = .ok (.invokespecial ic, 3)) (d9 : decode cc (pc + 9) = .ok (.athrow, 1))
    (hf : 5 < R.frames) (hl2 : (S.map fun v => v.category).sum + 82 ≤ R.locals) (hkc : k + 1 ≤ kc) (hkR : kc ≤ R.cells) (hkS : 6 * kc ≤ R.slots) : G k pc L S st (some (en, 0, bump st)) := by
  obtain ⟨rfl, ⟨hx, hb, hml, hown, hts⟩, hK, hD, hA, hC, hKS, hBX, hNC, hUZ, hN, hstt, hlk, htab⟩ := X
  intro ho H locs ls hP hS hl
  subst hQ
  obtain ⟨sa, hsa⟩ := hKS _ hstr
  refine vy_throwS (cls := oz_exn en) (text := text) (names := oz_names) (mc := kc) (ms := 6 * kc) (sa := sa) (A := A) hx hb hstt hown hcls (by decide +kernel) (hts _ hk) (hts _ hini) hsa (vx_hat (B := oz_BX) (fun w h => hts w (hin1 w h)) hin2 (fun w h => va_Nw.use (oz_BX_on w h) (hBX w h))) hgood hUZ hN hS (hl.1.trans hml.symm) d0 d3 d4 d6 d9 (fun x h => by rw [htab] at h; cases h) (by show 2 + 3 < R.frames; omega) (by show _ + (13 * (2 + 1) + 43) ≤ R.locals; omega) (by omega) (by omega) hlk ?_ hS.2.2 (by omega) (by omega)
  intro t hvm hz hq
  refine ⟨(en, bump st), ⟨Option.some.inj ho, he⟩, ⟨rfl, ?_, ?_⟩, Nat.le_trans hS.1 (by omega), fun q h1 h2 => by rw [hq q (Nat.lt_of_lt_of_le h1 hS.1)]; exact hS.2.1 q h1 h2⟩
  · exact fun j q hj => (hP.1 j q hj).kept (hq q.1 (vx_lt hP.1 hj))
  · have h1 := gh_bump ad st
    have h2 := hP.2
    show gh ad (bump st) ≤ t.heap.size
    omega

theorem oz_callV (X : oz_E p l e R s m args below meth c Q cc nL Ts own wn D cI cZ ci T N KS ly ad A res [] G) {kc0 kc : Nat} {Qc : Array Value → State → Outcome → State → Prop} (hQ : Q = vx_MQ below Qc (oz_XC D cI cZ ci ad ly res A) args s kc0 (6 * kc0) A) {y : MethodName} {ws ws' : List Cond} {rm : Room} {bytes : ByteArray} {maxL index n : Nat} {ret : Option FieldType} {As : List Value} {fo : Int32 → Option RC} {S0 : List Value} {f : Int32 → Int32 → Option RC}
    (hM : oz_MI l y ws rm D cI cZ own ci KS ad ly kc (.ref (ad 0) :: As) fo) (g : GoodIn Ts (wsV wn index own y ws)) (hw : ws = Cond.code y bytes maxL ret :: ws') (hrc : rm.cells = kc) (hrs : rm.slots = 6 * kc) (hd : y.cls = own ∧ y.cls ≠ "java/lang/invoke/MethodHandle" ∧ y.cls ≠ "java/lang/invoke/VarHandle" ∧ (parseMethodDescriptor y.desc).map (fun d => d.parameters.length) = some n) (hR : rm.frames + 1 ≤ R.frames ∧ 8 + (maxL + 11) + rm.locals ≤ R.locals)
    (hn : As.length = n) (hst : S0 = As.reverse ++ .ref (ad 0) :: S) (hW : (S.map fun v => v.category).sum ≤ 8) (d : decode cc pc = .ok (.invokevirtual index, 3)) (hkc : k + kc ≤ kc0) (hkR : kc0 ≤ R.cells) (hkS : 6 * kc0 ≤ R.slots) (kk : ∀ r st2, G (k + kc) (pc + 3) L (.int r :: S) st2 (f r st2)) : G k pc L S0 st (bnd (fo st) f) := by
  have hts := X.hts
  obtain ⟨rfl, ⟨hx, hb, hml, hown, -⟩, hK, hD, hA, hC, hKS, hBX, hNC, hUZ, hN, hstt, hlk, htab⟩ := X
  intro ho H locs ls hP hS hl
  subst hQ
  cases hfo : fo st with
  | none => rw [hfo] at ho; cases ho
  | some r0 =>
    have hAA : ∀ q, va_A (oz_wd ci cI cZ ad ly FX) H.size q → A q := fun q h => h.elim (fun ⟨j, e1, hj⟩ => hD.2 j _ hj) (fun h => hA q (Nat.le_trans hS.1 h))
    have cw := cwV n hts g hw hrc hrs hd hR
    refine vx_calli (vx_runV (As := As) (rest := S) ⟨hx, hb, hml, hown, hts⟩ (hM H.size st _ hfo) cw ⟨oz_Pre_blind, va_recv hK hP.1 (q0 := 0) hC.1 (oz_wd_obj ci cI cZ ad ly FX), fun U hU hW => ?_⟩ rfl hn hl.1 hst (lv_room hW) d ⟨by omega, by omega⟩) hS (fun q _ h => hAA q h) hAA (fun q _ h => hAA q h) (fun E ce q9 u t H1 locs1 ht hvm hp hB hz hkeep hS1 hq9 hcv hcl => ?_) (fun r u t H1 locs1 ht hvm hp hB hz hkeep hS1 => ?_)
    · refine ⟨rfl, by rw [hU], by rw [hU]; exact hP, va_K.moved hW.alike hK, hD.weaken (fun _ _ _ _ => trivial), fun q hq => (hKS q hq).elim fun sa h => ⟨sa, vk_R.warm hW h⟩, oz_BX_warm hW hBX, ow_NC_moved hW.alike hNC, ?_, ?_⟩
      · rw [hU]; exact ((vx_Zq.moved hW.alike hUZ).kept hS.2.1).narrow hAA
      · rw [hU]; exact ((vx_Zq.moved hW.alike hN).kept hS.2.1).narrow hAA
    · obtain ⟨hp1, hp2, hp3⟩ := hp
      obtain ⟨hE, hB⟩ := hB
      rw [hfo, ← hp1] at ho
      skip
      have ho2 : some (u.1, (0 : Int32), u.2) = some res := by
        have h9 : bnd (some (u.1, (0 : Int32), u.2)) f = some (u.1, 0, u.2) := by simp [bnd, hp2]
        rw [← ho]; exact h9.symm
      refine vx_outP hown hlk (fun z hz2 => by rw [htab] at hz2; cases hz2) hq9 hcv hcl (fun t2 ht2 hvm2 => ?_) hS1.2.2 hkc (by omega)
      refine ⟨u, ⟨Option.some.inj ho2, hp2, hp3⟩, ⟨hE, ?_⟩, ?_⟩
      · unfold oz_B at hB ⊢; rw [ht2, ← ht]; exact hB
      · exact hS1.F ht2
    · rw [hfo, ← hp] at ho
      unfold oz_B at hB
      rw [ht] at hB
      rw [show 6 * k + 6 * kc = 6 * (k + kc) from (Nat.mul_add 6 k kc).symm]
      exact kk r u (by simpa [bnd] using ho) H1 locs1 ls hB hS1 hl

theorem oz_callS (X : oz_E p l e R s m args below meth c Q cc nL Ts own wn D cI cZ ci T N KS ly ad A res [] G) {kc0 kc : Nat} {Qc : Array Value → State → Outcome → State → Prop} (hQ : Q = vx_MQ below Qc (oz_XC D cI cZ ci ad ly res A) args s kc0 (6 * kc0) A) {y : MethodName} {ws ws' : List Cond} {rm : Room} {bytes : ByteArray} {maxL index n : Nat} {ret : Option FieldType} {As : List Value} {fo : Int32 → Option RC} {S0 : List Value} {f : Int32 → Int32 → Option RC}
    (hM : oz_MI l y ws rm D cI cZ own ci KS ad ly kc As fo) (g : GoodIn Ts (va_wsS wn index y ws)) (hw : ws = Cond.code y bytes maxL ret :: ws') (hrc : rm.cells = kc) (hrs : rm.slots = 6 * kc) (hd : y.cls ≠ "java/lang/invoke/MethodHandle" ∧ y.cls ≠ "java/lang/invoke/VarHandle" ∧ (parseMethodDescriptor y.desc).map (fun d => d.parameters.length) = some n) (hR : rm.frames + 1 ≤ R.frames ∧ 8 + (maxL + 11) + rm.locals ≤ R.locals)
    (hn : As.length = n) (hst : S0 = As.reverse ++ S) (hW : (S.map fun v => v.category).sum ≤ 8) (d : decode cc pc = .ok (.invokestatic index, 3)) (hkc : k + kc ≤ kc0) (hkR : kc0 ≤ R.cells) (hkS : 6 * kc0 ≤ R.slots) (kk : ∀ r st2, G (k + kc) (pc + 3) L (.int r :: S) st2 (f r st2)) : G k pc L S0 st (bnd (fo st) f) := by
  have hts := X.hts
  obtain ⟨rfl, ⟨hx, hb, hml, hown, -⟩, hK, hD, hA, hC, hKS, hBX, hNC, hUZ, hN, hstt, hlk, htab⟩ := X
  intro ho H locs ls hP hS hl
  subst hQ
  cases hfo : fo st with
  | none => rw [hfo] at ho; cases ho
  | some r0 =>
    have hAA : ∀ q, va_A (oz_wd ci cI cZ ad ly FX) H.size q → A q := fun q h => h.elim (fun ⟨j, e1, hj⟩ => hD.2 j _ hj) (fun h => hA q (Nat.le_trans hS.1 h))
    have cw := va_cwS n hts g hw hrc hrs hd hR
    refine vx_calli (vx_runS (As := As) (rest := S) ⟨hx, hb, hml, hown, hts⟩ (hM H.size st _ hfo) cw ⟨oz_Pre_blind, fun U hU hW => ?_⟩ rfl hn hl.1 hst (lv_room hW) d ⟨by omega, by omega⟩) hS (fun q _ h => hAA q h) hAA (fun q _ h => hAA q h) (fun E ce q9 u t H1 locs1 ht hvm hp hB hz hkeep hS1 hq9 hcv hcl => ?_) (fun r u t H1 locs1 ht hvm hp hB hz hkeep hS1 => ?_)
    · refine ⟨rfl, by rw [hU], by rw [hU]; exact hP, va_K.moved hW.alike hK, hD.weaken (fun _ _ _ _ => trivial), fun q hq => (hKS q hq).elim fun sa h => ⟨sa, vk_R.warm hW h⟩, oz_BX_warm hW hBX, ow_NC_moved hW.alike hNC, ?_, ?_⟩
      · rw [hU]; exact ((vx_Zq.moved hW.alike hUZ).kept hS.2.1).narrow hAA
      · rw [hU]; exact ((vx_Zq.moved hW.alike hN).kept hS.2.1).narrow hAA
    · obtain ⟨hp1, hp2, hp3⟩ := hp
      obtain ⟨hE, hB⟩ := hB
      rw [hfo, ← hp1] at ho
      skip
      have ho2 : some (u.1, (0 : Int32), u.2) = some res := by
        have h9 : bnd (some (u.1, (0 : Int32), u.2)) f = some (u.1, 0, u.2) := by simp [bnd, hp2]
        rw [← ho]; exact h9.symm
      refine vx_outP hown hlk (fun z hz2 => by rw [htab] at hz2; cases hz2) hq9 hcv hcl (fun t2 ht2 hvm2 => ?_) hS1.2.2 hkc (by omega)
      refine ⟨u, ⟨Option.some.inj ho2, hp2, hp3⟩, ⟨hE, ?_⟩, ?_⟩
      · unfold oz_B at hB ⊢; rw [ht2, ← ht]; exact hB
      · exact hS1.F ht2
    · rw [hfo, ← hp] at ho
      unfold oz_B at hB
      rw [ht] at hB
      rw [show 6 * k + 6 * kc = 6 * (k + kc) from (Nat.mul_add 6 k kc).symm]
      exact kk r u (by simpa [bnd] using ho) H1 locs1 ls hB hS1 hl

theorem oz_callSL (X : oz_E p l e R s m args below meth c Q cc nL Ts own wn D cI cZ ci T N KS ly ad A res [] G) {kc0 kc : Nat} {Qc : Array Value → State → Outcome → State → Prop} (hQ : Q = vx_MQ below Qc (oz_XC D cI cZ ci ad ly res A) args s kc0 (6 * kc0) A) {y : MethodName} {ws ws' : List Cond} {rm : Room} {bytes : ByteArray} {maxL index n : Nat} {ret : Option FieldType} {As : List Value} {fo : Int32 → Option RC} {S0 : List Value} {f : Int64 → Int32 → Option RC}
    (hM : oz_ML l y ws rm D cI cZ own ci KS ad ly kc As fo) (g : GoodIn Ts (va_wsS wn index y ws)) (hw : ws = Cond.code y bytes maxL ret :: ws') (hrc : rm.cells = kc) (hrs : rm.slots = 6 * kc) (hd : y.cls ≠ "java/lang/invoke/MethodHandle" ∧ y.cls ≠ "java/lang/invoke/VarHandle" ∧ (parseMethodDescriptor y.desc).map (fun d => d.parameters.length) = some n) (hR : rm.frames + 1 ≤ R.frames ∧ 8 + (maxL + 11) + rm.locals ≤ R.locals)
    (hn : As.length = n) (hst : S0 = As.reverse ++ S) (hW : (S.map fun v => v.category).sum ≤ 8) (d : decode cc pc = .ok (.invokestatic index, 3)) (hkc : k + kc ≤ kc0) (hkR : kc0 ≤ R.cells) (hkS : 6 * kc0 ≤ R.slots) (kk : ∀ r st2, G (k + kc) (pc + 3) L (.long r :: S) st2 (f r st2)) : G k pc L S0 st (bndL (fo st) f) := by
  have hts := X.hts
  obtain ⟨rfl, ⟨hx, hb, hml, hown, -⟩, hK, hD, hA, hC, hKS, hBX, hNC, hUZ, hN, hstt, hlk, htab⟩ := X
  intro ho H locs ls hP hS hl
  subst hQ
  cases hfo : fo st with
  | none => rw [hfo] at ho; cases ho
  | some r0 =>
    have hAA : ∀ q, va_A (oz_wd ci cI cZ ad ly FX) H.size q → A q := fun q h => h.elim (fun ⟨j, e1, hj⟩ => hD.2 j _ hj) (fun h => hA q (Nat.le_trans hS.1 h))
    have cw := va_cwS n hts g hw hrc hrs hd hR
    refine vx_calll (vx_runS (As := As) (rest := S) ⟨hx, hb, hml, hown, hts⟩ (hM H.size st _ hfo) cw ⟨oz_Pre_blind, fun U hU hW => ?_⟩ rfl hn hl.1 hst (lv_room hW) d ⟨by omega, by omega⟩) hS (fun q _ h => hAA q h) hAA (fun q _ h => hAA q h) (fun E ce q9 u t H1 locs1 ht hvm hp hB hz hkeep hS1 hq9 hcv hcl => ?_) (fun r u t H1 locs1 ht hvm hp hB hz hkeep hS1 => ?_)
    · refine ⟨rfl, by rw [hU], by rw [hU]; exact hP, va_K.moved hW.alike hK, hD.weaken (fun _ _ _ _ => trivial), fun q hq => (hKS q hq).elim fun sa h => ⟨sa, vk_R.warm hW h⟩, oz_BX_warm hW hBX, ow_NC_moved hW.alike hNC, ?_, ?_⟩
      · rw [hU]; exact ((vx_Zq.moved hW.alike hUZ).kept hS.2.1).narrow hAA
      · rw [hU]; exact ((vx_Zq.moved hW.alike hN).kept hS.2.1).narrow hAA
    · obtain ⟨hp1, hp2, hp3⟩ := hp
      obtain ⟨hE, hB⟩ := hB
      rw [hfo, ← hp1] at ho
      exfalso; simp [bndL, hp3] at ho
    · rw [hfo, ← hp] at ho
      unfold oz_B at hB
      rw [ht] at hB
      rw [show 6 * k + 6 * kc = 6 * (k + kc) from (Nat.mul_add 6 k kc).symm]
      refine kk r u ?_ H1 locs1 ls hB hS1 hl
      rw [← ho]
      show f r u = if lgc r < 4 then none else f (Int64.ofNat (lgc r - 4)) u
      rw [if_neg (by unfold lgc; omega), lgc_back]

theorem oz_callSX (X : oz_E p l e R s m args below meth c Q cc nL Ts own wn D cI cZ ci T N KS ly ad A res [] G) {kc0 kc : Nat} {Qc : Array Value → State → Outcome → State → Prop} (hQ : Q = vx_MQ below Qc (oz_XC D cI cZ ci ad ly res A) args s kc0 (6 * kc0) A) {y : MethodName} {ws ws' : List Cond} {rm : Room} {bytes : ByteArray} {maxL index n : Nat} {ret : Option FieldType} {hx2 : List (Nat × Nat × Nat × Nat)} {As : List Value} {fo : Int32 → Option RC} {S0 : List Value} {f : Int32 → Int32 → Option RC}
    (hM : oz_MI l y ws rm D cI cZ own ci KS ad ly kc As fo) (g : GoodIn Ts (va_wsS wn index y ws)) (hw : ws = Cond.codeWith y bytes maxL ret hx2 :: ws') (hrc : rm.cells = kc) (hrs : rm.slots = 6 * kc) (hd : y.cls ≠ "java/lang/invoke/MethodHandle" ∧ y.cls ≠ "java/lang/invoke/VarHandle" ∧ (parseMethodDescriptor y.desc).map (fun d => d.parameters.length) = some n) (hR : rm.frames + 1 ≤ R.frames ∧ 8 + (maxL + 11) + rm.locals ≤ R.locals)
    (hn : As.length = n) (hst : S0 = As.reverse ++ S) (hW : (S.map fun v => v.category).sum ≤ 8) (d : decode cc pc = .ok (.invokestatic index, 3)) (hkc : k + kc ≤ kc0) (hkR : kc0 ≤ R.cells) (hkS : 6 * kc0 ≤ R.slots) (kk : ∀ r st2, G (k + kc) (pc + 3) L (.int r :: S) st2 (f r st2)) : G k pc L S0 st (bnd (fo st) f) := by
  have hts := X.hts
  obtain ⟨rfl, ⟨hx, hb, hml, hown, -⟩, hK, hD, hA, hC, hKS, hBX, hNC, hUZ, hN, hstt, hlk, htab⟩ := X
  intro ho H locs ls hP hS hl
  subst hQ
  cases hfo : fo st with
  | none => rw [hfo] at ho; cases ho
  | some r0 =>
    have hAA : ∀ q, va_A (oz_wd ci cI cZ ad ly FX) H.size q → A q := fun q h => h.elim (fun ⟨j, e1, hj⟩ => hD.2 j _ hj) (fun h => hA q (Nat.le_trans hS.1 h))
    have cw := vx_cwSW n hts g hw hrc hrs hd hR
    refine vx_calli (vx_runSX (As := As) (rest := S) ⟨hx, hb, hml, hown, hts⟩ (hM H.size st _ hfo) cw ⟨oz_Pre_blind, fun U hU hW => ?_⟩ rfl hn hl.1 hst (lv_room hW) d ⟨by omega, by omega⟩) hS (fun q _ h => hAA q h) hAA (fun q _ h => hAA q h) (fun E ce q9 u t H1 locs1 ht hvm hp hB hz hkeep hS1 hq9 hcv hcl => ?_) (fun r u t H1 locs1 ht hvm hp hB hz hkeep hS1 => ?_)
    · refine ⟨rfl, by rw [hU], by rw [hU]; exact hP, va_K.moved hW.alike hK, hD.weaken (fun _ _ _ _ => trivial), fun q hq => (hKS q hq).elim fun sa h => ⟨sa, vk_R.warm hW h⟩, oz_BX_warm hW hBX, ow_NC_moved hW.alike hNC, ?_, ?_⟩
      · rw [hU]; exact ((vx_Zq.moved hW.alike hUZ).kept hS.2.1).narrow hAA
      · rw [hU]; exact ((vx_Zq.moved hW.alike hN).kept hS.2.1).narrow hAA
    · obtain ⟨hp1, hp2, hp3⟩ := hp
      obtain ⟨hE, hB⟩ := hB
      rw [hfo, ← hp1] at ho
      skip
      have ho2 : some (u.1, (0 : Int32), u.2) = some res := by
        have h9 : bnd (some (u.1, (0 : Int32), u.2)) f = some (u.1, 0, u.2) := by simp [bnd, hp2]
        rw [← ho]; exact h9.symm
      refine vx_outP hown hlk (fun z hz2 => by rw [htab] at hz2; cases hz2) hq9 hcv hcl (fun t2 ht2 hvm2 => ?_) hS1.2.2 hkc (by omega)
      refine ⟨u, ⟨Option.some.inj ho2, hp2, hp3⟩, ⟨hE, ?_⟩, ?_⟩
      · unfold oz_B at hB ⊢; rw [ht2, ← ht]; exact hB
      · exact hS1.F ht2
    · rw [hfo, ← hp] at ho
      unfold oz_B at hB
      rw [ht] at hB
      rw [show 6 * k + 6 * kc = 6 * (k + kc) from (Nat.mul_add 6 k kc).symm]
      exact kk r u (by simpa [bnd] using ho) H1 locs1 ls hB hS1 hl

/-- act's answer for what is thrown -/
def actc (o : Option RC) : Option RC := match o with
  | none => none
  | some (e, _, st) => if e = 1 then some (0, -1211, st) else if e = 3 then some (0, -1212, st) else if e = 2 then some (0, -1213, st) else none
def ofc (o : Option RC) : Option RC := match o with
  | none => none
  | some (e, _, st) => if e = 1 then some (0, -1211, st) else none
theorem oz_callA (X : oz_E p l e R s m args below meth c Q cc nL Ts own wn D cI cZ ci T N KS ly ad A res [(0, 98, 99, 37), (0, 98, 105, 39), (0, 98, 111, 41)] G) {kc0 kc : Nat} (hQ : Q = vx_MQ below (oz_Qi D cI cZ ci ad ly res A) (oz_XC D cI cZ ci ad ly res A) args s kc0 (6 * kc0) A) {y : MethodName} {ws ws' : List Cond} {rm : Room} {bytes : ByteArray} {maxL index n : Nat} {ret : Option FieldType} {As : List Value} {fo : Int32 → Option RC} {S0 : List Value}
    (hM : oz_MI l y ws rm D cI cZ own ci KS ad ly kc (.ref (ad 0) :: As) fo) (g : GoodIn Ts (wsV wn index own y ws)) (hw : ws = Cond.code y bytes maxL ret :: ws') (hrc : rm.cells = kc) (hrs : rm.slots = 6 * kc) (hd : y.cls = own ∧ y.cls ≠ "java/lang/invoke/MethodHandle" ∧ y.cls ≠ "java/lang/invoke/VarHandle" ∧ (parseMethodDescriptor y.desc).map (fun d => d.parameters.length) = some n) (hR : rm.frames + 1 ≤ R.frames ∧ 8 + (maxL + 11) + rm.locals ≤ R.locals)
    (hr : meth.sig.returnType = some .int) (hn : As.length = n) (hst : S0 = As.reverse ++ .ref (ad 0) :: []) (d : decode cc pc = .ok (.invokevirtual index, 3)) (hkc : k + kc ≤ kc0) (hkR : kc0 ≤ R.cells) (hkS : 6 * kc0 ≤ R.slots) (hlv : 4 < nL)
    (hpc : pc < 98) (tl1 : Cond.classLink wn 37 (oz_exn 1) ∈ Ts) (tl3 : Cond.classLink wn 39 (oz_exn 3) ∈ Ts) (tl2 : Cond.classLink wn 41 (oz_exn 2) ∈ Ts)
    (da1 : decode cc 99 = .ok (.astore 4, 2)) (db1 : decode cc (99 + 2) = .ok (.sipush (-1211), 3)) (dc1 : decode cc (99 + 2 + 3) = .ok (.ireturn, 1)) (da3 : decode cc 105 = .ok (.astore 4, 2)) (db3 : decode cc (105 + 2) = .ok (.sipush (-1212), 3)) (dc3 : decode cc (105 + 2 + 3) = .ok (.ireturn, 1)) (da2 : decode cc 111 = .ok (.astore 4, 2)) (db2 : decode cc (111 + 2) = .ok (.sipush (-1213), 3)) (dc2 : decode cc (111 + 2 + 3) = .ok (.ireturn, 1)) : G k pc L S0 st (actc (fo st)) := by
  have hts := X.hts
  have X9 := X
  obtain ⟨rfl, ⟨hx, hb, hml, hown, -⟩, hK, hD, hA, hC, hKS, hBX, hNC, hUZ, hN, hstt, hlk, htab⟩ := X
  intro ho H locs ls hP hS hl
  subst hQ
  cases hfo : fo st with
  | none => rw [hfo] at ho; cases ho
  | some r0 =>
    have hAA : ∀ q, va_A (oz_wd ci cI cZ ad ly FX) H.size q → A q := fun q h => h.elim (fun ⟨j, e1, hj⟩ => hD.2 j _ hj) (fun h => hA q (Nat.le_trans hS.1 h))
    have cw := cwV n hts g hw hrc hrs hd hR
    refine vx_calli (vx_runV (As := As) (rest := []) ⟨hx, hb, hml, hown, hts⟩ (hM H.size st _ hfo) cw ⟨oz_Pre_blind, va_recv hK hP.1 (q0 := 0) hC.1 (oz_wd_obj ci cI cZ ad ly FX), fun U hU hW => ?_⟩ rfl hn hl.1 hst (lv_room (Nat.zero_le _)) d ⟨by omega, by omega⟩) hS (fun q _ h => hAA q h) hAA (fun q _ h => hAA q h) (fun E ce q9 u t H1 locs1 ht hvm hp hB hz hkeep hS1 hq9 hcv hcl => ?_) (fun r u t H1 locs1 ht hvm hp hB hz hkeep hS1 => ?_)
    · refine ⟨rfl, by rw [hU], by rw [hU]; exact hP, va_K.moved hW.alike hK, hD.weaken (fun _ _ _ _ => trivial), fun q hq => (hKS q hq).elim fun sa h => ⟨sa, vk_R.warm hW h⟩, oz_BX_warm hW hBX, ow_NC_moved hW.alike hNC, ?_, ?_⟩
      · rw [hU]; exact ((vx_Zq.moved hW.alike hUZ).kept hS.2.1).narrow hAA
      · rw [hU]; exact ((vx_Zq.moved hW.alike hN).kept hS.2.1).narrow hAA
    · obtain ⟨hp1, hp2, hp3⟩ := hp
      obtain ⟨hE, hB⟩ := hB
      rw [hfo, ← hp1] at ho
      unfold oz_B at hB
      rw [ht] at hB
      rw [show 6 * k + 6 * kc = 6 * (k + kc) from (Nat.mul_add 6 k kc).symm]
      have hq1 := hBX (.castable "java/lang/IndexOutOfBoundsException" "java/lang/IndexOutOfBoundsException") (List.mem_of_getElem? (i := 3) rfl)
      have hq2 := hBX (.castable "java/lang/IllegalStateException" "java/lang/IllegalStateException") (List.mem_of_getElem? (i := 4) rfl)
      have hq3 := hBX (.castable "java/lang/IllegalArgumentException" "java/lang/IllegalArgumentException") (List.mem_of_getElem? (i := 5) rfl)
      obtain ⟨en, stv⟩ := u
      simp only at hp1 hp2 hp3 hE hB ho
      have h123 : en = 1 ∨ en = 2 ∨ en = 3 := by omega
      rcases h123 with rfl | rfl | rfl
      · skip
        refine vx_catch (name := "java/lang/IndexOutOfBoundsException") hown [] ⟨0, 98, 99, 37⟩ [⟨0, 98, 105, 39⟩, ⟨0, 98, 111, 41⟩] htab (fun z hz => nomatch hz) (by simp [covers]; omega) (by decide) (hts _ tl1) (va_Nw.use rfl hq1) hq9 hcv (by rw [hE] at hcl; exact hcl) ?_
        refine lv_astore hx hb da1 hl hlv rfl (fun ls2 hl2 => ?_)
        refine lv_sipush (v := -1211) hx hb db1 (by decide) ?_
        have X10 := (oz_iret (k := k + kc) (L := []) (v := -1211) (st := stv) X9 rfl hr hkc dc1)
        exact X10 (by rw [← ho]; simp [actc]) H1 locs1 ls2 hB hS1 (lv_sub hl2 [] rfl)
      · skip
        refine vx_catch (name := "java/lang/IllegalStateException") hown [⟨0, 98, 99, 37⟩, ⟨0, 98, 105, 39⟩] ⟨0, 98, 111, 41⟩ [] htab (fun z hz => (List.mem_cons.mp hz).elim (fun h => by rw [h]; exact Or.inr ⟨by decide, "java/lang/IndexOutOfBoundsException", hts _ tl1, hNC.1⟩) (fun h => by rw [List.mem_singleton.mp h]; exact Or.inr ⟨by decide, "java/lang/IllegalArgumentException", hts _ tl3, hNC.2.2⟩)) (by simp [covers]; omega) (by decide) (hts _ tl2) (va_Nw.use rfl hq2) hq9 hcv (by rw [hE] at hcl; exact hcl) ?_
        refine lv_astore hx hb da2 hl hlv rfl (fun ls2 hl2 => ?_)
        refine lv_sipush (v := -1213) hx hb db2 (by decide) ?_
        have X10 := (oz_iret (k := k + kc) (L := []) (v := -1213) (st := stv) X9 rfl hr hkc dc2)
        exact X10 (by rw [← ho]; simp [actc]) H1 locs1 ls2 hB hS1 (lv_sub hl2 [] rfl)
      · skip
        refine vx_catch (name := "java/lang/IllegalArgumentException") hown [⟨0, 98, 99, 37⟩] ⟨0, 98, 105, 39⟩ [⟨0, 98, 111, 41⟩] htab (fun z hz => by rw [List.mem_singleton.mp hz]; exact Or.inr ⟨by decide, "java/lang/IndexOutOfBoundsException", hts _ tl1, hNC.2.1⟩) (by simp [covers]; omega) (by decide) (hts _ tl3) (va_Nw.use rfl hq3) hq9 hcv (by rw [hE] at hcl; exact hcl) ?_
        refine lv_astore hx hb da3 hl hlv rfl (fun ls2 hl2 => ?_)
        refine lv_sipush (v := -1212) hx hb db3 (by decide) ?_
        have X10 := (oz_iret (k := k + kc) (L := []) (v := -1212) (st := stv) X9 rfl hr hkc dc3)
        exact X10 (by rw [← ho]; simp [actc]) H1 locs1 ls2 hB hS1 (lv_sub hl2 [] rfl)
    · exfalso
      rw [hfo, ← hp] at ho
      simp [actc] at ho

theorem oz_callO (X : oz_E p l e R s m args below meth c Q cc nL Ts own wn D cI cZ ci T N KS ly ad A res [(0, 202, 203, 37)] G) {kc0 kc : Nat} (hQ : Q = vx_MQ below (oz_Qi D cI cZ ci ad ly res A) (oz_XC D cI cZ ci ad ly res A) args s kc0 (6 * kc0) A) {y : MethodName} {ws ws' : List Cond} {rm : Room} {bytes : ByteArray} {maxL index n : Nat} {ret : Option FieldType} {As : List Value} {fo : Int32 → Option RC} {S0 : List Value}
    (hM : oz_MI l y ws rm D cI cZ own ci KS ad ly kc (.ref (ad 0) :: As) fo) (g : GoodIn Ts (wsV wn index own y ws)) (hw : ws = Cond.code y bytes maxL ret :: ws') (hrc : rm.cells = kc) (hrs : rm.slots = 6 * kc) (hd : y.cls = own ∧ y.cls ≠ "java/lang/invoke/MethodHandle" ∧ y.cls ≠ "java/lang/invoke/VarHandle" ∧ (parseMethodDescriptor y.desc).map (fun d => d.parameters.length) = some n) (hR : rm.frames + 1 ≤ R.frames ∧ 8 + (maxL + 11) + rm.locals ≤ R.locals)
    (hr : meth.sig.returnType = some .int) (hn : As.length = n) (hst : S0 = As.reverse ++ .ref (ad 0) :: []) (d : decode cc pc = .ok (.invokevirtual index, 3)) (hkc : k + kc ≤ kc0) (hkR : kc0 ≤ R.cells) (hkS : 6 * kc0 ≤ R.slots) (hlv : 3 < nL)
    (hpc : pc < 202) (tl1 : Cond.classLink wn 37 (oz_exn 1) ∈ Ts)
    (da1 : decode cc 203 = .ok (.astore_n 3, 1)) (db1 : decode cc (203 + 1) = .ok (.sipush (-1211), 3)) (dc1 : decode cc (203 + 1 + 3) = .ok (.ireturn, 1)) : G k pc L S0 st (ofc (fo st)) := by
  have hts := X.hts
  have X9 := X
  obtain ⟨rfl, ⟨hx, hb, hml, hown, -⟩, hK, hD, hA, hC, hKS, hBX, hNC, hUZ, hN, hstt, hlk, htab⟩ := X
  intro ho H locs ls hP hS hl
  subst hQ
  cases hfo : fo st with
  | none => rw [hfo] at ho; cases ho
  | some r0 =>
    have hAA : ∀ q, va_A (oz_wd ci cI cZ ad ly FX) H.size q → A q := fun q h => h.elim (fun ⟨j, e1, hj⟩ => hD.2 j _ hj) (fun h => hA q (Nat.le_trans hS.1 h))
    have cw := cwV n hts g hw hrc hrs hd hR
    refine vx_calli (vx_runV (As := As) (rest := []) ⟨hx, hb, hml, hown, hts⟩ (hM H.size st _ hfo) cw ⟨oz_Pre_blind, va_recv hK hP.1 (q0 := 0) hC.1 (oz_wd_obj ci cI cZ ad ly FX), fun U hU hW => ?_⟩ rfl hn hl.1 hst (lv_room (Nat.zero_le _)) d ⟨by omega, by omega⟩) hS (fun q _ h => hAA q h) hAA (fun q _ h => hAA q h) (fun E ce q9 u t H1 locs1 ht hvm hp hB hz hkeep hS1 hq9 hcv hcl => ?_) (fun r u t H1 locs1 ht hvm hp hB hz hkeep hS1 => ?_)
    · refine ⟨rfl, by rw [hU], by rw [hU]; exact hP, va_K.moved hW.alike hK, hD.weaken (fun _ _ _ _ => trivial), fun q hq => (hKS q hq).elim fun sa h => ⟨sa, vk_R.warm hW h⟩, oz_BX_warm hW hBX, ow_NC_moved hW.alike hNC, ?_, ?_⟩
      · rw [hU]; exact ((vx_Zq.moved hW.alike hUZ).kept hS.2.1).narrow hAA
      · rw [hU]; exact ((vx_Zq.moved hW.alike hN).kept hS.2.1).narrow hAA
    · obtain ⟨hp1, hp2, hp3⟩ := hp
      obtain ⟨hE, hB⟩ := hB
      rw [hfo, ← hp1] at ho
      unfold oz_B at hB
      rw [ht] at hB
      rw [show 6 * k + 6 * kc = 6 * (k + kc) from (Nat.mul_add 6 k kc).symm]
      have hq1 := hBX (.castable "java/lang/IndexOutOfBoundsException" "java/lang/IndexOutOfBoundsException") (List.mem_of_getElem? (i := 3) rfl)
      have hq2 := hBX (.castable "java/lang/IllegalStateException" "java/lang/IllegalStateException") (List.mem_of_getElem? (i := 4) rfl)
      have hq3 := hBX (.castable "java/lang/IllegalArgumentException" "java/lang/IllegalArgumentException") (List.mem_of_getElem? (i := 5) rfl)
      obtain ⟨en, stv⟩ := u
      simp only at hp1 hp2 hp3 hE hB ho
      have h123 : en = 1 ∨ en = 2 ∨ en = 3 := by omega
      rcases h123 with rfl | rfl | rfl
      · skip
        refine vx_catch (name := "java/lang/IndexOutOfBoundsException") hown [] ⟨0, 202, 203, 37⟩ [] htab (fun z hz => nomatch hz) (by simp [covers]; omega) (by decide) (hts _ tl1) (va_Nw.use rfl hq1) hq9 hcv (by rw [hE] at hcl; exact hcl) ?_
        refine lv_astore_n hx hb da1 rfl hl hlv rfl (fun ls2 hl2 => ?_)
        refine lv_sipush (v := -1211) hx hb db1 (by decide) ?_
        have X10 := (oz_iret (k := k + kc) (L := []) (v := -1211) (st := stv) X9 rfl hr hkc dc1)
        exact X10 (by rw [← ho]; simp [ofc]) H1 locs1 ls2 hB hS1 (lv_sub hl2 [] rfl)
      · exfalso; simp [ofc] at ho
      · exfalso; simp [ofc] at ho
    · exfalso
      rw [hfo, ← hp] at ho
      simp [ofc] at ho

end OZ
/-- a contract out of a road from the entry -/
theorem oz_ofI {l : Launch} {y : MethodName} {ws ws' : List Cond} {rm : Room} {D : va_G} {cI cZ : ClassId} {own wn : String} {ci : Nat} {T : u_T} {N : Nat} {KS : KSt} {ad : Nat → Nat} {ly : LY} {kc : Nat} {av : List Value} {o : Int32 → Option RC} {bytes : ByteArray} {maxL : Nat} {ret : Option FieldType} (hy : plainName y.cls = true) (hw : ws = Cond.code y bytes maxL ret :: ws') (hcls : y.cls = wn) (hC : oz_C own ci T N ly) (hst : l.stackTraces = false) (hlen : (lg_sl av).length ≤ maxL)
    (body : ∀ (p : Program) (e : Env) (s : State) (m : MethodId) (below : List Frame) (meth : Method) (c : Code) (st : Int32) (A : Nat → Prop) (res : RC) (G : Nat → Nat → List (Nat × Value) → List Value → Int32 → Option RC → Prop), meth.sig.returnType = ret →
      oz_E p l e rm s m av.toArray below meth c (vx_MQ below (oz_Qi D cI cZ ci ad ly res A) (oz_XC D cI cZ ci ad ly res A) av.toArray s kc (6 * kc) A) bytes maxL ws own wn D cI cZ ci T N KS ly ad A res [] G → G 0 0 (lv_args 0 av) [] st (o st)) : oz_MI l y ws rm D cI cZ own ci KS ad ly kc av o := by
  intro sz st res ho
  refine vx_ofW (cc := bytes) (maxL := maxL) (ret := ret) hy hw ?_
  intro p e s m args below meth c s₁ B hml hex hv
  obtain ⟨rfl, hsz, hP, hK, hD0, hKS, hBX, hNC, hU, hN⟩ := hv
  have hx := B.exec
  have hb := B.bytes
  have hr := B.returns
  have hts := atoms_spec (ws := ws) B.pre
  have hown : s.vm.findClass wn = some m.cls := by rw [← hcls]; exact findClass_of_methodNamed B.named
  have htab : c.exceptionTable.toList = ([] : List (Nat × Nat × Nat × Nat)).map (fun h => { startPc := h.1, endPc := h.2.1, handlerPc := h.2.2.1, catchType := h.2.2.2 }) := List.eq_nil_iff_forall_not_mem.mpr (fun x h => hex x h)
  subst hsz
  generalize hAe : va_A (oz_wd ci cI cZ ad ly FX) s.heap.size = A at hU hN ⊢
  have hD : va_D A (oz_wd ci cI cZ ad ly FX) := by
    rw [← hAe]
    exact hD0.self (sz := s.heap.size)
  have hA : ∀ q : Nat, s.heap.size ≤ q → A q := fun q h => by rw [← hAe]; exact Or.inr h
  have hl := lv_entry av (n := maxL) hlen
  rw [lg_entry_eq]
  generalize (lg_sl av ++ List.replicate (maxL - (lg_sl av).length) Slot.unset).toArray = ls at hl ⊢
  exact body p e s m below meth c st A res _ hr ⟨rfl, ⟨hx, hb, hml, hown, hts⟩, hK, hD, hA, hC, hKS, hBX, hNC, hU, hN, hst, B.notSynchronized, htab⟩ ho s.heap [] ls hP va_S.rf hl

/-- a contract out of a road from the entry -/
theorem oz_ofL {l : Launch} {y : MethodName} {ws ws' : List Cond} {rm : Room} {D : va_G} {cI cZ : ClassId} {own wn : String} {ci : Nat} {T : u_T} {N : Nat} {KS : KSt} {ad : Nat → Nat} {ly : LY} {kc : Nat} {av : List Value} {o : Int32 → Option RC} {bytes : ByteArray} {maxL : Nat} {ret : Option FieldType} (hy : plainName y.cls = true) (hw : ws = Cond.code y bytes maxL ret :: ws') (hcls : y.cls = wn) (hC : oz_C own ci T N ly) (hst : l.stackTraces = false) (hlen : (lg_sl av).length ≤ maxL)
    (body : ∀ (p : Program) (e : Env) (s : State) (m : MethodId) (below : List Frame) (meth : Method) (c : Code) (st : Int32) (A : Nat → Prop) (res : RC) (G : Nat → Nat → List (Nat × Value) → List Value → Int32 → Option RC → Prop), meth.sig.returnType = ret →
      oz_E p l e rm s m av.toArray below meth c (vx_MQ below (oz_Ql D cI cZ ci ad ly res A) (oz_XC D cI cZ ci ad ly res A) av.toArray s kc (6 * kc) A) bytes maxL ws own wn D cI cZ ci T N KS ly ad A res [] G → G 0 0 (lv_args 0 av) [] st (o st)) : oz_ML l y ws rm D cI cZ own ci KS ad ly kc av o := by
  intro sz st res ho
  refine vx_ofW (cc := bytes) (maxL := maxL) (ret := ret) hy hw ?_
  intro p e s m args below meth c s₁ B hml hex hv
  obtain ⟨rfl, hsz, hP, hK, hD0, hKS, hBX, hNC, hU, hN⟩ := hv
  have hx := B.exec
  have hb := B.bytes
  have hr := B.returns
  have hts := atoms_spec (ws := ws) B.pre
  have hown : s.vm.findClass wn = some m.cls := by rw [← hcls]; exact findClass_of_methodNamed B.named
  have htab : c.exceptionTable.toList = ([] : List (Nat × Nat × Nat × Nat)).map (fun h => { startPc := h.1, endPc := h.2.1, handlerPc := h.2.2.1, catchType := h.2.2.2 }) := List.eq_nil_iff_forall_not_mem.mpr (fun x h => hex x h)
  subst hsz
  generalize hAe : va_A (oz_wd ci cI cZ ad ly FX) s.heap.size = A at hU hN ⊢
  have hD : va_D A (oz_wd ci cI cZ ad ly FX) := by
    rw [← hAe]
    exact hD0.self (sz := s.heap.size)
  have hA : ∀ q : Nat, s.heap.size ≤ q → A q := fun q h => by rw [← hAe]; exact Or.inr h
  have hl := lv_entry av (n := maxL) hlen
  rw [lg_entry_eq]
  generalize (lg_sl av ++ List.replicate (maxL - (lg_sl av).length) Slot.unset).toArray = ls at hl ⊢
  exact body p e s m below meth c st A res _ hr ⟨rfl, ⟨hx, hb, hml, hown, hts⟩, hK, hD, hA, hC, hKS, hBX, hNC, hU, hN, hst, B.notSynchronized, htab⟩ ho s.heap [] ls hP va_S.rf hl

/-- a contract out of a road from the entry -/
theorem oz_ofIX {l : Launch} {y : MethodName} {ws ws' : List Cond} {rm : Room} {D : va_G} {cI cZ : ClassId} {own wn : String} {ci : Nat} {T : u_T} {N : Nat} {KS : KSt} {ad : Nat → Nat} {ly : LY} {kc : Nat} {av : List Value} {o : Int32 → Option RC} {bytes : ByteArray} {maxL : Nat} {ret : Option FieldType} {hh : List (Nat × Nat × Nat × Nat)} (hy : plainName y.cls = true) (hw : ws = Cond.codeWith y bytes maxL ret hh :: ws') (hcls : y.cls = wn) (hC : oz_C own ci T N ly) (hst : l.stackTraces = false) (hlen : (lg_sl av).length ≤ maxL)
    (body : ∀ (p : Program) (e : Env) (s : State) (m : MethodId) (below : List Frame) (meth : Method) (c : Code) (st : Int32) (A : Nat → Prop) (res : RC) (G : Nat → Nat → List (Nat × Value) → List Value → Int32 → Option RC → Prop), meth.sig.returnType = ret →
      oz_E p l e rm s m av.toArray below meth c (vx_MQ below (oz_Qi D cI cZ ci ad ly res A) (oz_XC D cI cZ ci ad ly res A) av.toArray s kc (6 * kc) A) bytes maxL ws own wn D cI cZ ci T N KS ly ad A res hh G → G 0 0 (lv_args 0 av) [] st (o st)) : oz_MI l y ws rm D cI cZ own ci KS ad ly kc av o := by
  intro sz st res ho
  refine vx_ofWH (cc := bytes) (maxL := maxL) (ret := ret) (hh := hh) hy hw ?_
  intro p e s m args below meth c s₁ B hml hv
  obtain ⟨rfl, hsz, hP, hK, hD0, hKS, hBX, hNC, hU, hN⟩ := hv
  have hx := B.exec
  have hb := B.bytes
  have hr := B.returns
  have hts := atoms_spec (ws := ws) B.pre
  have hown : s.vm.findClass wn = some m.cls := by rw [← hcls]; exact findClass_of_methodNamed B.named
  have htab : c.exceptionTable.toList = hh.map (fun h => { startPc := h.1, endPc := h.2.1, handlerPc := h.2.2.1, catchType := h.2.2.2 }) := by
    have h9 := vx_table (x := y) B (hts (Cond.codeWith y bytes maxL ret hh) (by rw [hw]; exact List.mem_cons_self))
    exact h9
  subst hsz
  generalize hAe : va_A (oz_wd ci cI cZ ad ly FX) s.heap.size = A at hU hN ⊢
  have hD : va_D A (oz_wd ci cI cZ ad ly FX) := by
    rw [← hAe]
    exact hD0.self (sz := s.heap.size)
  have hA : ∀ q : Nat, s.heap.size ≤ q → A q := fun q h => by rw [← hAe]; exact Or.inr h
  have hl := lv_entry av (n := maxL) hlen
  rw [lg_entry_eq]
  generalize (lg_sl av ++ List.replicate (maxL - (lg_sl av).length) Slot.unset).toArray = ls at hl ⊢
  exact body p e s m below meth c st A res _ hr ⟨rfl, ⟨hx, hb, hml, hown, hts⟩, hK, hD, hA, hC, hKS, hBX, hNC, hU, hN, hst, B.notSynchronized, htab⟩ ho s.heap [] ls hP va_S.rf hl
end
section
def oz_lyX0 : LY := [(5, false), (5, false), (5, false), (5, false), (12, false), (12, false), (12, false), (12, true), (12, false), (60, false), (60, false), (60, false), (60, true), (60, false), (0, false), (0, false), (0, false), (0, false), (0, false)]
def oz_KSX0 : KSt := [(81, "no such process"), (88, "wage is out of range"), (91, "rate is out of range"), (107, "no such frame"), (109, "the frame is free"), (113, "no page is there"), (122, "no such process or page"), (138, "no such loan"), (148, "ticks is out of range"), (162, "place is below 0")]
theorem oz_CX0 : oz_C RX0 0 TX0 19 oz_lyX0 := ⟨rfl, rfl, by decide +kernel, by decide⟩
theorem oz_KSX0_81 : (81, "no such process") ∈ oz_KSX0 := by decide +kernel
theorem oz_KSX0_88 : (88, "wage is out of range") ∈ oz_KSX0 := by decide +kernel
theorem oz_KSX0_91 : (91, "rate is out of range") ∈ oz_KSX0 := by decide +kernel
theorem oz_KSX0_107 : (107, "no such frame") ∈ oz_KSX0 := by decide +kernel
theorem oz_KSX0_109 : (109, "the frame is free") ∈ oz_KSX0 := by decide +kernel
theorem oz_KSX0_113 : (113, "no page is there") ∈ oz_KSX0 := by decide +kernel
theorem oz_KSX0_122 : (122, "no such process or page") ∈ oz_KSX0 := by decide +kernel
theorem oz_KSX0_138 : (138, "no such loan") ∈ oz_KSX0 := by decide +kernel
theorem oz_KSX0_148 : (148, "ticks is out of range") ∈ oz_KSX0 := by decide +kernel
theorem oz_KSX0_162 : (162, "place is below 0") ∈ oz_KSX0 := by decide +kernel
theorem oz_tbX0_1 : ∀ w ∈ (vx_atS RX0 83 (oz_exn 1) oz_names).filter (fun w => !goodWord w), w ∈ oz_BX := by decide +kernel
theorem oz_twX0_1 : ∀ w ∈ Cond.classLink RX0 79 (oz_exn 1) :: Cond.initialized (oz_exn 1) :: vx_atS RX0 83 (oz_exn 1) oz_names, vx_ot w = true := by decide +kernel
theorem oz_tbX0_2 : ∀ w ∈ (vx_atS RX0 97 (oz_exn 2) oz_names).filter (fun w => !goodWord w), w ∈ oz_BX := by decide +kernel
theorem oz_twX0_2 : ∀ w ∈ Cond.classLink RX0 93 (oz_exn 2) :: Cond.initialized (oz_exn 2) :: vx_atS RX0 97 (oz_exn 2) oz_names, vx_ot w = true := by decide +kernel
theorem oz_tbX0_3 : ∀ w ∈ (vx_atS RX0 90 (oz_exn 3) oz_names).filter (fun w => !goodWord w), w ∈ oz_BX := by decide +kernel
theorem oz_twX0_3 : ∀ w ∈ Cond.classLink RX0 86 (oz_exn 3) :: Cond.initialized (oz_exn 3) :: vx_atS RX0 90 (oz_exn 3) oz_names, vx_ot w = true := by decide +kernel
end
section
/-! AlmsKernel.loans -/
def FX0_loansN (st : Int32) : Option RC := some (0, FX 0 14, st)
def rmX0_loansN : Room := { frames := 0, cells := 0, slots := 0, locals := 0 }
theorem hX0_loansN : yX0_loans.cls = RX0 ∧ yX0_loans.cls ≠ "java/lang/invoke/MethodHandle" ∧ yX0_loans.cls ≠ "java/lang/invoke/VarHandle" ∧ (parseMethodDescriptor yX0_loans.desc).map (fun d => d.parameters.length) = some 0 := by decide +kernel
theorem lkX0_loansN_53 : Cond.fieldLink RX0 53 RX0 (TX0 14).2.1 (TX0 14).2.2.1 ∈ wsX0_loans := by decide +kernel
set_option maxHeartbeats 4000000 in
set_option maxRecDepth 100000 in
theorem mX0_loansN (l : Launch) (hst : l.stackTraces = false) (D : va_G) (cI cZ : ClassId) (ad : Nat → Nat) : oz_MI l yX0_loans wsX0_loans rmX0_loansN D cI cZ RX0 0 oz_KSX0 ad oz_lyX0 0 [.ref (ad 0)] (FX0_loansN) := by
  refine oz_ofI (wn := RX0) (bytes := cX0_loans) (maxL := 1) (ret := (some .int)) (T := TX0) (N := 19) (by decide) rfl rfl oz_CX0 hst (Nat.le_of_ble_eq_true rfl) ?_
  intro p e s m below meth c st A res G hr X
  have hin : ∀ w ∈ u_ws RX0 TX0 19, w ∈ wsX0_loans := fun w h => List.mem_cons_of_mem _ (List.mem_append_right _ h)
  have lk53 := lkX0_loansN_53
  show G 0 0 [(0, .ref (ad 0))] [] st (FX0_loansN st)
  unfold FX0_loansN
  refine oz_aload_n X dX0_loans_0 rfl 0 rfl ?_
  refine oz_getS X hin (j := 14) rfl lk53 dX0_loans_1 ?_
  exact oz_iret X rfl hr (by omega) dX0_loans_4

/-! AlmsKernel.tick -/
def FX0_tickN (st : Int32) : Option RC := some (0, FX 0 16, st)
def rmX0_tickN : Room := { frames := 0, cells := 0, slots := 0, locals := 0 }
theorem hX0_tickN : yX0_tick.cls = RX0 ∧ yX0_tick.cls ≠ "java/lang/invoke/MethodHandle" ∧ yX0_tick.cls ≠ "java/lang/invoke/VarHandle" ∧ (parseMethodDescriptor yX0_tick.desc).map (fun d => d.parameters.length) = some 0 := by decide +kernel
theorem lkX0_tickN_60 : Cond.fieldLink RX0 60 RX0 (TX0 16).2.1 (TX0 16).2.2.1 ∈ wsX0_tick := by decide +kernel
set_option maxHeartbeats 4000000 in
set_option maxRecDepth 100000 in
theorem mX0_tickN (l : Launch) (hst : l.stackTraces = false) (D : va_G) (cI cZ : ClassId) (ad : Nat → Nat) : oz_MI l yX0_tick wsX0_tick rmX0_tickN D cI cZ RX0 0 oz_KSX0 ad oz_lyX0 0 [.ref (ad 0)] (FX0_tickN) := by
  refine oz_ofI (wn := RX0) (bytes := cX0_tick) (maxL := 1) (ret := (some .int)) (T := TX0) (N := 19) (by decide) rfl rfl oz_CX0 hst (Nat.le_of_ble_eq_true rfl) ?_
  intro p e s m below meth c st A res G hr X
  have hin : ∀ w ∈ u_ws RX0 TX0 19, w ∈ wsX0_tick := fun w h => List.mem_cons_of_mem _ (List.mem_append_right _ h)
  have lk60 := lkX0_tickN_60
  show G 0 0 [(0, .ref (ad 0))] [] st (FX0_tickN st)
  unfold FX0_tickN
  refine oz_aload_n X dX0_tick_0 rfl 0 rfl ?_
  refine oz_getS X hin (j := 16) rfl lk60 dX0_tick_1 ?_
  exact oz_iret X rfl hr (by omega) dX0_tick_4

/-! AlmsKernel.head -/
def FX0_headN (st : Int32) : Option RC := some (0, FX 0 17, st)
def rmX0_headN : Room := { frames := 0, cells := 0, slots := 0, locals := 0 }
theorem hX0_headN : yX0_head.cls = RX0 ∧ yX0_head.cls ≠ "java/lang/invoke/MethodHandle" ∧ yX0_head.cls ≠ "java/lang/invoke/VarHandle" ∧ (parseMethodDescriptor yX0_head.desc).map (fun d => d.parameters.length) = some 0 := by decide +kernel
theorem lkX0_headN_63 : Cond.fieldLink RX0 63 RX0 (TX0 17).2.1 (TX0 17).2.2.1 ∈ wsX0_head := by decide +kernel
set_option maxHeartbeats 4000000 in
set_option maxRecDepth 100000 in
theorem mX0_headN (l : Launch) (hst : l.stackTraces = false) (D : va_G) (cI cZ : ClassId) (ad : Nat → Nat) : oz_MI l yX0_head wsX0_head rmX0_headN D cI cZ RX0 0 oz_KSX0 ad oz_lyX0 0 [.ref (ad 0)] (FX0_headN) := by
  refine oz_ofI (wn := RX0) (bytes := cX0_head) (maxL := 1) (ret := (some .int)) (T := TX0) (N := 19) (by decide) rfl rfl oz_CX0 hst (Nat.le_of_ble_eq_true rfl) ?_
  intro p e s m below meth c st A res G hr X
  have hin : ∀ w ∈ u_ws RX0 TX0 19, w ∈ wsX0_head := fun w h => List.mem_cons_of_mem _ (List.mem_append_right _ h)
  have lk63 := lkX0_headN_63
  show G 0 0 [(0, .ref (ad 0))] [] st (FX0_headN st)
  unfold FX0_headN
  refine oz_aload_n X dX0_head_0 rfl 0 rfl ?_
  refine oz_getS X hin (j := 17) rfl lk63 dX0_head_1 ?_
  exact oz_iret X rfl hr (by omega) dX0_head_4

/-! AlmsKernel.isFrame -/
def FX0_isFrameN (a1 : Int32) (st : Int32) : Option RC := (if a1 < 0 then some (0, 0, st) else (if 12 ≤ a1 then some (0, 0, st) else some (0, 1, st)))
def rmX0_isFrameN : Room := { frames := 0, cells := 0, slots := 0, locals := 0 }
theorem hX0_isFrameN : yX0_isFrame.cls ≠ "java/lang/invoke/MethodHandle" ∧ yX0_isFrame.cls ≠ "java/lang/invoke/VarHandle" ∧ (parseMethodDescriptor yX0_isFrame.desc).map (fun d => d.parameters.length) = some 1 := by decide +kernel
set_option maxHeartbeats 4000000 in
set_option maxRecDepth 100000 in
theorem mX0_isFrameN (l : Launch) (hst : l.stackTraces = false) (D : va_G) (cI cZ : ClassId) (ad : Nat → Nat) (a1 : Int32) : oz_MI l yX0_isFrame wsX0_isFrame rmX0_isFrameN D cI cZ RX0 0 oz_KSX0 ad oz_lyX0 0 [.int a1] (FX0_isFrameN a1) := by
  refine oz_ofI (wn := RX0) (bytes := cX0_isFrame) (maxL := 1) (ret := (some .boolean)) (T := TX0) (N := 19) (by decide) rfl rfl oz_CX0 hst (Nat.le_of_ble_eq_true rfl) ?_
  intro p e s m below meth c st A res G hr X
  show G 0 0 [(0, .int a1)] [] st (FX0_isFrameN a1 st)
  unfold FX0_isFrameN
  refine oz_iload_n X dX0_isFrame_0 rfl 0 rfl ?_
  refine oz_if_lt X (tgt := 14) dX0_isFrame_1 (by decide) (fun q1 => ?_) (fun q1 => ?_)
  · refine oz_iconst X (v := 0) dX0_isFrame_14 (by decide) ?_
    exact oz_zret X rfl hr rfl (by omega) dX0_isFrame_15
  · refine oz_iload_n X dX0_isFrame_4 rfl 0 rfl ?_
    refine oz_bipush X (v := 12) dX0_isFrame_5 (by decide) ?_
    refine oz_icmp_ge X (tgt := 14) dX0_isFrame_7 (by decide) (fun q2 => ?_) (fun q2 => ?_)
    · refine oz_iconst X (v := 0) dX0_isFrame_14 (by decide) ?_
      exact oz_zret X rfl hr rfl (by omega) dX0_isFrame_15
    · refine oz_iconst X (v := 1) dX0_isFrame_10 (by decide) ?_
      refine oz_goto X (tgt := 15) dX0_isFrame_11 (by decide) ?_
      exact oz_zret X rfl hr rfl (by omega) dX0_isFrame_15

/-! AlmsKernel.isComing -/
def FX0_isComingN (a1 : Int32) (st : Int32) : Option RC := bnd (FX0_isFrameN a1 st) (fun r1 s1 => (if r1 = 0 then none else gd (oz_in a1 12) ((if FX 7 a1.toNatClampNeg = (-1) then some (0, 0, s1) else none))))
def rmX0_isComingN : Room := { frames := 1, cells := 0, slots := 0, locals := 20 }
theorem hX0_isComingN : yX0_isComing.cls = RX0 ∧ yX0_isComing.cls ≠ "java/lang/invoke/MethodHandle" ∧ yX0_isComing.cls ≠ "java/lang/invoke/VarHandle" ∧ (parseMethodDescriptor yX0_isComing.desc).map (fun d => d.parameters.length) = some 1 := by decide +kernel
theorem lkX0_isComingN_28 : Cond.fieldLink RX0 28 RX0 (TX0 6).2.1 (TX0 6).2.2.1 ∈ wsX0_isComing := by decide +kernel
set_option maxHeartbeats 4000000 in
set_option maxRecDepth 100000 in
theorem mX0_isComingN (l : Launch) (hst : l.stackTraces = false) (D : va_G) (cI cZ : ClassId) (ad : Nat → Nat) (a1 : Int32) : oz_MI l yX0_isComing wsX0_isComing rmX0_isComingN D cI cZ RX0 0 oz_KSX0 ad oz_lyX0 0 [.ref (ad 0), .int a1] (FX0_isComingN a1) := by
  refine oz_ofI (wn := RX0) (bytes := cX0_isComing) (maxL := 2) (ret := (some .boolean)) (T := TX0) (N := 19) (by decide) rfl rfl oz_CX0 hst (Nat.le_of_ble_eq_true rfl) ?_
  intro p e s m below meth c st A res G hr X
  have hin : ∀ w ∈ u_ws RX0 TX0 19, w ∈ wsX0_isComing := fun w h => List.mem_cons_of_mem _ (List.mem_append_right _ h)
  have lk28 := lkX0_isComingN_28
  show G 0 0 [(0, .ref (ad 0)), (1, .int a1)] [] st (FX0_isComingN a1 st)
  unfold FX0_isComingN
  refine oz_iload_n X dX0_isComing_0 rfl 1 rfl ?_
  refine oz_callS X rfl (As := [.int a1]) (S := []) (mX0_isFrameN l hst D cI cZ ad a1) gX0_isComing_X0_isFrame rfl rfl rfl hX0_isFrameN ⟨by decide, by decide⟩ rfl rfl (Nat.le_of_ble_eq_true rfl) dX0_isComing_1 (by omega) (by decide) (by decide) (fun r1 s1 => ?_)
  refine oz_if_eq X (tgt := 30) dX0_isComing_4 (by decide) (fun q2 => ?_) (fun q2 => ?_)
  · exact oz_none X
  · refine oz_aload_n X dX0_isComing_7 rfl 0 rfl ?_
    refine oz_getA X hin (j := 6) rfl lk28 dX0_isComing_8 ?_
    refine oz_iload_n X dX0_isComing_11 rfl 1 rfl ?_
    refine oz_iald X (j := 6) rfl (by decide) dX0_isComing_12 (fun g3 => ?_)
    refine oz_iconst X (v := (-1)) dX0_isComing_13 (by decide) ?_
    refine oz_icmp_eq X (tgt := 30) dX0_isComing_14 (by decide) (fun q4 => ?_) (fun q4 => ?_)
    · refine oz_iconst X (v := 0) dX0_isComing_30 (by decide) ?_
      exact oz_zret X rfl hr rfl (by omega) dX0_isComing_31
    · exact oz_none X

/-! AlmsKernel.requests -/
def FX0_requestsN_w4 : Nat → Int32 → Int32 → Int32 → Option RC
  | 0, _, _, _ => none
  | n + 1, x1, x2, st => (if 12 ≤ x2 then some (0, x1, st) else bnd (FX0_isComingN x2 st) (fun r3 s3 => (if r3 = 0 then (FX0_requestsN_w4 n x1 (x2 + 1) s3) else none)))
def FX0_requestsN (st : Int32) : Option RC := (FX0_requestsN_w4 62 0 0 st)
def rmX0_requestsN : Room := { frames := 2, cells := 0, slots := 0, locals := 41 }
theorem hX0_requestsN : yX0_requests.cls = RX0 ∧ yX0_requests.cls ≠ "java/lang/invoke/MethodHandle" ∧ yX0_requests.cls ≠ "java/lang/invoke/VarHandle" ∧ (parseMethodDescriptor yX0_requests.desc).map (fun d => d.parameters.length) = some 0 := by decide +kernel
set_option maxHeartbeats 4000000 in
set_option maxRecDepth 100000 in
theorem mX0_requestsN (l : Launch) (hst : l.stackTraces = false) (D : va_G) (cI cZ : ClassId) (ad : Nat → Nat) : oz_MI l yX0_requests wsX0_requests rmX0_requestsN D cI cZ RX0 0 oz_KSX0 ad oz_lyX0 0 [.ref (ad 0)] (FX0_requestsN) := by
  refine oz_ofI (wn := RX0) (bytes := cX0_requests) (maxL := 3) (ret := (some .int)) (T := TX0) (N := 19) (by decide) rfl rfl oz_CX0 hst (Nat.le_of_ble_eq_true rfl) ?_
  intro p e s m below meth c st A res G hr X
  have hc4 : ∀ (n k : Nat), k ≤ 0 → ∀ (x1 : Int32) (x2 : Int32) (st : Int32), G k 4 [(0, .ref (ad 0)), (1, .int x1), (2, .int x2)] [] st (FX0_requestsN_w4 n x1 x2 st) := by
    intro n
    induction n with
    | zero => intros; exact oz_none X
    | succ n ih =>
      intro k hk x1 x2 st
      rw [FX0_requestsN_w4]
      refine oz_iload_n X dX0_requests_4 rfl 2 rfl ?_
      refine oz_bipush X (v := 12) dX0_requests_5 (by decide) ?_
      refine oz_icmp_ge X (tgt := 27) dX0_requests_7 (by decide) (fun q2 => ?_) (fun q2 => ?_)
      · refine oz_iload_n X dX0_requests_27 rfl 1 rfl ?_
        exact oz_iret X rfl hr (by omega) dX0_requests_28
      · refine oz_aload_n X dX0_requests_10 rfl 0 rfl ?_
        refine oz_iload_n X dX0_requests_11 rfl 2 rfl ?_
        refine oz_callV X rfl (As := [.int x2]) (S := []) (mX0_isComingN l hst D cI cZ ad x2) gX0_requests_X0_isComing rfl rfl rfl hX0_isComingN ⟨by decide, by decide⟩ rfl rfl (Nat.le_of_ble_eq_true rfl) dX0_requests_12 (by omega) (by decide) (by decide) (fun r3 s3 => ?_)
        refine oz_if_eq X (tgt := 21) dX0_requests_15 (by decide) (fun q4 => ?_) (fun q4 => ?_)
        · refine oz_iinc X (q := 2) (v := x2 + 1) (L2 := [(2, .int (x2 + 1)), (0, .ref (ad 0)), (1, .int x1)]) dX0_requests_21 rfl rfl (by decide) rfl ?_
          refine oz_goto X (tgt := 4) dX0_requests_24 (by decide) ?_
          exact oz_sub X [1, 2, 0] (L2 := [(0, .ref (ad 0)), (1, .int x1), (2, .int (x2 + 1))]) rfl (ih _ (by omega) x1 (x2 + 1) s3)
        · exact oz_none X
  show G 0 0 [(0, .ref (ad 0))] [] st (FX0_requestsN st)
  unfold FX0_requestsN
  refine oz_iconst X (v := 0) dX0_requests_0 (by decide) ?_
  refine oz_istore_n X (L2 := [(1, .int 0), (0, .ref (ad 0))]) dX0_requests_1 rfl (by decide) rfl ?_
  refine oz_iconst X (v := 0) dX0_requests_2 (by decide) ?_
  refine oz_istore_n X (L2 := [(2, .int 0), (1, .int 0), (0, .ref (ad 0))]) dX0_requests_3 rfl (by decide) rfl ?_
  exact oz_sub X [2, 1, 0] (L2 := [(0, .ref (ad 0)), (1, .int 0), (2, .int 0)]) rfl (hc4 62 _ (by omega) 0 0 st)

/-! AlmsKernel.owner -/
def FX0_ownerN (a1 : Int32) (st : Int32) : Option RC := bnd (FX0_isFrameN a1 st) (fun r1 s1 => (if r1 = 0 then none else gd (oz_in a1 12) (some (0, FX 5 a1.toNatClampNeg, s1))))
def rmX0_ownerN : Room := { frames := 1, cells := 0, slots := 0, locals := 20 }
theorem hX0_ownerN : yX0_owner.cls = RX0 ∧ yX0_owner.cls ≠ "java/lang/invoke/MethodHandle" ∧ yX0_owner.cls ≠ "java/lang/invoke/VarHandle" ∧ (parseMethodDescriptor yX0_owner.desc).map (fun d => d.parameters.length) = some 1 := by decide +kernel
theorem lkX0_ownerN_22 : Cond.fieldLink RX0 22 RX0 (TX0 4).2.1 (TX0 4).2.2.1 ∈ wsX0_owner := by decide +kernel
set_option maxHeartbeats 4000000 in
set_option maxRecDepth 100000 in
theorem mX0_ownerN (l : Launch) (hst : l.stackTraces = false) (D : va_G) (cI cZ : ClassId) (ad : Nat → Nat) (a1 : Int32) : oz_MI l yX0_owner wsX0_owner rmX0_ownerN D cI cZ RX0 0 oz_KSX0 ad oz_lyX0 0 [.ref (ad 0), .int a1] (FX0_ownerN a1) := by
  refine oz_ofI (wn := RX0) (bytes := cX0_owner) (maxL := 2) (ret := (some .int)) (T := TX0) (N := 19) (by decide) rfl rfl oz_CX0 hst (Nat.le_of_ble_eq_true rfl) ?_
  intro p e s m below meth c st A res G hr X
  have hin : ∀ w ∈ u_ws RX0 TX0 19, w ∈ wsX0_owner := fun w h => List.mem_cons_of_mem _ (List.mem_append_left _ (List.mem_append_right _ h))
  have lk22 := lkX0_ownerN_22
  show G 0 0 [(0, .ref (ad 0)), (1, .int a1)] [] st (FX0_ownerN a1 st)
  unfold FX0_ownerN
  refine oz_iload_n X dX0_owner_0 rfl 1 rfl ?_
  refine oz_callS X rfl (As := [.int a1]) (S := []) (mX0_isFrameN l hst D cI cZ ad a1) gX0_owner_X0_isFrame rfl rfl rfl hX0_isFrameN ⟨by decide, by decide⟩ rfl rfl (Nat.le_of_ble_eq_true rfl) dX0_owner_1 (by omega) (by decide) (by decide) (fun r1 s1 => ?_)
  refine oz_if_ne X (tgt := 17) dX0_owner_4 (by decide) (fun q2 => ?_) (fun q2 => ?_)
  · refine oz_aload_n X dX0_owner_17 rfl 0 rfl ?_
    refine oz_getA X hin (j := 4) rfl lk22 dX0_owner_18 ?_
    refine oz_iload_n X dX0_owner_21 rfl 1 rfl ?_
    refine oz_iald X (j := 4) rfl (by decide) dX0_owner_22 (fun g3 => ?_)
    exact oz_iret X rfl hr (by omega) dX0_owner_23
  · exact oz_none X

/-! AlmsKernel.holder -/
def FX0_holderN (a1 : Int32) (st : Int32) : Option RC := bnd (FX0_isFrameN a1 st) (fun r1 s1 => (if r1 = 0 then none else gd (oz_in a1 12) (some (0, FX 6 a1.toNatClampNeg, s1))))
def rmX0_holderN : Room := { frames := 1, cells := 0, slots := 0, locals := 20 }
theorem hX0_holderN : yX0_holder.cls = RX0 ∧ yX0_holder.cls ≠ "java/lang/invoke/MethodHandle" ∧ yX0_holder.cls ≠ "java/lang/invoke/VarHandle" ∧ (parseMethodDescriptor yX0_holder.desc).map (fun d => d.parameters.length) = some 1 := by decide +kernel
theorem lkX0_holderN_25 : Cond.fieldLink RX0 25 RX0 (TX0 5).2.1 (TX0 5).2.2.1 ∈ wsX0_holder := by decide +kernel
set_option maxHeartbeats 4000000 in
set_option maxRecDepth 100000 in
theorem mX0_holderN (l : Launch) (hst : l.stackTraces = false) (D : va_G) (cI cZ : ClassId) (ad : Nat → Nat) (a1 : Int32) : oz_MI l yX0_holder wsX0_holder rmX0_holderN D cI cZ RX0 0 oz_KSX0 ad oz_lyX0 0 [.ref (ad 0), .int a1] (FX0_holderN a1) := by
  refine oz_ofI (wn := RX0) (bytes := cX0_holder) (maxL := 2) (ret := (some .int)) (T := TX0) (N := 19) (by decide) rfl rfl oz_CX0 hst (Nat.le_of_ble_eq_true rfl) ?_
  intro p e s m below meth c st A res G hr X
  have hin : ∀ w ∈ u_ws RX0 TX0 19, w ∈ wsX0_holder := fun w h => List.mem_cons_of_mem _ (List.mem_append_left _ (List.mem_append_right _ h))
  have lk25 := lkX0_holderN_25
  show G 0 0 [(0, .ref (ad 0)), (1, .int a1)] [] st (FX0_holderN a1 st)
  unfold FX0_holderN
  refine oz_iload_n X dX0_holder_0 rfl 1 rfl ?_
  refine oz_callS X rfl (As := [.int a1]) (S := []) (mX0_isFrameN l hst D cI cZ ad a1) gX0_holder_X0_isFrame rfl rfl rfl hX0_isFrameN ⟨by decide, by decide⟩ rfl rfl (Nat.le_of_ble_eq_true rfl) dX0_holder_1 (by omega) (by decide) (by decide) (fun r1 s1 => ?_)
  refine oz_if_ne X (tgt := 17) dX0_holder_4 (by decide) (fun q2 => ?_) (fun q2 => ?_)
  · refine oz_aload_n X dX0_holder_17 rfl 0 rfl ?_
    refine oz_getA X hin (j := 5) rfl lk25 dX0_holder_18 ?_
    refine oz_iload_n X dX0_holder_21 rfl 1 rfl ?_
    refine oz_iald X (j := 5) rfl (by decide) dX0_holder_22 (fun g3 => ?_)
    exact oz_iret X rfl hr (by omega) dX0_holder_23
  · exact oz_none X

/-! AlmsKernel.pageIn -/
def FX0_pageInN (a1 : Int32) (st : Int32) : Option RC := bnd (FX0_isFrameN a1 st) (fun r1 s1 => (if r1 = 0 then none else gd (oz_in a1 12) (some (0, FX 7 a1.toNatClampNeg, s1))))
def rmX0_pageInN : Room := { frames := 1, cells := 0, slots := 0, locals := 20 }
theorem hX0_pageInN : yX0_pageIn.cls = RX0 ∧ yX0_pageIn.cls ≠ "java/lang/invoke/MethodHandle" ∧ yX0_pageIn.cls ≠ "java/lang/invoke/VarHandle" ∧ (parseMethodDescriptor yX0_pageIn.desc).map (fun d => d.parameters.length) = some 1 := by decide +kernel
theorem lkX0_pageInN_28 : Cond.fieldLink RX0 28 RX0 (TX0 6).2.1 (TX0 6).2.2.1 ∈ wsX0_pageIn := by decide +kernel
set_option maxHeartbeats 4000000 in
set_option maxRecDepth 100000 in
theorem mX0_pageInN (l : Launch) (hst : l.stackTraces = false) (D : va_G) (cI cZ : ClassId) (ad : Nat → Nat) (a1 : Int32) : oz_MI l yX0_pageIn wsX0_pageIn rmX0_pageInN D cI cZ RX0 0 oz_KSX0 ad oz_lyX0 0 [.ref (ad 0), .int a1] (FX0_pageInN a1) := by
  refine oz_ofI (wn := RX0) (bytes := cX0_pageIn) (maxL := 2) (ret := (some .int)) (T := TX0) (N := 19) (by decide) rfl rfl oz_CX0 hst (Nat.le_of_ble_eq_true rfl) ?_
  intro p e s m below meth c st A res G hr X
  have hin : ∀ w ∈ u_ws RX0 TX0 19, w ∈ wsX0_pageIn := fun w h => List.mem_cons_of_mem _ (List.mem_append_left _ (List.mem_append_right _ h))
  have lk28 := lkX0_pageInN_28
  show G 0 0 [(0, .ref (ad 0)), (1, .int a1)] [] st (FX0_pageInN a1 st)
  unfold FX0_pageInN
  refine oz_iload_n X dX0_pageIn_0 rfl 1 rfl ?_
  refine oz_callS X rfl (As := [.int a1]) (S := []) (mX0_isFrameN l hst D cI cZ ad a1) gX0_pageIn_X0_isFrame rfl rfl rfl hX0_isFrameN ⟨by decide, by decide⟩ rfl rfl (Nat.le_of_ble_eq_true rfl) dX0_pageIn_1 (by omega) (by decide) (by decide) (fun r1 s1 => ?_)
  refine oz_if_ne X (tgt := 17) dX0_pageIn_4 (by decide) (fun q2 => ?_) (fun q2 => ?_)
  · refine oz_aload_n X dX0_pageIn_17 rfl 0 rfl ?_
    refine oz_getA X hin (j := 6) rfl lk28 dX0_pageIn_18 ?_
    refine oz_iload_n X dX0_pageIn_21 rfl 1 rfl ?_
    refine oz_iald X (j := 6) rfl (by decide) dX0_pageIn_22 (fun g3 => ?_)
    exact oz_iret X rfl hr (by omega) dX0_pageIn_23
  · exact oz_none X

/-! AlmsKernel.ageOf -/
def FX0_ageOfN (a1 : Int32) (st : Int32) : Option RC := gd (oz_in a1 12) ((if FX 8 a1.toNatClampNeg = 0 then some (0, (-1), st) else none))
def rmX0_ageOfN : Room := { frames := 0, cells := 0, slots := 0, locals := 0 }
theorem hX0_ageOfN : yX0_ageOf.cls = RX0 ∧ yX0_ageOf.cls ≠ "java/lang/invoke/MethodHandle" ∧ yX0_ageOf.cls ≠ "java/lang/invoke/VarHandle" ∧ (parseMethodDescriptor yX0_ageOf.desc).map (fun d => d.parameters.length) = some 1 := by decide +kernel
theorem lkX0_ageOfN_31 : Cond.fieldLink RX0 31 RX0 (TX0 7).2.1 (TX0 7).2.2.1 ∈ wsX0_ageOf := by decide +kernel
set_option maxHeartbeats 4000000 in
set_option maxRecDepth 100000 in
theorem mX0_ageOfN (l : Launch) (hst : l.stackTraces = false) (D : va_G) (cI cZ : ClassId) (ad : Nat → Nat) (a1 : Int32) : oz_MI l yX0_ageOf wsX0_ageOf rmX0_ageOfN D cI cZ RX0 0 oz_KSX0 ad oz_lyX0 0 [.ref (ad 0), .int a1] (FX0_ageOfN a1) := by
  refine oz_ofI (wn := RX0) (bytes := cX0_ageOf) (maxL := 2) (ret := (some .int)) (T := TX0) (N := 19) (by decide) rfl rfl oz_CX0 hst (Nat.le_of_ble_eq_true rfl) ?_
  intro p e s m below meth c st A res G hr X
  have hin : ∀ w ∈ u_ws RX0 TX0 19, w ∈ wsX0_ageOf := fun w h => List.mem_cons_of_mem _ (List.mem_append_right _ h)
  have lk31 := lkX0_ageOfN_31
  show G 0 0 [(0, .ref (ad 0)), (1, .int a1)] [] st (FX0_ageOfN a1 st)
  unfold FX0_ageOfN
  refine oz_aload_n X dX0_ageOf_0 rfl 0 rfl ?_
  refine oz_getA X hin (j := 7) rfl lk31 dX0_ageOf_1 ?_
  refine oz_iload_n X dX0_ageOf_4 rfl 1 rfl ?_
  refine oz_zald X (j := 7) rfl (by decide) dX0_ageOf_5 (fun g1 => ?_)
  refine oz_if_eq X (tgt := 23) dX0_ageOf_6 (by decide) (fun q2 => ?_) (fun q2 => ?_)
  · refine oz_iconst X (v := (-1)) dX0_ageOf_23 (by decide) ?_
    exact oz_iret X rfl hr (by omega) dX0_ageOf_24
  · exact oz_none X

/-! AlmsKernel.age -/
def FX0_ageN (a1 : Int32) (st : Int32) : Option RC := bnd (FX0_isFrameN a1 st) (fun r1 s1 => (if r1 = 0 then none else bnd (FX0_ageOfN a1 s1) (fun r3 s3 => some (0, r3, s3))))
def rmX0_ageN : Room := { frames := 1, cells := 0, slots := 0, locals := 21 }
theorem hX0_ageN : yX0_age.cls = RX0 ∧ yX0_age.cls ≠ "java/lang/invoke/MethodHandle" ∧ yX0_age.cls ≠ "java/lang/invoke/VarHandle" ∧ (parseMethodDescriptor yX0_age.desc).map (fun d => d.parameters.length) = some 1 := by decide +kernel
set_option maxHeartbeats 4000000 in
set_option maxRecDepth 100000 in
theorem mX0_ageN (l : Launch) (hst : l.stackTraces = false) (D : va_G) (cI cZ : ClassId) (ad : Nat → Nat) (a1 : Int32) : oz_MI l yX0_age wsX0_age rmX0_ageN D cI cZ RX0 0 oz_KSX0 ad oz_lyX0 0 [.ref (ad 0), .int a1] (FX0_ageN a1) := by
  refine oz_ofI (wn := RX0) (bytes := cX0_age) (maxL := 2) (ret := (some .int)) (T := TX0) (N := 19) (by decide) rfl rfl oz_CX0 hst (Nat.le_of_ble_eq_true rfl) ?_
  intro p e s m below meth c st A res G hr X
  show G 0 0 [(0, .ref (ad 0)), (1, .int a1)] [] st (FX0_ageN a1 st)
  unfold FX0_ageN
  refine oz_iload_n X dX0_age_0 rfl 1 rfl ?_
  refine oz_callS X rfl (As := [.int a1]) (S := []) (mX0_isFrameN l hst D cI cZ ad a1) gX0_age_X0_isFrame rfl rfl rfl hX0_isFrameN ⟨by decide, by decide⟩ rfl rfl (Nat.le_of_ble_eq_true rfl) dX0_age_1 (by omega) (by decide) (by decide) (fun r1 s1 => ?_)
  refine oz_if_ne X (tgt := 17) dX0_age_4 (by decide) (fun q2 => ?_) (fun q2 => ?_)
  · refine oz_aload_n X dX0_age_17 rfl 0 rfl ?_
    refine oz_iload_n X dX0_age_18 rfl 1 rfl ?_
    refine oz_callV X rfl (As := [.int a1]) (S := []) (mX0_ageOfN l hst D cI cZ ad a1) gX0_age_X0_ageOf rfl rfl rfl hX0_ageOfN ⟨by decide, by decide⟩ rfl rfl (Nat.le_of_ble_eq_true rfl) dX0_age_19 (by omega) (by decide) (by decide) (fun r3 s3 => ?_)
    exact oz_iret X rfl hr (by omega) dX0_age_22
  · exact oz_none X

/-! AlmsKernel.isProcess -/
def FX0_isProcessN (a1 : Int32) (st : Int32) : Option RC := (if a1 < 0 then some (0, 0, st) else (if 5 ≤ a1 then some (0, 0, st) else some (0, 1, st)))
def rmX0_isProcessN : Room := { frames := 0, cells := 0, slots := 0, locals := 0 }
theorem hX0_isProcessN : yX0_isProcess.cls ≠ "java/lang/invoke/MethodHandle" ∧ yX0_isProcess.cls ≠ "java/lang/invoke/VarHandle" ∧ (parseMethodDescriptor yX0_isProcess.desc).map (fun d => d.parameters.length) = some 1 := by decide +kernel
set_option maxHeartbeats 4000000 in
set_option maxRecDepth 100000 in
theorem mX0_isProcessN (l : Launch) (hst : l.stackTraces = false) (D : va_G) (cI cZ : ClassId) (ad : Nat → Nat) (a1 : Int32) : oz_MI l yX0_isProcess wsX0_isProcess rmX0_isProcessN D cI cZ RX0 0 oz_KSX0 ad oz_lyX0 0 [.int a1] (FX0_isProcessN a1) := by
  refine oz_ofI (wn := RX0) (bytes := cX0_isProcess) (maxL := 1) (ret := (some .boolean)) (T := TX0) (N := 19) (by decide) rfl rfl oz_CX0 hst (Nat.le_of_ble_eq_true rfl) ?_
  intro p e s m below meth c st A res G hr X
  show G 0 0 [(0, .int a1)] [] st (FX0_isProcessN a1 st)
  unfold FX0_isProcessN
  refine oz_iload_n X dX0_isProcess_0 rfl 0 rfl ?_
  refine oz_if_lt X (tgt := 13) dX0_isProcess_1 (by decide) (fun q1 => ?_) (fun q1 => ?_)
  · refine oz_iconst X (v := 0) dX0_isProcess_13 (by decide) ?_
    exact oz_zret X rfl hr rfl (by omega) dX0_isProcess_14
  · refine oz_iload_n X dX0_isProcess_4 rfl 0 rfl ?_
    refine oz_iconst X (v := 5) dX0_isProcess_5 (by decide) ?_
    refine oz_icmp_ge X (tgt := 13) dX0_isProcess_6 (by decide) (fun q2 => ?_) (fun q2 => ?_)
    · refine oz_iconst X (v := 0) dX0_isProcess_13 (by decide) ?_
      exact oz_zret X rfl hr rfl (by omega) dX0_isProcess_14
    · refine oz_iconst X (v := 1) dX0_isProcess_9 (by decide) ?_
      refine oz_goto X (tgt := 14) dX0_isProcess_10 (by decide) ?_
      exact oz_zret X rfl hr rfl (by omega) dX0_isProcess_14

/-! AlmsKernel.purse -/
def FX0_purseN (a1 : Int32) (st : Int32) : Option RC := bnd (FX0_isProcessN a1 st) (fun r1 s1 => (if r1 = 0 then none else gd (oz_in a1 5) (some (0, FX 2 a1.toNatClampNeg, s1))))
def rmX0_purseN : Room := { frames := 1, cells := 0, slots := 0, locals := 20 }
theorem hX0_purseN : yX0_purse.cls = RX0 ∧ yX0_purse.cls ≠ "java/lang/invoke/MethodHandle" ∧ yX0_purse.cls ≠ "java/lang/invoke/VarHandle" ∧ (parseMethodDescriptor yX0_purse.desc).map (fun d => d.parameters.length) = some 1 := by decide +kernel
theorem lkX0_purseN_13 : Cond.fieldLink RX0 13 RX0 (TX0 1).2.1 (TX0 1).2.2.1 ∈ wsX0_purse := by decide +kernel
set_option maxHeartbeats 4000000 in
set_option maxRecDepth 100000 in
theorem mX0_purseN (l : Launch) (hst : l.stackTraces = false) (D : va_G) (cI cZ : ClassId) (ad : Nat → Nat) (a1 : Int32) : oz_MI l yX0_purse wsX0_purse rmX0_purseN D cI cZ RX0 0 oz_KSX0 ad oz_lyX0 0 [.ref (ad 0), .int a1] (FX0_purseN a1) := by
  refine oz_ofI (wn := RX0) (bytes := cX0_purse) (maxL := 2) (ret := (some .int)) (T := TX0) (N := 19) (by decide) rfl rfl oz_CX0 hst (Nat.le_of_ble_eq_true rfl) ?_
  intro p e s m below meth c st A res G hr X
  have hin : ∀ w ∈ u_ws RX0 TX0 19, w ∈ wsX0_purse := fun w h => List.mem_cons_of_mem _ (List.mem_append_left _ (List.mem_append_right _ h))
  have lk13 := lkX0_purseN_13
  show G 0 0 [(0, .ref (ad 0)), (1, .int a1)] [] st (FX0_purseN a1 st)
  unfold FX0_purseN
  refine oz_iload_n X dX0_purse_0 rfl 1 rfl ?_
  refine oz_callS X rfl (As := [.int a1]) (S := []) (mX0_isProcessN l hst D cI cZ ad a1) gX0_purse_X0_isProcess rfl rfl rfl hX0_isProcessN ⟨by decide, by decide⟩ rfl rfl (Nat.le_of_ble_eq_true rfl) dX0_purse_1 (by omega) (by decide) (by decide) (fun r1 s1 => ?_)
  refine oz_if_ne X (tgt := 17) dX0_purse_4 (by decide) (fun q2 => ?_) (fun q2 => ?_)
  · refine oz_aload_n X dX0_purse_17 rfl 0 rfl ?_
    refine oz_getA X hin (j := 1) rfl lk13 dX0_purse_18 ?_
    refine oz_iload_n X dX0_purse_21 rfl 1 rfl ?_
    refine oz_iald X (j := 1) rfl (by decide) dX0_purse_22 (fun g3 => ?_)
    exact oz_iret X rfl hr (by omega) dX0_purse_23
  · exact oz_none X

/-! AlmsKernel.stateOf -/
def FX0_stateOfN (a1 : Int32) (st : Int32) : Option RC := bnd (FX0_isProcessN a1 st) (fun r1 s1 => (if r1 = 0 then none else gd (oz_in a1 5) (some (0, FX 3 a1.toNatClampNeg, s1))))
def rmX0_stateOfN : Room := { frames := 1, cells := 0, slots := 0, locals := 20 }
theorem hX0_stateOfN : yX0_stateOf.cls = RX0 ∧ yX0_stateOf.cls ≠ "java/lang/invoke/MethodHandle" ∧ yX0_stateOf.cls ≠ "java/lang/invoke/VarHandle" ∧ (parseMethodDescriptor yX0_stateOf.desc).map (fun d => d.parameters.length) = some 1 := by decide +kernel
theorem lkX0_stateOfN_16 : Cond.fieldLink RX0 16 RX0 (TX0 2).2.1 (TX0 2).2.2.1 ∈ wsX0_stateOf := by decide +kernel
set_option maxHeartbeats 4000000 in
set_option maxRecDepth 100000 in
theorem mX0_stateOfN (l : Launch) (hst : l.stackTraces = false) (D : va_G) (cI cZ : ClassId) (ad : Nat → Nat) (a1 : Int32) : oz_MI l yX0_stateOf wsX0_stateOf rmX0_stateOfN D cI cZ RX0 0 oz_KSX0 ad oz_lyX0 0 [.ref (ad 0), .int a1] (FX0_stateOfN a1) := by
  refine oz_ofI (wn := RX0) (bytes := cX0_stateOf) (maxL := 2) (ret := (some .int)) (T := TX0) (N := 19) (by decide) rfl rfl oz_CX0 hst (Nat.le_of_ble_eq_true rfl) ?_
  intro p e s m below meth c st A res G hr X
  have hin : ∀ w ∈ u_ws RX0 TX0 19, w ∈ wsX0_stateOf := fun w h => List.mem_cons_of_mem _ (List.mem_append_left _ (List.mem_append_right _ h))
  have lk16 := lkX0_stateOfN_16
  show G 0 0 [(0, .ref (ad 0)), (1, .int a1)] [] st (FX0_stateOfN a1 st)
  unfold FX0_stateOfN
  refine oz_iload_n X dX0_stateOf_0 rfl 1 rfl ?_
  refine oz_callS X rfl (As := [.int a1]) (S := []) (mX0_isProcessN l hst D cI cZ ad a1) gX0_stateOf_X0_isProcess rfl rfl rfl hX0_isProcessN ⟨by decide, by decide⟩ rfl rfl (Nat.le_of_ble_eq_true rfl) dX0_stateOf_1 (by omega) (by decide) (by decide) (fun r1 s1 => ?_)
  refine oz_if_ne X (tgt := 17) dX0_stateOf_4 (by decide) (fun q2 => ?_) (fun q2 => ?_)
  · refine oz_aload_n X dX0_stateOf_17 rfl 0 rfl ?_
    refine oz_getA X hin (j := 2) rfl lk16 dX0_stateOf_18 ?_
    refine oz_iload_n X dX0_stateOf_21 rfl 1 rfl ?_
    refine oz_iald X (j := 2) rfl (by decide) dX0_stateOf_22 (fun g3 => ?_)
    exact oz_iret X rfl hr (by omega) dX0_stateOf_23
  · exact oz_none X

/-! AlmsKernel.faults -/
def FX0_faultsN (a1 : Int32) (st : Int32) : Option RC := bnd (FX0_isProcessN a1 st) (fun r1 s1 => (if r1 = 0 then none else gd (oz_in a1 5) (some (0, FX 4 a1.toNatClampNeg, s1))))
def rmX0_faultsN : Room := { frames := 1, cells := 0, slots := 0, locals := 20 }
theorem hX0_faultsN : yX0_faults.cls = RX0 ∧ yX0_faults.cls ≠ "java/lang/invoke/MethodHandle" ∧ yX0_faults.cls ≠ "java/lang/invoke/VarHandle" ∧ (parseMethodDescriptor yX0_faults.desc).map (fun d => d.parameters.length) = some 1 := by decide +kernel
theorem lkX0_faultsN_19 : Cond.fieldLink RX0 19 RX0 (TX0 3).2.1 (TX0 3).2.2.1 ∈ wsX0_faults := by decide +kernel
set_option maxHeartbeats 4000000 in
set_option maxRecDepth 100000 in
theorem mX0_faultsN (l : Launch) (hst : l.stackTraces = false) (D : va_G) (cI cZ : ClassId) (ad : Nat → Nat) (a1 : Int32) : oz_MI l yX0_faults wsX0_faults rmX0_faultsN D cI cZ RX0 0 oz_KSX0 ad oz_lyX0 0 [.ref (ad 0), .int a1] (FX0_faultsN a1) := by
  refine oz_ofI (wn := RX0) (bytes := cX0_faults) (maxL := 2) (ret := (some .int)) (T := TX0) (N := 19) (by decide) rfl rfl oz_CX0 hst (Nat.le_of_ble_eq_true rfl) ?_
  intro p e s m below meth c st A res G hr X
  have hin : ∀ w ∈ u_ws RX0 TX0 19, w ∈ wsX0_faults := fun w h => List.mem_cons_of_mem _ (List.mem_append_left _ (List.mem_append_right _ h))
  have lk19 := lkX0_faultsN_19
  show G 0 0 [(0, .ref (ad 0)), (1, .int a1)] [] st (FX0_faultsN a1 st)
  unfold FX0_faultsN
  refine oz_iload_n X dX0_faults_0 rfl 1 rfl ?_
  refine oz_callS X rfl (As := [.int a1]) (S := []) (mX0_isProcessN l hst D cI cZ ad a1) gX0_faults_X0_isProcess rfl rfl rfl hX0_isProcessN ⟨by decide, by decide⟩ rfl rfl (Nat.le_of_ble_eq_true rfl) dX0_faults_1 (by omega) (by decide) (by decide) (fun r1 s1 => ?_)
  refine oz_if_ne X (tgt := 17) dX0_faults_4 (by decide) (fun q2 => ?_) (fun q2 => ?_)
  · refine oz_aload_n X dX0_faults_17 rfl 0 rfl ?_
    refine oz_getA X hin (j := 3) rfl lk19 dX0_faults_18 ?_
    refine oz_iload_n X dX0_faults_21 rfl 1 rfl ?_
    refine oz_iald X (j := 3) rfl (by decide) dX0_faults_22 (fun g3 => ?_)
    exact oz_iret X rfl hr (by omega) dX0_faults_23
  · exact oz_none X

/-! AlmsKernel.setWage -/
def FX0_setWage (a1 a2 : Int32) (st : Int32) : Option RC := bnd (FX0_isProcessN a1 st) (fun r1 s1 => (if r1 = 0 then some (1, 0, bump s1) else (if a2 < 0 then some (3, 0, bump s1) else (if a2 ≤ 9 then none else some (3, 0, bump s1)))))
def rmX0_setWage : Room := { frames := 6, cells := 1, slots := 6, locals := 86 }
theorem hX0_setWage : yX0_setWage.cls = RX0 ∧ yX0_setWage.cls ≠ "java/lang/invoke/MethodHandle" ∧ yX0_setWage.cls ≠ "java/lang/invoke/VarHandle" ∧ (parseMethodDescriptor yX0_setWage.desc).map (fun d => d.parameters.length) = some 2 := by decide +kernel
set_option maxHeartbeats 4000000 in
set_option maxRecDepth 100000 in
theorem mX0_setWage (l : Launch) (hst : l.stackTraces = false) (D : va_G) (cI cZ : ClassId) (ad : Nat → Nat) (a1 a2 : Int32) : oz_MI l yX0_setWage wsX0_setWage rmX0_setWage D cI cZ RX0 0 oz_KSX0 ad oz_lyX0 1 [.ref (ad 0), .int a1, .int a2] (FX0_setWage a1 a2) := by
  refine oz_ofI (wn := RX0) (bytes := cX0_setWage) (maxL := 4) (ret := (some .int)) (T := TX0) (N := 19) (by decide) rfl rfl oz_CX0 hst (Nat.le_of_ble_eq_true rfl) ?_
  intro p e s m below meth c st A res G hr X
  have tk1 : Cond.classLink RX0 79 (oz_exn 1) ∈ wsX0_setWage := by decide +kernel
  have ti1 : Cond.initialized (oz_exn 1) ∈ wsX0_setWage := by decide +kernel
  have tg1 : ∀ w ∈ (vx_atS RX0 83 (oz_exn 1) oz_names).filter goodWord, w ∈ wsX0_setWage := fun w h => List.mem_cons_of_mem _ (List.mem_append_left _ (List.mem_append_right _ h))
  have tk3 : Cond.classLink RX0 86 (oz_exn 3) ∈ wsX0_setWage := by decide +kernel
  have ti3 : Cond.initialized (oz_exn 3) ∈ wsX0_setWage := by decide +kernel
  have tg3 : ∀ w ∈ (vx_atS RX0 90 (oz_exn 3) oz_names).filter goodWord, w ∈ wsX0_setWage := fun w h => List.mem_cons_of_mem _ (List.mem_append_right _ h)
  show G 0 0 [(0, .ref (ad 0)), (1, .int a1), (2, .int a2)] [] st (FX0_setWage a1 a2 st)
  unfold FX0_setWage
  refine oz_iload_n X dX0_setWage_0 rfl 1 rfl ?_
  refine oz_callS X rfl (As := [.int a1]) (S := []) (mX0_isProcessN l hst D cI cZ ad a1) gX0_setWage_X0_isProcess rfl rfl rfl hX0_isProcessN ⟨by decide, by decide⟩ rfl rfl (Nat.le_of_ble_eq_true rfl) dX0_setWage_1 (by omega) (by decide) (by decide) (fun r1 s1 => ?_)
  refine oz_if_ne X (tgt := 17) dX0_setWage_4 (by decide) (fun q2 => ?_) (fun q2 => ?_)
  · refine oz_iload_n X dX0_setWage_17 rfl 2 rfl ?_
    refine oz_if_lt X (tgt := 27) dX0_setWage_18 (by decide) (fun q3 => ?_) (fun q3 => ?_)
    · exact oz_throw X rfl 3 (text := "wage is out of range") (by decide) (oz_KSX0_88) (by decide +kernel) tk3 ti3 tg3 oz_tbX0_3 oz_twX0_3 dX0_setWage_27 dX0_setWage_30 dX0_setWage_31 dX0_setWage_33 dX0_setWage_36 (by decide) (by decide) (by omega) (by decide) (by decide)
    · refine oz_iload_n X dX0_setWage_21 rfl 2 rfl ?_
      refine oz_bipush X (v := 9) dX0_setWage_22 (by decide) ?_
      refine oz_icmp_le X (tgt := 37) dX0_setWage_24 (by decide) (fun q4 => ?_) (fun q4 => ?_)
      · exact oz_none X
      · exact oz_throw X rfl 3 (text := "wage is out of range") (by decide) (oz_KSX0_88) (by decide +kernel) tk3 ti3 tg3 oz_tbX0_3 oz_twX0_3 dX0_setWage_27 dX0_setWage_30 dX0_setWage_31 dX0_setWage_33 dX0_setWage_36 (by decide) (by decide) (by omega) (by decide) (by decide)
  · exact oz_throw X rfl 1 (text := "no such process") (by decide) (oz_KSX0_81) (by decide +kernel) tk1 ti1 tg1 oz_tbX0_1 oz_twX0_1 dX0_setWage_7 dX0_setWage_10 dX0_setWage_11 dX0_setWage_13 dX0_setWage_16 (by decide) (by decide) (by omega) (by decide) (by decide)

/-! AlmsKernel.setRate -/
def FX0_setRate (a1 : Int32) (st : Int32) : Option RC := (if a1 < 0 then some (3, 0, bump st) else (if a1 ≤ 9 then none else some (3, 0, bump st)))
def rmX0_setRate : Room := { frames := 6, cells := 1, slots := 6, locals := 86 }
theorem hX0_setRate : yX0_setRate.cls = RX0 ∧ yX0_setRate.cls ≠ "java/lang/invoke/MethodHandle" ∧ yX0_setRate.cls ≠ "java/lang/invoke/VarHandle" ∧ (parseMethodDescriptor yX0_setRate.desc).map (fun d => d.parameters.length) = some 1 := by decide +kernel
set_option maxHeartbeats 4000000 in
set_option maxRecDepth 100000 in
theorem mX0_setRate (l : Launch) (hst : l.stackTraces = false) (D : va_G) (cI cZ : ClassId) (ad : Nat → Nat) (a1 : Int32) : oz_MI l yX0_setRate wsX0_setRate rmX0_setRate D cI cZ RX0 0 oz_KSX0 ad oz_lyX0 1 [.ref (ad 0), .int a1] (FX0_setRate a1) := by
  refine oz_ofI (wn := RX0) (bytes := cX0_setRate) (maxL := 3) (ret := (some .int)) (T := TX0) (N := 19) (by decide) rfl rfl oz_CX0 hst (Nat.le_of_ble_eq_true rfl) ?_
  intro p e s m below meth c st A res G hr X
  have tk3 : Cond.classLink RX0 86 (oz_exn 3) ∈ wsX0_setRate := by decide +kernel
  have ti3 : Cond.initialized (oz_exn 3) ∈ wsX0_setRate := by decide +kernel
  have tg3 : ∀ w ∈ (vx_atS RX0 90 (oz_exn 3) oz_names).filter goodWord, w ∈ wsX0_setRate := fun w h => List.mem_cons_of_mem _ (List.mem_append_right _ h)
  show G 0 0 [(0, .ref (ad 0)), (1, .int a1)] [] st (FX0_setRate a1 st)
  unfold FX0_setRate
  refine oz_iload_n X dX0_setRate_0 rfl 1 rfl ?_
  refine oz_if_lt X (tgt := 10) dX0_setRate_1 (by decide) (fun q1 => ?_) (fun q1 => ?_)
  · exact oz_throw X rfl 3 (text := "rate is out of range") (by decide) (oz_KSX0_91) (by decide +kernel) tk3 ti3 tg3 oz_tbX0_3 oz_twX0_3 dX0_setRate_10 dX0_setRate_13 dX0_setRate_14 dX0_setRate_16 dX0_setRate_19 (by decide) (by decide) (by omega) (by decide) (by decide)
  · refine oz_iload_n X dX0_setRate_4 rfl 1 rfl ?_
    refine oz_bipush X (v := 9) dX0_setRate_5 (by decide) ?_
    refine oz_icmp_le X (tgt := 20) dX0_setRate_7 (by decide) (fun q2 => ?_) (fun q2 => ?_)
    · exact oz_none X
    · exact oz_throw X rfl 3 (text := "rate is out of range") (by decide) (oz_KSX0_91) (by decide +kernel) tk3 ti3 tg3 oz_tbX0_3 oz_twX0_3 dX0_setRate_10 dX0_setRate_13 dX0_setRate_14 dX0_setRate_16 dX0_setRate_19 (by decide) (by decide) (by omega) (by decide) (by decide)

/-! AlmsKernel.buy -/
def FX0_buy (a1 : Int32) (st : Int32) : Option RC := bnd (FX0_isProcessN a1 st) (fun r1 s1 => (if r1 = 0 then some (1, 0, bump s1) else none))
def rmX0_buy : Room := { frames := 6, cells := 1, slots := 6, locals := 86 }
theorem hX0_buy : yX0_buy.cls = RX0 ∧ yX0_buy.cls ≠ "java/lang/invoke/MethodHandle" ∧ yX0_buy.cls ≠ "java/lang/invoke/VarHandle" ∧ (parseMethodDescriptor yX0_buy.desc).map (fun d => d.parameters.length) = some 1 := by decide +kernel
set_option maxHeartbeats 4000000 in
set_option maxRecDepth 100000 in
theorem mX0_buy (l : Launch) (hst : l.stackTraces = false) (D : va_G) (cI cZ : ClassId) (ad : Nat → Nat) (a1 : Int32) : oz_MI l yX0_buy wsX0_buy rmX0_buy D cI cZ RX0 0 oz_KSX0 ad oz_lyX0 1 [.ref (ad 0), .int a1] (FX0_buy a1) := by
  refine oz_ofI (wn := RX0) (bytes := cX0_buy) (maxL := 3) (ret := (some .int)) (T := TX0) (N := 19) (by decide) rfl rfl oz_CX0 hst (Nat.le_of_ble_eq_true rfl) ?_
  intro p e s m below meth c st A res G hr X
  have tk1 : Cond.classLink RX0 79 (oz_exn 1) ∈ wsX0_buy := by decide +kernel
  have ti1 : Cond.initialized (oz_exn 1) ∈ wsX0_buy := by decide +kernel
  have tg1 : ∀ w ∈ (vx_atS RX0 83 (oz_exn 1) oz_names).filter goodWord, w ∈ wsX0_buy := fun w h => List.mem_cons_of_mem _ (List.mem_append_left _ (List.mem_append_right _ h))
  show G 0 0 [(0, .ref (ad 0)), (1, .int a1)] [] st (FX0_buy a1 st)
  unfold FX0_buy
  refine oz_iload_n X dX0_buy_0 rfl 1 rfl ?_
  refine oz_callS X rfl (As := [.int a1]) (S := []) (mX0_isProcessN l hst D cI cZ ad a1) gX0_buy_X0_isProcess rfl rfl rfl hX0_isProcessN ⟨by decide, by decide⟩ rfl rfl (Nat.le_of_ble_eq_true rfl) dX0_buy_1 (by omega) (by decide) (by decide) (fun r1 s1 => ?_)
  refine oz_if_ne X (tgt := 17) dX0_buy_4 (by decide) (fun q2 => ?_) (fun q2 => ?_)
  · exact oz_none X
  · exact oz_throw X rfl 1 (text := "no such process") (by decide) (oz_KSX0_81) (by decide +kernel) tk1 ti1 tg1 oz_tbX0_1 oz_twX0_1 dX0_buy_7 dX0_buy_10 dX0_buy_11 dX0_buy_13 dX0_buy_16 (by decide) (by decide) (by omega) (by decide) (by decide)

/-! AlmsKernel.sell -/
def FX0_sell (a1 : Int32) (st : Int32) : Option RC := bnd (FX0_isFrameN a1 st) (fun r1 s1 => (if r1 = 0 then some (1, 0, bump s1) else gd (oz_in a1 12) (bnd (FX0_isProcessN (FX 5 a1.toNatClampNeg) s1) (fun r4 s4 => (if r4 = 0 then some (2, 0, bump s4) else none)))))
def rmX0_sell : Room := { frames := 6, cells := 1, slots := 6, locals := 86 }
theorem hX0_sell : yX0_sell.cls = RX0 ∧ yX0_sell.cls ≠ "java/lang/invoke/MethodHandle" ∧ yX0_sell.cls ≠ "java/lang/invoke/VarHandle" ∧ (parseMethodDescriptor yX0_sell.desc).map (fun d => d.parameters.length) = some 1 := by decide +kernel
theorem lkX0_sell_22 : Cond.fieldLink RX0 22 RX0 (TX0 4).2.1 (TX0 4).2.2.1 ∈ wsX0_sell := by decide +kernel
set_option maxHeartbeats 4000000 in
set_option maxRecDepth 100000 in
theorem mX0_sell (l : Launch) (hst : l.stackTraces = false) (D : va_G) (cI cZ : ClassId) (ad : Nat → Nat) (a1 : Int32) : oz_MI l yX0_sell wsX0_sell rmX0_sell D cI cZ RX0 0 oz_KSX0 ad oz_lyX0 1 [.ref (ad 0), .int a1] (FX0_sell a1) := by
  refine oz_ofI (wn := RX0) (bytes := cX0_sell) (maxL := 3) (ret := (some .int)) (T := TX0) (N := 19) (by decide) rfl rfl oz_CX0 hst (Nat.le_of_ble_eq_true rfl) ?_
  intro p e s m below meth c st A res G hr X
  have hin : ∀ w ∈ u_ws RX0 TX0 19, w ∈ wsX0_sell := fun w h => List.mem_cons_of_mem _ (List.mem_append_left _ (List.mem_append_left _ (List.mem_append_right _ h)))
  have lk22 := lkX0_sell_22
  have tk1 : Cond.classLink RX0 79 (oz_exn 1) ∈ wsX0_sell := by decide +kernel
  have ti1 : Cond.initialized (oz_exn 1) ∈ wsX0_sell := by decide +kernel
  have tg1 : ∀ w ∈ (vx_atS RX0 83 (oz_exn 1) oz_names).filter goodWord, w ∈ wsX0_sell := fun w h => List.mem_cons_of_mem _ (List.mem_append_left _ (List.mem_append_right _ h))
  have tk2 : Cond.classLink RX0 93 (oz_exn 2) ∈ wsX0_sell := by decide +kernel
  have ti2 : Cond.initialized (oz_exn 2) ∈ wsX0_sell := by decide +kernel
  have tg2 : ∀ w ∈ (vx_atS RX0 97 (oz_exn 2) oz_names).filter goodWord, w ∈ wsX0_sell := fun w h => List.mem_cons_of_mem _ (List.mem_append_right _ h)
  show G 0 0 [(0, .ref (ad 0)), (1, .int a1)] [] st (FX0_sell a1 st)
  unfold FX0_sell
  refine oz_iload_n X dX0_sell_0 rfl 1 rfl ?_
  refine oz_callS X rfl (As := [.int a1]) (S := []) (mX0_isFrameN l hst D cI cZ ad a1) gX0_sell_X0_isFrame rfl rfl rfl hX0_isFrameN ⟨by decide, by decide⟩ rfl rfl (Nat.le_of_ble_eq_true rfl) dX0_sell_1 (by omega) (by decide) (by decide) (fun r1 s1 => ?_)
  refine oz_if_ne X (tgt := 17) dX0_sell_4 (by decide) (fun q2 => ?_) (fun q2 => ?_)
  · refine oz_aload_n X dX0_sell_17 rfl 0 rfl ?_
    refine oz_getA X hin (j := 4) rfl lk22 dX0_sell_18 ?_
    refine oz_iload_n X dX0_sell_21 rfl 1 rfl ?_
    refine oz_iald X (j := 4) rfl (by decide) dX0_sell_22 (fun g3 => ?_)
    refine oz_istore_n X (L2 := [(2, .int (FX 5 a1.toNatClampNeg)), (0, .ref (ad 0)), (1, .int a1)]) dX0_sell_23 rfl (by decide) rfl ?_
    refine oz_iload_n X dX0_sell_24 rfl 0 rfl ?_
    refine oz_callS X rfl (As := [.int (FX 5 a1.toNatClampNeg)]) (S := []) (mX0_isProcessN l hst D cI cZ ad (FX 5 a1.toNatClampNeg)) gX0_sell_X0_isProcess rfl rfl rfl hX0_isProcessN ⟨by decide, by decide⟩ rfl rfl (Nat.le_of_ble_eq_true rfl) dX0_sell_25 (by omega) (by decide) (by decide) (fun r4 s4 => ?_)
    refine oz_if_ne X (tgt := 41) dX0_sell_28 (by decide) (fun q5 => ?_) (fun q5 => ?_)
    · exact oz_none X
    · exact oz_throw X rfl 2 (text := "the frame is free") (by decide) (oz_KSX0_109) (by decide +kernel) tk2 ti2 tg2 oz_tbX0_2 oz_twX0_2 dX0_sell_31 dX0_sell_34 dX0_sell_35 dX0_sell_37 dX0_sell_40 (by decide) (by decide) (by omega) (by decide) (by decide)
  · exact oz_throw X rfl 1 (text := "no such frame") (by decide) (oz_KSX0_107) (by decide +kernel) tk1 ti1 tg1 oz_tbX0_1 oz_twX0_1 dX0_sell_7 dX0_sell_10 dX0_sell_11 dX0_sell_13 dX0_sell_16 (by decide) (by decide) (by omega) (by decide) (by decide)

/-! AlmsKernel.drop -/
def FX0_drop (a1 : Int32) (st : Int32) : Option RC := bnd (FX0_isFrameN a1 st) (fun r1 s1 => (if r1 = 0 then some (1, 0, bump s1) else gd (oz_in a1 12) ((if FX 8 a1.toNatClampNeg = 0 then some (2, 0, bump s1) else none))))
def rmX0_drop : Room := { frames := 6, cells := 1, slots := 6, locals := 86 }
theorem hX0_drop : yX0_drop.cls = RX0 ∧ yX0_drop.cls ≠ "java/lang/invoke/MethodHandle" ∧ yX0_drop.cls ≠ "java/lang/invoke/VarHandle" ∧ (parseMethodDescriptor yX0_drop.desc).map (fun d => d.parameters.length) = some 1 := by decide +kernel
theorem lkX0_drop_31 : Cond.fieldLink RX0 31 RX0 (TX0 7).2.1 (TX0 7).2.2.1 ∈ wsX0_drop := by decide +kernel
set_option maxHeartbeats 4000000 in
set_option maxRecDepth 100000 in
theorem mX0_drop (l : Launch) (hst : l.stackTraces = false) (D : va_G) (cI cZ : ClassId) (ad : Nat → Nat) (a1 : Int32) : oz_MI l yX0_drop wsX0_drop rmX0_drop D cI cZ RX0 0 oz_KSX0 ad oz_lyX0 1 [.ref (ad 0), .int a1] (FX0_drop a1) := by
  refine oz_ofI (wn := RX0) (bytes := cX0_drop) (maxL := 3) (ret := (some .int)) (T := TX0) (N := 19) (by decide) rfl rfl oz_CX0 hst (Nat.le_of_ble_eq_true rfl) ?_
  intro p e s m below meth c st A res G hr X
  have hin : ∀ w ∈ u_ws RX0 TX0 19, w ∈ wsX0_drop := fun w h => List.mem_cons_of_mem _ (List.mem_append_left _ (List.mem_append_left _ (List.mem_append_right _ h)))
  have lk31 := lkX0_drop_31
  have tk1 : Cond.classLink RX0 79 (oz_exn 1) ∈ wsX0_drop := by decide +kernel
  have ti1 : Cond.initialized (oz_exn 1) ∈ wsX0_drop := by decide +kernel
  have tg1 : ∀ w ∈ (vx_atS RX0 83 (oz_exn 1) oz_names).filter goodWord, w ∈ wsX0_drop := fun w h => List.mem_cons_of_mem _ (List.mem_append_left _ (List.mem_append_right _ h))
  have tk2 : Cond.classLink RX0 93 (oz_exn 2) ∈ wsX0_drop := by decide +kernel
  have ti2 : Cond.initialized (oz_exn 2) ∈ wsX0_drop := by decide +kernel
  have tg2 : ∀ w ∈ (vx_atS RX0 97 (oz_exn 2) oz_names).filter goodWord, w ∈ wsX0_drop := fun w h => List.mem_cons_of_mem _ (List.mem_append_right _ h)
  show G 0 0 [(0, .ref (ad 0)), (1, .int a1)] [] st (FX0_drop a1 st)
  unfold FX0_drop
  refine oz_iload_n X dX0_drop_0 rfl 1 rfl ?_
  refine oz_callS X rfl (As := [.int a1]) (S := []) (mX0_isFrameN l hst D cI cZ ad a1) gX0_drop_X0_isFrame rfl rfl rfl hX0_isFrameN ⟨by decide, by decide⟩ rfl rfl (Nat.le_of_ble_eq_true rfl) dX0_drop_1 (by omega) (by decide) (by decide) (fun r1 s1 => ?_)
  refine oz_if_ne X (tgt := 17) dX0_drop_4 (by decide) (fun q2 => ?_) (fun q2 => ?_)
  · refine oz_aload_n X dX0_drop_17 rfl 0 rfl ?_
    refine oz_getA X hin (j := 7) rfl lk31 dX0_drop_18 ?_
    refine oz_iload_n X dX0_drop_21 rfl 1 rfl ?_
    refine oz_zald X (j := 7) rfl (by decide) dX0_drop_22 (fun g3 => ?_)
    refine oz_if_ne X (tgt := 36) dX0_drop_23 (by decide) (fun q4 => ?_) (fun q4 => ?_)
    · exact oz_none X
    · exact oz_throw X rfl 2 (text := "no page is there") (by decide) (oz_KSX0_113) (by decide +kernel) tk2 ti2 tg2 oz_tbX0_2 oz_twX0_2 dX0_drop_26 dX0_drop_29 dX0_drop_30 dX0_drop_32 dX0_drop_35 (by decide) (by decide) (by omega) (by decide) (by decide)
  · exact oz_throw X rfl 1 (text := "no such frame") (by decide) (oz_KSX0_107) (by decide +kernel) tk1 ti1 tg1 oz_tbX0_1 oz_twX0_1 dX0_drop_7 dX0_drop_10 dX0_drop_11 dX0_drop_13 dX0_drop_16 (by decide) (by decide) (by omega) (by decide) (by decide)

/-! AlmsKernel.isPage -/
def FX0_isPageN (a1 : Int32) (st : Int32) : Option RC := (if a1 < 0 then some (0, 0, st) else (if 8 ≤ a1 then some (0, 0, st) else none))
def rmX0_isPageN : Room := { frames := 0, cells := 0, slots := 0, locals := 0 }
theorem hX0_isPageN : yX0_isPage.cls ≠ "java/lang/invoke/MethodHandle" ∧ yX0_isPage.cls ≠ "java/lang/invoke/VarHandle" ∧ (parseMethodDescriptor yX0_isPage.desc).map (fun d => d.parameters.length) = some 1 := by decide +kernel
set_option maxHeartbeats 4000000 in
set_option maxRecDepth 100000 in
theorem mX0_isPageN (l : Launch) (hst : l.stackTraces = false) (D : va_G) (cI cZ : ClassId) (ad : Nat → Nat) (a1 : Int32) : oz_MI l yX0_isPage wsX0_isPage rmX0_isPageN D cI cZ RX0 0 oz_KSX0 ad oz_lyX0 0 [.int a1] (FX0_isPageN a1) := by
  refine oz_ofI (wn := RX0) (bytes := cX0_isPage) (maxL := 1) (ret := (some .boolean)) (T := TX0) (N := 19) (by decide) rfl rfl oz_CX0 hst (Nat.le_of_ble_eq_true rfl) ?_
  intro p e s m below meth c st A res G hr X
  show G 0 0 [(0, .int a1)] [] st (FX0_isPageN a1 st)
  unfold FX0_isPageN
  refine oz_iload_n X dX0_isPage_0 rfl 0 rfl ?_
  refine oz_if_lt X (tgt := 14) dX0_isPage_1 (by decide) (fun q1 => ?_) (fun q1 => ?_)
  · refine oz_iconst X (v := 0) dX0_isPage_14 (by decide) ?_
    exact oz_zret X rfl hr rfl (by omega) dX0_isPage_15
  · refine oz_iload_n X dX0_isPage_4 rfl 0 rfl ?_
    refine oz_bipush X (v := 8) dX0_isPage_5 (by decide) ?_
    refine oz_icmp_ge X (tgt := 14) dX0_isPage_7 (by decide) (fun q2 => ?_) (fun q2 => ?_)
    · refine oz_iconst X (v := 0) dX0_isPage_14 (by decide) ?_
      exact oz_zret X rfl hr rfl (by omega) dX0_isPage_15
    · exact oz_none X

/-! AlmsKernel.touch -/
def FX0_touch (a1 a2 : Int32) (st : Int32) : Option RC := bnd (FX0_isProcessN a1 st) (fun r1 s1 => (if r1 = 0 then some (1, 0, bump s1) else bnd (FX0_isPageN a2 s1) (fun r3 s3 => (if r3 = 0 then some (1, 0, bump s3) else none))))
def rmX0_touch : Room := { frames := 6, cells := 1, slots := 6, locals := 86 }
theorem hX0_touch : yX0_touch.cls = RX0 ∧ yX0_touch.cls ≠ "java/lang/invoke/MethodHandle" ∧ yX0_touch.cls ≠ "java/lang/invoke/VarHandle" ∧ (parseMethodDescriptor yX0_touch.desc).map (fun d => d.parameters.length) = some 2 := by decide +kernel
set_option maxHeartbeats 4000000 in
set_option maxRecDepth 100000 in
theorem mX0_touch (l : Launch) (hst : l.stackTraces = false) (D : va_G) (cI cZ : ClassId) (ad : Nat → Nat) (a1 a2 : Int32) : oz_MI l yX0_touch wsX0_touch rmX0_touch D cI cZ RX0 0 oz_KSX0 ad oz_lyX0 1 [.ref (ad 0), .int a1, .int a2] (FX0_touch a1 a2) := by
  refine oz_ofI (wn := RX0) (bytes := cX0_touch) (maxL := 5) (ret := (some .int)) (T := TX0) (N := 19) (by decide) rfl rfl oz_CX0 hst (Nat.le_of_ble_eq_true rfl) ?_
  intro p e s m below meth c st A res G hr X
  have tk1 : Cond.classLink RX0 79 (oz_exn 1) ∈ wsX0_touch := by decide +kernel
  have ti1 : Cond.initialized (oz_exn 1) ∈ wsX0_touch := by decide +kernel
  have tg1 : ∀ w ∈ (vx_atS RX0 83 (oz_exn 1) oz_names).filter goodWord, w ∈ wsX0_touch := fun w h => List.mem_cons_of_mem _ (List.mem_append_left _ (List.mem_append_right _ h))
  show G 0 0 [(0, .ref (ad 0)), (1, .int a1), (2, .int a2)] [] st (FX0_touch a1 a2 st)
  unfold FX0_touch
  refine oz_iload_n X dX0_touch_0 rfl 1 rfl ?_
  refine oz_callS X rfl (As := [.int a1]) (S := []) (mX0_isProcessN l hst D cI cZ ad a1) gX0_touch_X0_isProcess rfl rfl rfl hX0_isProcessN ⟨by decide, by decide⟩ rfl rfl (Nat.le_of_ble_eq_true rfl) dX0_touch_1 (by omega) (by decide) (by decide) (fun r1 s1 => ?_)
  refine oz_if_eq X (tgt := 14) dX0_touch_4 (by decide) (fun q2 => ?_) (fun q2 => ?_)
  · exact oz_throw X rfl 1 (text := "no such process or page") (by decide) (oz_KSX0_122) (by decide +kernel) tk1 ti1 tg1 oz_tbX0_1 oz_twX0_1 dX0_touch_14 dX0_touch_17 dX0_touch_18 dX0_touch_20 dX0_touch_23 (by decide) (by decide) (by omega) (by decide) (by decide)
  · refine oz_iload_n X dX0_touch_7 rfl 2 rfl ?_
    refine oz_callS X rfl (As := [.int a2]) (S := []) (mX0_isPageN l hst D cI cZ ad a2) gX0_touch_X0_isPage rfl rfl rfl hX0_isPageN ⟨by decide, by decide⟩ rfl rfl (Nat.le_of_ble_eq_true rfl) dX0_touch_8 (by omega) (by decide) (by decide) (fun r3 s3 => ?_)
    refine oz_if_ne X (tgt := 24) dX0_touch_11 (by decide) (fun q4 => ?_) (fun q4 => ?_)
    · exact oz_none X
    · exact oz_throw X rfl 1 (text := "no such process or page") (by decide) (oz_KSX0_122) (by decide +kernel) tk1 ti1 tg1 oz_tbX0_1 oz_twX0_1 dX0_touch_14 dX0_touch_17 dX0_touch_18 dX0_touch_20 dX0_touch_23 (by decide) (by decide) (by omega) (by decide) (by decide)

/-! AlmsKernel.isLoan -/
def FX0_isLoanN (a1 : Int32) (st : Int32) : Option RC := (if a1 < 0 then some (0, 0, st) else (if 60 ≤ a1 then none else (if FX 0 14 ≤ a1 then some (0, 0, st) else none)))
def rmX0_isLoanN : Room := { frames := 0, cells := 0, slots := 0, locals := 0 }
theorem hX0_isLoanN : yX0_isLoan.cls = RX0 ∧ yX0_isLoan.cls ≠ "java/lang/invoke/MethodHandle" ∧ yX0_isLoan.cls ≠ "java/lang/invoke/VarHandle" ∧ (parseMethodDescriptor yX0_isLoan.desc).map (fun d => d.parameters.length) = some 1 := by decide +kernel
theorem lkX0_isLoanN_53 : Cond.fieldLink RX0 53 RX0 (TX0 14).2.1 (TX0 14).2.2.1 ∈ wsX0_isLoan := by decide +kernel
set_option maxHeartbeats 4000000 in
set_option maxRecDepth 100000 in
theorem mX0_isLoanN (l : Launch) (hst : l.stackTraces = false) (D : va_G) (cI cZ : ClassId) (ad : Nat → Nat) (a1 : Int32) : oz_MI l yX0_isLoan wsX0_isLoan rmX0_isLoanN D cI cZ RX0 0 oz_KSX0 ad oz_lyX0 0 [.ref (ad 0), .int a1] (FX0_isLoanN a1) := by
  refine oz_ofI (wn := RX0) (bytes := cX0_isLoan) (maxL := 2) (ret := (some .boolean)) (T := TX0) (N := 19) (by decide) rfl rfl oz_CX0 hst (Nat.le_of_ble_eq_true rfl) ?_
  intro p e s m below meth c st A res G hr X
  have hin : ∀ w ∈ u_ws RX0 TX0 19, w ∈ wsX0_isLoan := fun w h => List.mem_cons_of_mem _ (List.mem_append_right _ h)
  have lk53 := lkX0_isLoanN_53
  show G 0 0 [(0, .ref (ad 0)), (1, .int a1)] [] st (FX0_isLoanN a1 st)
  unfold FX0_isLoanN
  refine oz_iload_n X dX0_isLoan_0 rfl 1 rfl ?_
  refine oz_if_lt X (tgt := 22) dX0_isLoan_1 (by decide) (fun q1 => ?_) (fun q1 => ?_)
  · refine oz_iconst X (v := 0) dX0_isLoan_22 (by decide) ?_
    exact oz_zret X rfl hr rfl (by omega) dX0_isLoan_23
  · refine oz_iload_n X dX0_isLoan_4 rfl 1 rfl ?_
    refine oz_bipush X (v := 60) dX0_isLoan_5 (by decide) ?_
    refine oz_icmp_ge X (tgt := 22) dX0_isLoan_7 (by decide) (fun q2 => ?_) (fun q2 => ?_)
    · exact oz_none X
    · refine oz_iload_n X dX0_isLoan_10 rfl 1 rfl ?_
      refine oz_aload_n X dX0_isLoan_11 rfl 0 rfl ?_
      refine oz_getS X hin (j := 14) rfl lk53 dX0_isLoan_12 ?_
      refine oz_icmp_ge X (tgt := 22) dX0_isLoan_15 (by decide) (fun q3 => ?_) (fun q3 => ?_)
      · refine oz_iconst X (v := 0) dX0_isLoan_22 (by decide) ?_
        exact oz_zret X rfl hr rfl (by omega) dX0_isLoan_23
      · exact oz_none X

/-! AlmsKernel.payBack -/
def FX0_payBack (a1 : Int32) (st : Int32) : Option RC := bnd (FX0_isLoanN a1 st) (fun r1 s1 => (if r1 = 0 then some (1, 0, bump s1) else none))
def rmX0_payBack : Room := { frames := 6, cells := 1, slots := 6, locals := 86 }
theorem hX0_payBack : yX0_payBack.cls = RX0 ∧ yX0_payBack.cls ≠ "java/lang/invoke/MethodHandle" ∧ yX0_payBack.cls ≠ "java/lang/invoke/VarHandle" ∧ (parseMethodDescriptor yX0_payBack.desc).map (fun d => d.parameters.length) = some 1 := by decide +kernel
set_option maxHeartbeats 4000000 in
set_option maxRecDepth 100000 in
theorem mX0_payBack (l : Launch) (hst : l.stackTraces = false) (D : va_G) (cI cZ : ClassId) (ad : Nat → Nat) (a1 : Int32) : oz_MI l yX0_payBack wsX0_payBack rmX0_payBack D cI cZ RX0 0 oz_KSX0 ad oz_lyX0 1 [.ref (ad 0), .int a1] (FX0_payBack a1) := by
  refine oz_ofI (wn := RX0) (bytes := cX0_payBack) (maxL := 2) (ret := (some .int)) (T := TX0) (N := 19) (by decide) rfl rfl oz_CX0 hst (Nat.le_of_ble_eq_true rfl) ?_
  intro p e s m below meth c st A res G hr X
  have tk1 : Cond.classLink RX0 79 (oz_exn 1) ∈ wsX0_payBack := by decide +kernel
  have ti1 : Cond.initialized (oz_exn 1) ∈ wsX0_payBack := by decide +kernel
  have tg1 : ∀ w ∈ (vx_atS RX0 83 (oz_exn 1) oz_names).filter goodWord, w ∈ wsX0_payBack := fun w h => List.mem_cons_of_mem _ (List.mem_append_left _ (List.mem_append_right _ h))
  show G 0 0 [(0, .ref (ad 0)), (1, .int a1)] [] st (FX0_payBack a1 st)
  unfold FX0_payBack
  refine oz_aload_n X dX0_payBack_0 rfl 0 rfl ?_
  refine oz_iload_n X dX0_payBack_1 rfl 1 rfl ?_
  refine oz_callV X rfl (As := [.int a1]) (S := []) (mX0_isLoanN l hst D cI cZ ad a1) gX0_payBack_X0_isLoan rfl rfl rfl hX0_isLoanN ⟨by decide, by decide⟩ rfl rfl (Nat.le_of_ble_eq_true rfl) dX0_payBack_2 (by omega) (by decide) (by decide) (fun r1 s1 => ?_)
  refine oz_if_ne X (tgt := 18) dX0_payBack_5 (by decide) (fun q2 => ?_) (fun q2 => ?_)
  · exact oz_none X
  · exact oz_throw X rfl 1 (text := "no such loan") (by decide) (oz_KSX0_138) (by decide +kernel) tk1 ti1 tg1 oz_tbX0_1 oz_twX0_1 dX0_payBack_8 dX0_payBack_11 dX0_payBack_12 dX0_payBack_14 dX0_payBack_17 (by decide) (by decide) (by omega) (by decide) (by decide)

/-! AlmsKernel.advance -/
def FX0_advance (a1 : Int32) (st : Int32) : Option RC := (if a1 < 1 then some (3, 0, bump st) else (if a1 ≤ 200 then none else some (3, 0, bump st)))
def rmX0_advance : Room := { frames := 6, cells := 1, slots := 6, locals := 86 }
theorem hX0_advance : yX0_advance.cls = RX0 ∧ yX0_advance.cls ≠ "java/lang/invoke/MethodHandle" ∧ yX0_advance.cls ≠ "java/lang/invoke/VarHandle" ∧ (parseMethodDescriptor yX0_advance.desc).map (fun d => d.parameters.length) = some 1 := by decide +kernel
set_option maxHeartbeats 4000000 in
set_option maxRecDepth 100000 in
theorem mX0_advance (l : Launch) (hst : l.stackTraces = false) (D : va_G) (cI cZ : ClassId) (ad : Nat → Nat) (a1 : Int32) : oz_MI l yX0_advance wsX0_advance rmX0_advance D cI cZ RX0 0 oz_KSX0 ad oz_lyX0 1 [.ref (ad 0), .int a1] (FX0_advance a1) := by
  refine oz_ofI (wn := RX0) (bytes := cX0_advance) (maxL := 3) (ret := (some .int)) (T := TX0) (N := 19) (by decide) rfl rfl oz_CX0 hst (Nat.le_of_ble_eq_true rfl) ?_
  intro p e s m below meth c st A res G hr X
  have tk3 : Cond.classLink RX0 86 (oz_exn 3) ∈ wsX0_advance := by decide +kernel
  have ti3 : Cond.initialized (oz_exn 3) ∈ wsX0_advance := by decide +kernel
  have tg3 : ∀ w ∈ (vx_atS RX0 90 (oz_exn 3) oz_names).filter goodWord, w ∈ wsX0_advance := fun w h => List.mem_cons_of_mem _ (List.mem_append_left _ (List.mem_append_right _ h))
  show G 0 0 [(0, .ref (ad 0)), (1, .int a1)] [] st (FX0_advance a1 st)
  unfold FX0_advance
  refine oz_iload_n X dX0_advance_0 rfl 1 rfl ?_
  refine oz_iconst X (v := 1) dX0_advance_1 (by decide) ?_
  refine oz_icmp_lt X (tgt := 12) dX0_advance_2 (by decide) (fun q1 => ?_) (fun q1 => ?_)
  · exact oz_throw X rfl 3 (text := "ticks is out of range") (by decide) (oz_KSX0_148) (by decide +kernel) tk3 ti3 tg3 oz_tbX0_3 oz_twX0_3 dX0_advance_12 dX0_advance_15 dX0_advance_16 dX0_advance_18 dX0_advance_21 (by decide) (by decide) (by omega) (by decide) (by decide)
  · refine oz_iload_n X dX0_advance_5 rfl 1 rfl ?_
    refine oz_sipush X (v := 200) dX0_advance_6 (by decide) ?_
    refine oz_icmp_le X (tgt := 22) dX0_advance_9 (by decide) (fun q2 => ?_) (fun q2 => ?_)
    · exact oz_none X
    · exact oz_throw X rfl 3 (text := "ticks is out of range") (by decide) (oz_KSX0_148) (by decide +kernel) tk3 ti3 tg3 oz_tbX0_3 oz_twX0_3 dX0_advance_12 dX0_advance_15 dX0_advance_16 dX0_advance_18 dX0_advance_21 (by decide) (by decide) (by omega) (by decide) (by decide)

/-! AlmsKernel.owner -/
def FX0_owner (a1 : Int32) (st : Int32) : Option RC := bnd (FX0_isFrameN a1 st) (fun r1 s1 => (if r1 = 0 then some (1, 0, bump s1) else none))
def rmX0_owner : Room := { frames := 6, cells := 1, slots := 6, locals := 86 }
theorem hX0_owner : yX0_owner.cls = RX0 ∧ yX0_owner.cls ≠ "java/lang/invoke/MethodHandle" ∧ yX0_owner.cls ≠ "java/lang/invoke/VarHandle" ∧ (parseMethodDescriptor yX0_owner.desc).map (fun d => d.parameters.length) = some 1 := by decide +kernel
set_option maxHeartbeats 4000000 in
set_option maxRecDepth 100000 in
theorem mX0_owner (l : Launch) (hst : l.stackTraces = false) (D : va_G) (cI cZ : ClassId) (ad : Nat → Nat) (a1 : Int32) : oz_MI l yX0_owner wsX0_owner rmX0_owner D cI cZ RX0 0 oz_KSX0 ad oz_lyX0 1 [.ref (ad 0), .int a1] (FX0_owner a1) := by
  refine oz_ofI (wn := RX0) (bytes := cX0_owner) (maxL := 2) (ret := (some .int)) (T := TX0) (N := 19) (by decide) rfl rfl oz_CX0 hst (Nat.le_of_ble_eq_true rfl) ?_
  intro p e s m below meth c st A res G hr X
  have tk1 : Cond.classLink RX0 79 (oz_exn 1) ∈ wsX0_owner := by decide +kernel
  have ti1 : Cond.initialized (oz_exn 1) ∈ wsX0_owner := by decide +kernel
  have tg1 : ∀ w ∈ (vx_atS RX0 83 (oz_exn 1) oz_names).filter goodWord, w ∈ wsX0_owner := fun w h => List.mem_cons_of_mem _ (List.mem_append_right _ h)
  show G 0 0 [(0, .ref (ad 0)), (1, .int a1)] [] st (FX0_owner a1 st)
  unfold FX0_owner
  refine oz_iload_n X dX0_owner_0 rfl 1 rfl ?_
  refine oz_callS X rfl (As := [.int a1]) (S := []) (mX0_isFrameN l hst D cI cZ ad a1) gX0_owner_X0_isFrame rfl rfl rfl hX0_isFrameN ⟨by decide, by decide⟩ rfl rfl (Nat.le_of_ble_eq_true rfl) dX0_owner_1 (by omega) (by decide) (by decide) (fun r1 s1 => ?_)
  refine oz_if_ne X (tgt := 17) dX0_owner_4 (by decide) (fun q2 => ?_) (fun q2 => ?_)
  · exact oz_none X
  · exact oz_throw X rfl 1 (text := "no such frame") (by decide) (oz_KSX0_107) (by decide +kernel) tk1 ti1 tg1 oz_tbX0_1 oz_twX0_1 dX0_owner_7 dX0_owner_10 dX0_owner_11 dX0_owner_13 dX0_owner_16 (by decide) (by decide) (by omega) (by decide) (by decide)
end
section
/-! AlmsKernel.holder -/
def FX0_holder (a1 : Int32) (st : Int32) : Option RC := bnd (FX0_isFrameN a1 st) (fun r1 s1 => (if r1 = 0 then some (1, 0, bump s1) else none))
def rmX0_holder : Room := { frames := 6, cells := 1, slots := 6, locals := 86 }
theorem hX0_holder : yX0_holder.cls = RX0 ∧ yX0_holder.cls ≠ "java/lang/invoke/MethodHandle" ∧ yX0_holder.cls ≠ "java/lang/invoke/VarHandle" ∧ (parseMethodDescriptor yX0_holder.desc).map (fun d => d.parameters.length) = some 1 := by decide +kernel
set_option maxHeartbeats 4000000 in
set_option maxRecDepth 100000 in
theorem mX0_holder (l : Launch) (hst : l.stackTraces = false) (D : va_G) (cI cZ : ClassId) (ad : Nat → Nat) (a1 : Int32) : oz_MI l yX0_holder wsX0_holder rmX0_holder D cI cZ RX0 0 oz_KSX0 ad oz_lyX0 1 [.ref (ad 0), .int a1] (FX0_holder a1) := by
  refine oz_ofI (wn := RX0) (bytes := cX0_holder) (maxL := 2) (ret := (some .int)) (T := TX0) (N := 19) (by decide) rfl rfl oz_CX0 hst (Nat.le_of_ble_eq_true rfl) ?_
  intro p e s m below meth c st A res G hr X
  have tk1 : Cond.classLink RX0 79 (oz_exn 1) ∈ wsX0_holder := by decide +kernel
  have ti1 : Cond.initialized (oz_exn 1) ∈ wsX0_holder := by decide +kernel
  have tg1 : ∀ w ∈ (vx_atS RX0 83 (oz_exn 1) oz_names).filter goodWord, w ∈ wsX0_holder := fun w h => List.mem_cons_of_mem _ (List.mem_append_right _ h)
  show G 0 0 [(0, .ref (ad 0)), (1, .int a1)] [] st (FX0_holder a1 st)
  unfold FX0_holder
  refine oz_iload_n X dX0_holder_0 rfl 1 rfl ?_
  refine oz_callS X rfl (As := [.int a1]) (S := []) (mX0_isFrameN l hst D cI cZ ad a1) gX0_holder_X0_isFrame rfl rfl rfl hX0_isFrameN ⟨by decide, by decide⟩ rfl rfl (Nat.le_of_ble_eq_true rfl) dX0_holder_1 (by omega) (by decide) (by decide) (fun r1 s1 => ?_)
  refine oz_if_ne X (tgt := 17) dX0_holder_4 (by decide) (fun q2 => ?_) (fun q2 => ?_)
  · exact oz_none X
  · exact oz_throw X rfl 1 (text := "no such frame") (by decide) (oz_KSX0_107) (by decide +kernel) tk1 ti1 tg1 oz_tbX0_1 oz_twX0_1 dX0_holder_7 dX0_holder_10 dX0_holder_11 dX0_holder_13 dX0_holder_16 (by decide) (by decide) (by omega) (by decide) (by decide)

/-! AlmsKernel.holderByLog -/
def FX0_holderByLog (a1 : Int32) (st : Int32) : Option RC := bnd (FX0_isFrameN a1 st) (fun r1 s1 => (if r1 = 0 then some (1, 0, bump s1) else none))
def rmX0_holderByLog : Room := { frames := 6, cells := 1, slots := 6, locals := 86 }
theorem hX0_holderByLog : yX0_holderByLog.cls = RX0 ∧ yX0_holderByLog.cls ≠ "java/lang/invoke/MethodHandle" ∧ yX0_holderByLog.cls ≠ "java/lang/invoke/VarHandle" ∧ (parseMethodDescriptor yX0_holderByLog.desc).map (fun d => d.parameters.length) = some 1 := by decide +kernel
set_option maxHeartbeats 4000000 in
set_option maxRecDepth 100000 in
theorem mX0_holderByLog (l : Launch) (hst : l.stackTraces = false) (D : va_G) (cI cZ : ClassId) (ad : Nat → Nat) (a1 : Int32) : oz_MI l yX0_holderByLog wsX0_holderByLog rmX0_holderByLog D cI cZ RX0 0 oz_KSX0 ad oz_lyX0 1 [.ref (ad 0), .int a1] (FX0_holderByLog a1) := by
  refine oz_ofI (wn := RX0) (bytes := cX0_holderByLog) (maxL := 3) (ret := (some .int)) (T := TX0) (N := 19) (by decide) rfl rfl oz_CX0 hst (Nat.le_of_ble_eq_true rfl) ?_
  intro p e s m below meth c st A res G hr X
  have tk1 : Cond.classLink RX0 79 (oz_exn 1) ∈ wsX0_holderByLog := by decide +kernel
  have ti1 : Cond.initialized (oz_exn 1) ∈ wsX0_holderByLog := by decide +kernel
  have tg1 : ∀ w ∈ (vx_atS RX0 83 (oz_exn 1) oz_names).filter goodWord, w ∈ wsX0_holderByLog := fun w h => List.mem_cons_of_mem _ (List.mem_append_right _ h)
  show G 0 0 [(0, .ref (ad 0)), (1, .int a1)] [] st (FX0_holderByLog a1 st)
  unfold FX0_holderByLog
  refine oz_iload_n X dX0_holderByLog_0 rfl 1 rfl ?_
  refine oz_callS X rfl (As := [.int a1]) (S := []) (mX0_isFrameN l hst D cI cZ ad a1) gX0_holderByLog_X0_isFrame rfl rfl rfl hX0_isFrameN ⟨by decide, by decide⟩ rfl rfl (Nat.le_of_ble_eq_true rfl) dX0_holderByLog_1 (by omega) (by decide) (by decide) (fun r1 s1 => ?_)
  refine oz_if_ne X (tgt := 17) dX0_holderByLog_4 (by decide) (fun q2 => ?_) (fun q2 => ?_)
  · exact oz_none X
  · exact oz_throw X rfl 1 (text := "no such frame") (by decide) (oz_KSX0_107) (by decide +kernel) tk1 ti1 tg1 oz_tbX0_1 oz_twX0_1 dX0_holderByLog_7 dX0_holderByLog_10 dX0_holderByLog_11 dX0_holderByLog_13 dX0_holderByLog_16 (by decide) (by decide) (by omega) (by decide) (by decide)

/-! AlmsKernel.pageIn -/
def FX0_pageIn (a1 : Int32) (st : Int32) : Option RC := bnd (FX0_isFrameN a1 st) (fun r1 s1 => (if r1 = 0 then some (1, 0, bump s1) else none))
def rmX0_pageIn : Room := { frames := 6, cells := 1, slots := 6, locals := 86 }
theorem hX0_pageIn : yX0_pageIn.cls = RX0 ∧ yX0_pageIn.cls ≠ "java/lang/invoke/MethodHandle" ∧ yX0_pageIn.cls ≠ "java/lang/invoke/VarHandle" ∧ (parseMethodDescriptor yX0_pageIn.desc).map (fun d => d.parameters.length) = some 1 := by decide +kernel
set_option maxHeartbeats 4000000 in
set_option maxRecDepth 100000 in
theorem mX0_pageIn (l : Launch) (hst : l.stackTraces = false) (D : va_G) (cI cZ : ClassId) (ad : Nat → Nat) (a1 : Int32) : oz_MI l yX0_pageIn wsX0_pageIn rmX0_pageIn D cI cZ RX0 0 oz_KSX0 ad oz_lyX0 1 [.ref (ad 0), .int a1] (FX0_pageIn a1) := by
  refine oz_ofI (wn := RX0) (bytes := cX0_pageIn) (maxL := 2) (ret := (some .int)) (T := TX0) (N := 19) (by decide) rfl rfl oz_CX0 hst (Nat.le_of_ble_eq_true rfl) ?_
  intro p e s m below meth c st A res G hr X
  have tk1 : Cond.classLink RX0 79 (oz_exn 1) ∈ wsX0_pageIn := by decide +kernel
  have ti1 : Cond.initialized (oz_exn 1) ∈ wsX0_pageIn := by decide +kernel
  have tg1 : ∀ w ∈ (vx_atS RX0 83 (oz_exn 1) oz_names).filter goodWord, w ∈ wsX0_pageIn := fun w h => List.mem_cons_of_mem _ (List.mem_append_right _ h)
  show G 0 0 [(0, .ref (ad 0)), (1, .int a1)] [] st (FX0_pageIn a1 st)
  unfold FX0_pageIn
  refine oz_iload_n X dX0_pageIn_0 rfl 1 rfl ?_
  refine oz_callS X rfl (As := [.int a1]) (S := []) (mX0_isFrameN l hst D cI cZ ad a1) gX0_pageIn_X0_isFrame rfl rfl rfl hX0_isFrameN ⟨by decide, by decide⟩ rfl rfl (Nat.le_of_ble_eq_true rfl) dX0_pageIn_1 (by omega) (by decide) (by decide) (fun r1 s1 => ?_)
  refine oz_if_ne X (tgt := 17) dX0_pageIn_4 (by decide) (fun q2 => ?_) (fun q2 => ?_)
  · exact oz_none X
  · exact oz_throw X rfl 1 (text := "no such frame") (by decide) (oz_KSX0_107) (by decide +kernel) tk1 ti1 tg1 oz_tbX0_1 oz_twX0_1 dX0_pageIn_7 dX0_pageIn_10 dX0_pageIn_11 dX0_pageIn_13 dX0_pageIn_16 (by decide) (by decide) (by omega) (by decide) (by decide)

/-! AlmsKernel.age -/
def FX0_age (a1 : Int32) (st : Int32) : Option RC := bnd (FX0_isFrameN a1 st) (fun r1 s1 => (if r1 = 0 then some (1, 0, bump s1) else none))
def rmX0_age : Room := { frames := 6, cells := 1, slots := 6, locals := 86 }
theorem hX0_age : yX0_age.cls = RX0 ∧ yX0_age.cls ≠ "java/lang/invoke/MethodHandle" ∧ yX0_age.cls ≠ "java/lang/invoke/VarHandle" ∧ (parseMethodDescriptor yX0_age.desc).map (fun d => d.parameters.length) = some 1 := by decide +kernel
set_option maxHeartbeats 4000000 in
set_option maxRecDepth 100000 in
theorem mX0_age (l : Launch) (hst : l.stackTraces = false) (D : va_G) (cI cZ : ClassId) (ad : Nat → Nat) (a1 : Int32) : oz_MI l yX0_age wsX0_age rmX0_age D cI cZ RX0 0 oz_KSX0 ad oz_lyX0 1 [.ref (ad 0), .int a1] (FX0_age a1) := by
  refine oz_ofI (wn := RX0) (bytes := cX0_age) (maxL := 2) (ret := (some .int)) (T := TX0) (N := 19) (by decide) rfl rfl oz_CX0 hst (Nat.le_of_ble_eq_true rfl) ?_
  intro p e s m below meth c st A res G hr X
  have tk1 : Cond.classLink RX0 79 (oz_exn 1) ∈ wsX0_age := by decide +kernel
  have ti1 : Cond.initialized (oz_exn 1) ∈ wsX0_age := by decide +kernel
  have tg1 : ∀ w ∈ (vx_atS RX0 83 (oz_exn 1) oz_names).filter goodWord, w ∈ wsX0_age := fun w h => List.mem_cons_of_mem _ (List.mem_append_right _ h)
  show G 0 0 [(0, .ref (ad 0)), (1, .int a1)] [] st (FX0_age a1 st)
  unfold FX0_age
  refine oz_iload_n X dX0_age_0 rfl 1 rfl ?_
  refine oz_callS X rfl (As := [.int a1]) (S := []) (mX0_isFrameN l hst D cI cZ ad a1) gX0_age_X0_isFrame rfl rfl rfl hX0_isFrameN ⟨by decide, by decide⟩ rfl rfl (Nat.le_of_ble_eq_true rfl) dX0_age_1 (by omega) (by decide) (by decide) (fun r1 s1 => ?_)
  refine oz_if_ne X (tgt := 17) dX0_age_4 (by decide) (fun q2 => ?_) (fun q2 => ?_)
  · exact oz_none X
  · exact oz_throw X rfl 1 (text := "no such frame") (by decide) (oz_KSX0_107) (by decide +kernel) tk1 ti1 tg1 oz_tbX0_1 oz_twX0_1 dX0_age_7 dX0_age_10 dX0_age_11 dX0_age_13 dX0_age_16 (by decide) (by decide) (by omega) (by decide) (by decide)

/-! AlmsKernel.owns -/
def FX0_owns (a1 : Int32) (st : Int32) : Option RC := bnd (FX0_isProcessN a1 st) (fun r1 s1 => (if r1 = 0 then some (1, 0, bump s1) else none))
def rmX0_owns : Room := { frames := 6, cells := 1, slots := 6, locals := 86 }
theorem hX0_owns : yX0_owns.cls = RX0 ∧ yX0_owns.cls ≠ "java/lang/invoke/MethodHandle" ∧ yX0_owns.cls ≠ "java/lang/invoke/VarHandle" ∧ (parseMethodDescriptor yX0_owns.desc).map (fun d => d.parameters.length) = some 1 := by decide +kernel
set_option maxHeartbeats 4000000 in
set_option maxRecDepth 100000 in
theorem mX0_owns (l : Launch) (hst : l.stackTraces = false) (D : va_G) (cI cZ : ClassId) (ad : Nat → Nat) (a1 : Int32) : oz_MI l yX0_owns wsX0_owns rmX0_owns D cI cZ RX0 0 oz_KSX0 ad oz_lyX0 1 [.ref (ad 0), .int a1] (FX0_owns a1) := by
  refine oz_ofI (wn := RX0) (bytes := cX0_owns) (maxL := 4) (ret := (some .int)) (T := TX0) (N := 19) (by decide) rfl rfl oz_CX0 hst (Nat.le_of_ble_eq_true rfl) ?_
  intro p e s m below meth c st A res G hr X
  have tk1 : Cond.classLink RX0 79 (oz_exn 1) ∈ wsX0_owns := by decide +kernel
  have ti1 : Cond.initialized (oz_exn 1) ∈ wsX0_owns := by decide +kernel
  have tg1 : ∀ w ∈ (vx_atS RX0 83 (oz_exn 1) oz_names).filter goodWord, w ∈ wsX0_owns := fun w h => List.mem_cons_of_mem _ (List.mem_append_right _ h)
  show G 0 0 [(0, .ref (ad 0)), (1, .int a1)] [] st (FX0_owns a1 st)
  unfold FX0_owns
  refine oz_iload_n X dX0_owns_0 rfl 1 rfl ?_
  refine oz_callS X rfl (As := [.int a1]) (S := []) (mX0_isProcessN l hst D cI cZ ad a1) gX0_owns_X0_isProcess rfl rfl rfl hX0_isProcessN ⟨by decide, by decide⟩ rfl rfl (Nat.le_of_ble_eq_true rfl) dX0_owns_1 (by omega) (by decide) (by decide) (fun r1 s1 => ?_)
  refine oz_if_ne X (tgt := 17) dX0_owns_4 (by decide) (fun q2 => ?_) (fun q2 => ?_)
  · exact oz_none X
  · exact oz_throw X rfl 1 (text := "no such process") (by decide) (oz_KSX0_81) (by decide +kernel) tk1 ti1 tg1 oz_tbX0_1 oz_twX0_1 dX0_owns_7 dX0_owns_10 dX0_owns_11 dX0_owns_13 dX0_owns_16 (by decide) (by decide) (by omega) (by decide) (by decide)

/-! AlmsKernel.borrowed -/
def FX0_borrowed (a1 : Int32) (st : Int32) : Option RC := bnd (FX0_isProcessN a1 st) (fun r1 s1 => (if r1 = 0 then some (1, 0, bump s1) else none))
def rmX0_borrowed : Room := { frames := 6, cells := 1, slots := 6, locals := 86 }
theorem hX0_borrowed : yX0_borrowed.cls = RX0 ∧ yX0_borrowed.cls ≠ "java/lang/invoke/MethodHandle" ∧ yX0_borrowed.cls ≠ "java/lang/invoke/VarHandle" ∧ (parseMethodDescriptor yX0_borrowed.desc).map (fun d => d.parameters.length) = some 1 := by decide +kernel
set_option maxHeartbeats 4000000 in
set_option maxRecDepth 100000 in
theorem mX0_borrowed (l : Launch) (hst : l.stackTraces = false) (D : va_G) (cI cZ : ClassId) (ad : Nat → Nat) (a1 : Int32) : oz_MI l yX0_borrowed wsX0_borrowed rmX0_borrowed D cI cZ RX0 0 oz_KSX0 ad oz_lyX0 1 [.ref (ad 0), .int a1] (FX0_borrowed a1) := by
  refine oz_ofI (wn := RX0) (bytes := cX0_borrowed) (maxL := 2) (ret := (some .int)) (T := TX0) (N := 19) (by decide) rfl rfl oz_CX0 hst (Nat.le_of_ble_eq_true rfl) ?_
  intro p e s m below meth c st A res G hr X
  have tk1 : Cond.classLink RX0 79 (oz_exn 1) ∈ wsX0_borrowed := by decide +kernel
  have ti1 : Cond.initialized (oz_exn 1) ∈ wsX0_borrowed := by decide +kernel
  have tg1 : ∀ w ∈ (vx_atS RX0 83 (oz_exn 1) oz_names).filter goodWord, w ∈ wsX0_borrowed := fun w h => List.mem_cons_of_mem _ (List.mem_append_right _ h)
  show G 0 0 [(0, .ref (ad 0)), (1, .int a1)] [] st (FX0_borrowed a1 st)
  unfold FX0_borrowed
  refine oz_iload_n X dX0_borrowed_0 rfl 1 rfl ?_
  refine oz_callS X rfl (As := [.int a1]) (S := []) (mX0_isProcessN l hst D cI cZ ad a1) gX0_borrowed_X0_isProcess rfl rfl rfl hX0_isProcessN ⟨by decide, by decide⟩ rfl rfl (Nat.le_of_ble_eq_true rfl) dX0_borrowed_1 (by omega) (by decide) (by decide) (fun r1 s1 => ?_)
  refine oz_if_ne X (tgt := 17) dX0_borrowed_4 (by decide) (fun q2 => ?_) (fun q2 => ?_)
  · exact oz_none X
  · exact oz_throw X rfl 1 (text := "no such process") (by decide) (oz_KSX0_81) (by decide +kernel) tk1 ti1 tg1 oz_tbX0_1 oz_twX0_1 dX0_borrowed_7 dX0_borrowed_10 dX0_borrowed_11 dX0_borrowed_13 dX0_borrowed_16 (by decide) (by decide) (by omega) (by decide) (by decide)

/-! AlmsKernel.lent -/
def FX0_lent (a1 : Int32) (st : Int32) : Option RC := bnd (FX0_isProcessN a1 st) (fun r1 s1 => (if r1 = 0 then some (1, 0, bump s1) else none))
def rmX0_lent : Room := { frames := 6, cells := 1, slots := 6, locals := 86 }
theorem hX0_lent : yX0_lent.cls = RX0 ∧ yX0_lent.cls ≠ "java/lang/invoke/MethodHandle" ∧ yX0_lent.cls ≠ "java/lang/invoke/VarHandle" ∧ (parseMethodDescriptor yX0_lent.desc).map (fun d => d.parameters.length) = some 1 := by decide +kernel
set_option maxHeartbeats 4000000 in
set_option maxRecDepth 100000 in
theorem mX0_lent (l : Launch) (hst : l.stackTraces = false) (D : va_G) (cI cZ : ClassId) (ad : Nat → Nat) (a1 : Int32) : oz_MI l yX0_lent wsX0_lent rmX0_lent D cI cZ RX0 0 oz_KSX0 ad oz_lyX0 1 [.ref (ad 0), .int a1] (FX0_lent a1) := by
  refine oz_ofI (wn := RX0) (bytes := cX0_lent) (maxL := 4) (ret := (some .int)) (T := TX0) (N := 19) (by decide) rfl rfl oz_CX0 hst (Nat.le_of_ble_eq_true rfl) ?_
  intro p e s m below meth c st A res G hr X
  have tk1 : Cond.classLink RX0 79 (oz_exn 1) ∈ wsX0_lent := by decide +kernel
  have ti1 : Cond.initialized (oz_exn 1) ∈ wsX0_lent := by decide +kernel
  have tg1 : ∀ w ∈ (vx_atS RX0 83 (oz_exn 1) oz_names).filter goodWord, w ∈ wsX0_lent := fun w h => List.mem_cons_of_mem _ (List.mem_append_right _ h)
  show G 0 0 [(0, .ref (ad 0)), (1, .int a1)] [] st (FX0_lent a1 st)
  unfold FX0_lent
  refine oz_iload_n X dX0_lent_0 rfl 1 rfl ?_
  refine oz_callS X rfl (As := [.int a1]) (S := []) (mX0_isProcessN l hst D cI cZ ad a1) gX0_lent_X0_isProcess rfl rfl rfl hX0_isProcessN ⟨by decide, by decide⟩ rfl rfl (Nat.le_of_ble_eq_true rfl) dX0_lent_1 (by omega) (by decide) (by decide) (fun r1 s1 => ?_)
  refine oz_if_ne X (tgt := 17) dX0_lent_4 (by decide) (fun q2 => ?_) (fun q2 => ?_)
  · exact oz_none X
  · exact oz_throw X rfl 1 (text := "no such process") (by decide) (oz_KSX0_81) (by decide +kernel) tk1 ti1 tg1 oz_tbX0_1 oz_twX0_1 dX0_lent_7 dX0_lent_10 dX0_lent_11 dX0_lent_13 dX0_lent_16 (by decide) (by decide) (by omega) (by decide) (by decide)

/-! AlmsKernel.stateOf -/
def FX0_stateOf (a1 : Int32) (st : Int32) : Option RC := bnd (FX0_isProcessN a1 st) (fun r1 s1 => (if r1 = 0 then some (1, 0, bump s1) else none))
def rmX0_stateOf : Room := { frames := 6, cells := 1, slots := 6, locals := 86 }
theorem hX0_stateOf : yX0_stateOf.cls = RX0 ∧ yX0_stateOf.cls ≠ "java/lang/invoke/MethodHandle" ∧ yX0_stateOf.cls ≠ "java/lang/invoke/VarHandle" ∧ (parseMethodDescriptor yX0_stateOf.desc).map (fun d => d.parameters.length) = some 1 := by decide +kernel
set_option maxHeartbeats 4000000 in
set_option maxRecDepth 100000 in
theorem mX0_stateOf (l : Launch) (hst : l.stackTraces = false) (D : va_G) (cI cZ : ClassId) (ad : Nat → Nat) (a1 : Int32) : oz_MI l yX0_stateOf wsX0_stateOf rmX0_stateOf D cI cZ RX0 0 oz_KSX0 ad oz_lyX0 1 [.ref (ad 0), .int a1] (FX0_stateOf a1) := by
  refine oz_ofI (wn := RX0) (bytes := cX0_stateOf) (maxL := 2) (ret := (some .int)) (T := TX0) (N := 19) (by decide) rfl rfl oz_CX0 hst (Nat.le_of_ble_eq_true rfl) ?_
  intro p e s m below meth c st A res G hr X
  have tk1 : Cond.classLink RX0 79 (oz_exn 1) ∈ wsX0_stateOf := by decide +kernel
  have ti1 : Cond.initialized (oz_exn 1) ∈ wsX0_stateOf := by decide +kernel
  have tg1 : ∀ w ∈ (vx_atS RX0 83 (oz_exn 1) oz_names).filter goodWord, w ∈ wsX0_stateOf := fun w h => List.mem_cons_of_mem _ (List.mem_append_right _ h)
  show G 0 0 [(0, .ref (ad 0)), (1, .int a1)] [] st (FX0_stateOf a1 st)
  unfold FX0_stateOf
  refine oz_iload_n X dX0_stateOf_0 rfl 1 rfl ?_
  refine oz_callS X rfl (As := [.int a1]) (S := []) (mX0_isProcessN l hst D cI cZ ad a1) gX0_stateOf_X0_isProcess rfl rfl rfl hX0_isProcessN ⟨by decide, by decide⟩ rfl rfl (Nat.le_of_ble_eq_true rfl) dX0_stateOf_1 (by omega) (by decide) (by decide) (fun r1 s1 => ?_)
  refine oz_if_ne X (tgt := 17) dX0_stateOf_4 (by decide) (fun q2 => ?_) (fun q2 => ?_)
  · exact oz_none X
  · exact oz_throw X rfl 1 (text := "no such process") (by decide) (oz_KSX0_81) (by decide +kernel) tk1 ti1 tg1 oz_tbX0_1 oz_twX0_1 dX0_stateOf_7 dX0_stateOf_10 dX0_stateOf_11 dX0_stateOf_13 dX0_stateOf_16 (by decide) (by decide) (by omega) (by decide) (by decide)

/-! AlmsKernel.purse -/
def FX0_purse (a1 : Int32) (st : Int32) : Option RC := bnd (FX0_isProcessN a1 st) (fun r1 s1 => (if r1 = 0 then some (1, 0, bump s1) else none))
def rmX0_purse : Room := { frames := 6, cells := 1, slots := 6, locals := 86 }
theorem hX0_purse : yX0_purse.cls = RX0 ∧ yX0_purse.cls ≠ "java/lang/invoke/MethodHandle" ∧ yX0_purse.cls ≠ "java/lang/invoke/VarHandle" ∧ (parseMethodDescriptor yX0_purse.desc).map (fun d => d.parameters.length) = some 1 := by decide +kernel
set_option maxHeartbeats 4000000 in
set_option maxRecDepth 100000 in
theorem mX0_purse (l : Launch) (hst : l.stackTraces = false) (D : va_G) (cI cZ : ClassId) (ad : Nat → Nat) (a1 : Int32) : oz_MI l yX0_purse wsX0_purse rmX0_purse D cI cZ RX0 0 oz_KSX0 ad oz_lyX0 1 [.ref (ad 0), .int a1] (FX0_purse a1) := by
  refine oz_ofI (wn := RX0) (bytes := cX0_purse) (maxL := 2) (ret := (some .int)) (T := TX0) (N := 19) (by decide) rfl rfl oz_CX0 hst (Nat.le_of_ble_eq_true rfl) ?_
  intro p e s m below meth c st A res G hr X
  have tk1 : Cond.classLink RX0 79 (oz_exn 1) ∈ wsX0_purse := by decide +kernel
  have ti1 : Cond.initialized (oz_exn 1) ∈ wsX0_purse := by decide +kernel
  have tg1 : ∀ w ∈ (vx_atS RX0 83 (oz_exn 1) oz_names).filter goodWord, w ∈ wsX0_purse := fun w h => List.mem_cons_of_mem _ (List.mem_append_right _ h)
  show G 0 0 [(0, .ref (ad 0)), (1, .int a1)] [] st (FX0_purse a1 st)
  unfold FX0_purse
  refine oz_iload_n X dX0_purse_0 rfl 1 rfl ?_
  refine oz_callS X rfl (As := [.int a1]) (S := []) (mX0_isProcessN l hst D cI cZ ad a1) gX0_purse_X0_isProcess rfl rfl rfl hX0_isProcessN ⟨by decide, by decide⟩ rfl rfl (Nat.le_of_ble_eq_true rfl) dX0_purse_1 (by omega) (by decide) (by decide) (fun r1 s1 => ?_)
  refine oz_if_ne X (tgt := 17) dX0_purse_4 (by decide) (fun q2 => ?_) (fun q2 => ?_)
  · exact oz_none X
  · exact oz_throw X rfl 1 (text := "no such process") (by decide) (oz_KSX0_81) (by decide +kernel) tk1 ti1 tg1 oz_tbX0_1 oz_twX0_1 dX0_purse_7 dX0_purse_10 dX0_purse_11 dX0_purse_13 dX0_purse_16 (by decide) (by decide) (by omega) (by decide) (by decide)

/-! AlmsKernel.faults -/
def FX0_faults (a1 : Int32) (st : Int32) : Option RC := bnd (FX0_isProcessN a1 st) (fun r1 s1 => (if r1 = 0 then some (1, 0, bump s1) else none))
def rmX0_faults : Room := { frames := 6, cells := 1, slots := 6, locals := 86 }
theorem hX0_faults : yX0_faults.cls = RX0 ∧ yX0_faults.cls ≠ "java/lang/invoke/MethodHandle" ∧ yX0_faults.cls ≠ "java/lang/invoke/VarHandle" ∧ (parseMethodDescriptor yX0_faults.desc).map (fun d => d.parameters.length) = some 1 := by decide +kernel
set_option maxHeartbeats 4000000 in
set_option maxRecDepth 100000 in
theorem mX0_faults (l : Launch) (hst : l.stackTraces = false) (D : va_G) (cI cZ : ClassId) (ad : Nat → Nat) (a1 : Int32) : oz_MI l yX0_faults wsX0_faults rmX0_faults D cI cZ RX0 0 oz_KSX0 ad oz_lyX0 1 [.ref (ad 0), .int a1] (FX0_faults a1) := by
  refine oz_ofI (wn := RX0) (bytes := cX0_faults) (maxL := 2) (ret := (some .int)) (T := TX0) (N := 19) (by decide) rfl rfl oz_CX0 hst (Nat.le_of_ble_eq_true rfl) ?_
  intro p e s m below meth c st A res G hr X
  have tk1 : Cond.classLink RX0 79 (oz_exn 1) ∈ wsX0_faults := by decide +kernel
  have ti1 : Cond.initialized (oz_exn 1) ∈ wsX0_faults := by decide +kernel
  have tg1 : ∀ w ∈ (vx_atS RX0 83 (oz_exn 1) oz_names).filter goodWord, w ∈ wsX0_faults := fun w h => List.mem_cons_of_mem _ (List.mem_append_right _ h)
  show G 0 0 [(0, .ref (ad 0)), (1, .int a1)] [] st (FX0_faults a1 st)
  unfold FX0_faults
  refine oz_iload_n X dX0_faults_0 rfl 1 rfl ?_
  refine oz_callS X rfl (As := [.int a1]) (S := []) (mX0_isProcessN l hst D cI cZ ad a1) gX0_faults_X0_isProcess rfl rfl rfl hX0_isProcessN ⟨by decide, by decide⟩ rfl rfl (Nat.le_of_ble_eq_true rfl) dX0_faults_1 (by omega) (by decide) (by decide) (fun r1 s1 => ?_)
  refine oz_if_ne X (tgt := 17) dX0_faults_4 (by decide) (fun q2 => ?_) (fun q2 => ?_)
  · exact oz_none X
  · exact oz_throw X rfl 1 (text := "no such process") (by decide) (oz_KSX0_81) (by decide +kernel) tk1 ti1 tg1 oz_tbX0_1 oz_twX0_1 dX0_faults_7 dX0_faults_10 dX0_faults_11 dX0_faults_13 dX0_faults_16 (by decide) (by decide) (by omega) (by decide) (by decide)

/-! AlmsKernel.lasts -/
def FX0_lasts (a1 : Int32) (st : Int32) : Option RC := bnd (FX0_isLoanN a1 st) (fun r1 s1 => (if r1 = 0 then some (1, 0, bump s1) else none))
def rmX0_lasts : Room := { frames := 6, cells := 1, slots := 6, locals := 86 }
theorem hX0_lasts : yX0_lasts.cls = RX0 ∧ yX0_lasts.cls ≠ "java/lang/invoke/MethodHandle" ∧ yX0_lasts.cls ≠ "java/lang/invoke/VarHandle" ∧ (parseMethodDescriptor yX0_lasts.desc).map (fun d => d.parameters.length) = some 1 := by decide +kernel
set_option maxHeartbeats 4000000 in
set_option maxRecDepth 100000 in
theorem mX0_lasts (l : Launch) (hst : l.stackTraces = false) (D : va_G) (cI cZ : ClassId) (ad : Nat → Nat) (a1 : Int32) : oz_MI l yX0_lasts wsX0_lasts rmX0_lasts D cI cZ RX0 0 oz_KSX0 ad oz_lyX0 1 [.ref (ad 0), .int a1] (FX0_lasts a1) := by
  refine oz_ofI (wn := RX0) (bytes := cX0_lasts) (maxL := 2) (ret := (some .boolean)) (T := TX0) (N := 19) (by decide) rfl rfl oz_CX0 hst (Nat.le_of_ble_eq_true rfl) ?_
  intro p e s m below meth c st A res G hr X
  have tk1 : Cond.classLink RX0 79 (oz_exn 1) ∈ wsX0_lasts := by decide +kernel
  have ti1 : Cond.initialized (oz_exn 1) ∈ wsX0_lasts := by decide +kernel
  have tg1 : ∀ w ∈ (vx_atS RX0 83 (oz_exn 1) oz_names).filter goodWord, w ∈ wsX0_lasts := fun w h => List.mem_cons_of_mem _ (List.mem_append_right _ h)
  show G 0 0 [(0, .ref (ad 0)), (1, .int a1)] [] st (FX0_lasts a1 st)
  unfold FX0_lasts
  refine oz_aload_n X dX0_lasts_0 rfl 0 rfl ?_
  refine oz_iload_n X dX0_lasts_1 rfl 1 rfl ?_
  refine oz_callV X rfl (As := [.int a1]) (S := []) (mX0_isLoanN l hst D cI cZ ad a1) gX0_lasts_X0_isLoan rfl rfl rfl hX0_isLoanN ⟨by decide, by decide⟩ rfl rfl (Nat.le_of_ble_eq_true rfl) dX0_lasts_2 (by omega) (by decide) (by decide) (fun r1 s1 => ?_)
  refine oz_if_ne X (tgt := 18) dX0_lasts_5 (by decide) (fun q2 => ?_) (fun q2 => ?_)
  · exact oz_none X
  · exact oz_throw X rfl 1 (text := "no such loan") (by decide) (oz_KSX0_138) (by decide +kernel) tk1 ti1 tg1 oz_tbX0_1 oz_twX0_1 dX0_lasts_8 dX0_lasts_11 dX0_lasts_12 dX0_lasts_14 dX0_lasts_17 (by decide) (by decide) (by omega) (by decide) (by decide)

/-! AlmsKernel.partiesOf -/
def FX0_partiesOf (a1 : Int32) (st : Int32) : Option RC := bnd (FX0_isLoanN a1 st) (fun r1 s1 => (if r1 = 0 then some (1, 0, bump s1) else none))
def rmX0_partiesOf : Room := { frames := 6, cells := 1, slots := 6, locals := 86 }
theorem hX0_partiesOf : yX0_partiesOf.cls = RX0 ∧ yX0_partiesOf.cls ≠ "java/lang/invoke/MethodHandle" ∧ yX0_partiesOf.cls ≠ "java/lang/invoke/VarHandle" ∧ (parseMethodDescriptor yX0_partiesOf.desc).map (fun d => d.parameters.length) = some 1 := by decide +kernel
set_option maxHeartbeats 4000000 in
set_option maxRecDepth 100000 in
theorem mX0_partiesOf (l : Launch) (hst : l.stackTraces = false) (D : va_G) (cI cZ : ClassId) (ad : Nat → Nat) (a1 : Int32) : oz_MI l yX0_partiesOf wsX0_partiesOf rmX0_partiesOf D cI cZ RX0 0 oz_KSX0 ad oz_lyX0 1 [.ref (ad 0), .int a1] (FX0_partiesOf a1) := by
  refine oz_ofI (wn := RX0) (bytes := cX0_partiesOf) (maxL := 2) (ret := (some .int)) (T := TX0) (N := 19) (by decide) rfl rfl oz_CX0 hst (Nat.le_of_ble_eq_true rfl) ?_
  intro p e s m below meth c st A res G hr X
  have tk1 : Cond.classLink RX0 79 (oz_exn 1) ∈ wsX0_partiesOf := by decide +kernel
  have ti1 : Cond.initialized (oz_exn 1) ∈ wsX0_partiesOf := by decide +kernel
  have tg1 : ∀ w ∈ (vx_atS RX0 83 (oz_exn 1) oz_names).filter goodWord, w ∈ wsX0_partiesOf := fun w h => List.mem_cons_of_mem _ (List.mem_append_right _ h)
  show G 0 0 [(0, .ref (ad 0)), (1, .int a1)] [] st (FX0_partiesOf a1 st)
  unfold FX0_partiesOf
  refine oz_aload_n X dX0_partiesOf_0 rfl 0 rfl ?_
  refine oz_iload_n X dX0_partiesOf_1 rfl 1 rfl ?_
  refine oz_callV X rfl (As := [.int a1]) (S := []) (mX0_isLoanN l hst D cI cZ ad a1) gX0_partiesOf_X0_isLoan rfl rfl rfl hX0_isLoanN ⟨by decide, by decide⟩ rfl rfl (Nat.le_of_ble_eq_true rfl) dX0_partiesOf_2 (by omega) (by decide) (by decide) (fun r1 s1 => ?_)
  refine oz_if_ne X (tgt := 18) dX0_partiesOf_5 (by decide) (fun q2 => ?_) (fun q2 => ?_)
  · exact oz_none X
  · exact oz_throw X rfl 1 (text := "no such loan") (by decide) (oz_KSX0_138) (by decide +kernel) tk1 ti1 tg1 oz_tbX0_1 oz_twX0_1 dX0_partiesOf_8 dX0_partiesOf_11 dX0_partiesOf_12 dX0_partiesOf_14 dX0_partiesOf_17 (by decide) (by decide) (by omega) (by decide) (by decide)

/-! AlmsKernel.interest -/
def FX0_interest (a1 : Int32) (st : Int32) : Option RC := bnd (FX0_isLoanN a1 st) (fun r1 s1 => (if r1 = 0 then some (1, 0, bump s1) else none))
def rmX0_interest : Room := { frames := 6, cells := 1, slots := 6, locals := 86 }
theorem hX0_interest : yX0_interest.cls = RX0 ∧ yX0_interest.cls ≠ "java/lang/invoke/MethodHandle" ∧ yX0_interest.cls ≠ "java/lang/invoke/VarHandle" ∧ (parseMethodDescriptor yX0_interest.desc).map (fun d => d.parameters.length) = some 1 := by decide +kernel
set_option maxHeartbeats 4000000 in
set_option maxRecDepth 100000 in
theorem mX0_interest (l : Launch) (hst : l.stackTraces = false) (D : va_G) (cI cZ : ClassId) (ad : Nat → Nat) (a1 : Int32) : oz_MI l yX0_interest wsX0_interest rmX0_interest D cI cZ RX0 0 oz_KSX0 ad oz_lyX0 1 [.ref (ad 0), .int a1] (FX0_interest a1) := by
  refine oz_ofI (wn := RX0) (bytes := cX0_interest) (maxL := 2) (ret := (some .int)) (T := TX0) (N := 19) (by decide) rfl rfl oz_CX0 hst (Nat.le_of_ble_eq_true rfl) ?_
  intro p e s m below meth c st A res G hr X
  have tk1 : Cond.classLink RX0 79 (oz_exn 1) ∈ wsX0_interest := by decide +kernel
  have ti1 : Cond.initialized (oz_exn 1) ∈ wsX0_interest := by decide +kernel
  have tg1 : ∀ w ∈ (vx_atS RX0 83 (oz_exn 1) oz_names).filter goodWord, w ∈ wsX0_interest := fun w h => List.mem_cons_of_mem _ (List.mem_append_right _ h)
  show G 0 0 [(0, .ref (ad 0)), (1, .int a1)] [] st (FX0_interest a1 st)
  unfold FX0_interest
  refine oz_aload_n X dX0_interest_0 rfl 0 rfl ?_
  refine oz_iload_n X dX0_interest_1 rfl 1 rfl ?_
  refine oz_callV X rfl (As := [.int a1]) (S := []) (mX0_isLoanN l hst D cI cZ ad a1) gX0_interest_X0_isLoan rfl rfl rfl hX0_isLoanN ⟨by decide, by decide⟩ rfl rfl (Nat.le_of_ble_eq_true rfl) dX0_interest_2 (by omega) (by decide) (by decide) (fun r1 s1 => ?_)
  refine oz_if_ne X (tgt := 18) dX0_interest_5 (by decide) (fun q2 => ?_) (fun q2 => ?_)
  · exact oz_none X
  · exact oz_throw X rfl 1 (text := "no such loan") (by decide) (oz_KSX0_138) (by decide +kernel) tk1 ti1 tg1 oz_tbX0_1 oz_twX0_1 dX0_interest_8 dX0_interest_11 dX0_interest_12 dX0_interest_14 dX0_interest_17 (by decide) (by decide) (by omega) (by decide) (by decide)

/-! AlmsKernel.requestAt -/
def FX0_requestAt (a1 : Int32) (st : Int32) : Option RC := (if 0 ≤ a1 then none else some (1, 0, bump st))
def rmX0_requestAt : Room := { frames := 6, cells := 1, slots := 6, locals := 86 }
theorem hX0_requestAt : yX0_requestAt.cls = RX0 ∧ yX0_requestAt.cls ≠ "java/lang/invoke/MethodHandle" ∧ yX0_requestAt.cls ≠ "java/lang/invoke/VarHandle" ∧ (parseMethodDescriptor yX0_requestAt.desc).map (fun d => d.parameters.length) = some 1 := by decide +kernel
set_option maxHeartbeats 4000000 in
set_option maxRecDepth 100000 in
theorem mX0_requestAt (l : Launch) (hst : l.stackTraces = false) (D : va_G) (cI cZ : ClassId) (ad : Nat → Nat) (a1 : Int32) : oz_MI l yX0_requestAt wsX0_requestAt rmX0_requestAt D cI cZ RX0 0 oz_KSX0 ad oz_lyX0 1 [.ref (ad 0), .int a1] (FX0_requestAt a1) := by
  refine oz_ofI (wn := RX0) (bytes := cX0_requestAt) (maxL := 4) (ret := (some .int)) (T := TX0) (N := 19) (by decide) rfl rfl oz_CX0 hst (Nat.le_of_ble_eq_true rfl) ?_
  intro p e s m below meth c st A res G hr X
  have tk1 : Cond.classLink RX0 79 (oz_exn 1) ∈ wsX0_requestAt := by decide +kernel
  have ti1 : Cond.initialized (oz_exn 1) ∈ wsX0_requestAt := by decide +kernel
  have tg1 : ∀ w ∈ (vx_atS RX0 83 (oz_exn 1) oz_names).filter goodWord, w ∈ wsX0_requestAt := fun w h => List.mem_cons_of_mem _ (List.mem_append_right _ h)
  show G 0 0 [(0, .ref (ad 0)), (1, .int a1)] [] st (FX0_requestAt a1 st)
  unfold FX0_requestAt
  refine oz_iload_n X dX0_requestAt_0 rfl 1 rfl ?_
  refine oz_if_ge X (tgt := 14) dX0_requestAt_1 (by decide) (fun q1 => ?_) (fun q1 => ?_)
  · exact oz_none X
  · exact oz_throw X rfl 1 (text := "place is below 0") (by decide) (oz_KSX0_162) (by decide +kernel) tk1 ti1 tg1 oz_tbX0_1 oz_twX0_1 dX0_requestAt_4 dX0_requestAt_7 dX0_requestAt_8 dX0_requestAt_10 dX0_requestAt_13 (by decide) (by decide) (by omega) (by decide) (by decide)

/-! AlmsKernel.free -/
def FX0_freeN_w4 : Nat → Int32 → Int32 → Int32 → Option RC
  | 0, _, _, _ => none
  | n + 1, x1, x2, st => (if 12 ≤ x2 then some (0, x1, st) else gd (oz_in x2 12) ((if FX 5 x2.toNatClampNeg = (-1) then (FX0_freeN_w4 n (x1 + 1) (x2 + 1) st) else none)))
def FX0_freeN (st : Int32) : Option RC := (FX0_freeN_w4 62 0 0 st)
def rmX0_freeN : Room := { frames := 0, cells := 0, slots := 0, locals := 0 }
theorem hX0_freeN : yX0_free.cls = RX0 ∧ yX0_free.cls ≠ "java/lang/invoke/MethodHandle" ∧ yX0_free.cls ≠ "java/lang/invoke/VarHandle" ∧ (parseMethodDescriptor yX0_free.desc).map (fun d => d.parameters.length) = some 0 := by decide +kernel
theorem lkX0_freeN_22 : Cond.fieldLink RX0 22 RX0 (TX0 4).2.1 (TX0 4).2.2.1 ∈ wsX0_free := by decide +kernel
set_option maxHeartbeats 4000000 in
set_option maxRecDepth 100000 in
theorem mX0_freeN (l : Launch) (hst : l.stackTraces = false) (D : va_G) (cI cZ : ClassId) (ad : Nat → Nat) : oz_MI l yX0_free wsX0_free rmX0_freeN D cI cZ RX0 0 oz_KSX0 ad oz_lyX0 0 [.ref (ad 0)] (FX0_freeN) := by
  refine oz_ofI (wn := RX0) (bytes := cX0_free) (maxL := 3) (ret := (some .int)) (T := TX0) (N := 19) (by decide) rfl rfl oz_CX0 hst (Nat.le_of_ble_eq_true rfl) ?_
  intro p e s m below meth c st A res G hr X
  have hin : ∀ w ∈ u_ws RX0 TX0 19, w ∈ wsX0_free := fun w h => List.mem_cons_of_mem _ (List.mem_append_right _ h)
  have lk22 := lkX0_freeN_22
  have hc4 : ∀ (n k : Nat), k ≤ 0 → ∀ (x1 : Int32) (x2 : Int32) (st : Int32), G k 4 [(0, .ref (ad 0)), (1, .int x1), (2, .int x2)] [] st (FX0_freeN_w4 n x1 x2 st) := by
    intro n
    induction n with
    | zero => intros; exact oz_none X
    | succ n ih =>
      intro k hk x1 x2 st
      rw [FX0_freeN_w4]
      refine oz_iload_n X dX0_free_4 rfl 2 rfl ?_
      refine oz_bipush X (v := 12) dX0_free_5 (by decide) ?_
      refine oz_icmp_ge X (tgt := 29) dX0_free_7 (by decide) (fun q2 => ?_) (fun q2 => ?_)
      · refine oz_iload_n X dX0_free_29 rfl 1 rfl ?_
        exact oz_iret X rfl hr (by omega) dX0_free_30
      · refine oz_aload_n X dX0_free_10 rfl 0 rfl ?_
        refine oz_getA X hin (j := 4) rfl lk22 dX0_free_11 ?_
        refine oz_iload_n X dX0_free_14 rfl 2 rfl ?_
        refine oz_iald X (j := 4) rfl (by decide) dX0_free_15 (fun g3 => ?_)
        refine oz_iconst X (v := (-1)) dX0_free_16 (by decide) ?_
        refine oz_icmp_ne X (tgt := 23) dX0_free_17 (by decide) (fun q4 => ?_) (fun q4 => ?_)
        · exact oz_none X
        · refine oz_iinc X (q := 1) (v := x1 + 1) (L2 := [(1, .int (x1 + 1)), (0, .ref (ad 0)), (2, .int x2)]) dX0_free_20 rfl rfl (by decide) rfl ?_
          refine oz_iinc X (q := 2) (v := x2 + 1) (L2 := [(2, .int (x2 + 1)), (1, .int (x1 + 1)), (0, .ref (ad 0))]) dX0_free_23 rfl rfl (by decide) rfl ?_
          refine oz_goto X (tgt := 4) dX0_free_26 (by decide) ?_
          exact oz_sub X [2, 1, 0] (L2 := [(0, .ref (ad 0)), (1, .int (x1 + 1)), (2, .int (x2 + 1))]) rfl (ih _ (by omega) (x1 + 1) (x2 + 1) st)
  show G 0 0 [(0, .ref (ad 0))] [] st (FX0_freeN st)
  unfold FX0_freeN
  refine oz_iconst X (v := 0) dX0_free_0 (by decide) ?_
  refine oz_istore_n X (L2 := [(1, .int 0), (0, .ref (ad 0))]) dX0_free_1 rfl (by decide) rfl ?_
  refine oz_iconst X (v := 0) dX0_free_2 (by decide) ?_
  refine oz_istore_n X (L2 := [(2, .int 0), (1, .int 0), (0, .ref (ad 0))]) dX0_free_3 rfl (by decide) rfl ?_
  exact oz_sub X [2, 1, 0] (L2 := [(0, .ref (ad 0)), (1, .int 0), (2, .int 0)]) rfl (hc4 62 _ (by omega) 0 0 st)

/-! AlmsKernel.holderByLog -/
def FX0_holderByLogN (a1 : Int32) (st : Int32) : Option RC := bnd (FX0_isFrameN a1 st) (fun r1 s1 => (if r1 = 0 then none else (if 60 ≤ (0 : Int32) then none else (if FX 0 14 ≤ 0 then gd (oz_in a1 12) (some (0, FX 5 a1.toNatClampNeg, s1)) else none))))
def rmX0_holderByLogN : Room := { frames := 1, cells := 0, slots := 0, locals := 20 }
theorem hX0_holderByLogN : yX0_holderByLog.cls = RX0 ∧ yX0_holderByLog.cls ≠ "java/lang/invoke/MethodHandle" ∧ yX0_holderByLog.cls ≠ "java/lang/invoke/VarHandle" ∧ (parseMethodDescriptor yX0_holderByLog.desc).map (fun d => d.parameters.length) = some 1 := by decide +kernel
theorem lkX0_holderByLogN_22 : Cond.fieldLink RX0 22 RX0 (TX0 4).2.1 (TX0 4).2.2.1 ∈ wsX0_holderByLog := by decide +kernel
theorem lkX0_holderByLogN_53 : Cond.fieldLink RX0 53 RX0 (TX0 14).2.1 (TX0 14).2.2.1 ∈ wsX0_holderByLog := by decide +kernel
set_option maxHeartbeats 4000000 in
set_option maxRecDepth 100000 in
theorem mX0_holderByLogN (l : Launch) (hst : l.stackTraces = false) (D : va_G) (cI cZ : ClassId) (ad : Nat → Nat) (a1 : Int32) : oz_MI l yX0_holderByLog wsX0_holderByLog rmX0_holderByLogN D cI cZ RX0 0 oz_KSX0 ad oz_lyX0 0 [.ref (ad 0), .int a1] (FX0_holderByLogN a1) := by
  refine oz_ofI (wn := RX0) (bytes := cX0_holderByLog) (maxL := 3) (ret := (some .int)) (T := TX0) (N := 19) (by decide) rfl rfl oz_CX0 hst (Nat.le_of_ble_eq_true rfl) ?_
  intro p e s m below meth c st A res G hr X
  have hin : ∀ w ∈ u_ws RX0 TX0 19, w ∈ wsX0_holderByLog := fun w h => List.mem_cons_of_mem _ (List.mem_append_left _ (List.mem_append_right _ h))
  have lk22 := lkX0_holderByLogN_22
  have lk53 := lkX0_holderByLogN_53
  show G 0 0 [(0, .ref (ad 0)), (1, .int a1)] [] st (FX0_holderByLogN a1 st)
  unfold FX0_holderByLogN
  refine oz_iload_n X dX0_holderByLog_0 rfl 1 rfl ?_
  refine oz_callS X rfl (As := [.int a1]) (S := []) (mX0_isFrameN l hst D cI cZ ad a1) gX0_holderByLog_X0_isFrame rfl rfl rfl hX0_isFrameN ⟨by decide, by decide⟩ rfl rfl (Nat.le_of_ble_eq_true rfl) dX0_holderByLog_1 (by omega) (by decide) (by decide) (fun r1 s1 => ?_)
  refine oz_if_ne X (tgt := 17) dX0_holderByLog_4 (by decide) (fun q2 => ?_) (fun q2 => ?_)
  · refine oz_iconst X (v := 0) dX0_holderByLog_17 (by decide) ?_
    refine oz_istore_n X (L2 := [(2, .int 0), (0, .ref (ad 0)), (1, .int a1)]) dX0_holderByLog_18 rfl (by decide) rfl ?_
    refine oz_iload_n X dX0_holderByLog_19 rfl 0 rfl ?_
    refine oz_bipush X (v := 60) dX0_holderByLog_20 (by decide) ?_
    refine oz_icmp_ge X (tgt := 65) dX0_holderByLog_22 (by decide) (fun q3 => ?_) (fun q3 => ?_)
    · exact oz_none X
    · refine oz_iload_n X dX0_holderByLog_25 rfl 0 rfl ?_
      refine oz_aload_n X dX0_holderByLog_26 rfl 1 rfl ?_
      refine oz_getS X hin (j := 14) rfl lk53 dX0_holderByLog_27 ?_
      refine oz_icmp_ge X (tgt := 65) dX0_holderByLog_30 (by decide) (fun q4 => ?_) (fun q4 => ?_)
      · refine oz_aload_n X dX0_holderByLog_65 rfl 1 rfl ?_
        refine oz_getA X hin (j := 4) rfl lk22 dX0_holderByLog_66 ?_
        refine oz_iload_n X dX0_holderByLog_69 rfl 2 rfl ?_
        refine oz_iald X (j := 4) rfl (by decide) dX0_holderByLog_70 (fun g5 => ?_)
        exact oz_iret X rfl hr (by omega) dX0_holderByLog_71
      · exact oz_none X
  · exact oz_none X

/-! AlmsKernel.owns -/
def FX0_ownsN_w21 : Nat → Int32 → Int32 → Int32 → Int32 → Option RC
  | 0, _, _, _, _ => none
  | n + 1, x1, x2, x3, st => (if 12 ≤ x3 then some (0, x2, st) else gd (oz_in x3 12) ((if FX 5 x3.toNatClampNeg = x1 then none else (FX0_ownsN_w21 n x1 x2 (x3 + 1) st))))
def FX0_ownsN (a1 : Int32) (st : Int32) : Option RC := bnd (FX0_isProcessN a1 st) (fun r5 s5 => (if r5 = 0 then none else (FX0_ownsN_w21 62 a1 0 0 s5)))
def rmX0_ownsN : Room := { frames := 1, cells := 0, slots := 0, locals := 20 }
theorem hX0_ownsN : yX0_owns.cls = RX0 ∧ yX0_owns.cls ≠ "java/lang/invoke/MethodHandle" ∧ yX0_owns.cls ≠ "java/lang/invoke/VarHandle" ∧ (parseMethodDescriptor yX0_owns.desc).map (fun d => d.parameters.length) = some 1 := by decide +kernel
theorem lkX0_ownsN_22 : Cond.fieldLink RX0 22 RX0 (TX0 4).2.1 (TX0 4).2.2.1 ∈ wsX0_owns := by decide +kernel
set_option maxHeartbeats 4000000 in
set_option maxRecDepth 100000 in
theorem mX0_ownsN (l : Launch) (hst : l.stackTraces = false) (D : va_G) (cI cZ : ClassId) (ad : Nat → Nat) (a1 : Int32) : oz_MI l yX0_owns wsX0_owns rmX0_ownsN D cI cZ RX0 0 oz_KSX0 ad oz_lyX0 0 [.ref (ad 0), .int a1] (FX0_ownsN a1) := by
  refine oz_ofI (wn := RX0) (bytes := cX0_owns) (maxL := 4) (ret := (some .int)) (T := TX0) (N := 19) (by decide) rfl rfl oz_CX0 hst (Nat.le_of_ble_eq_true rfl) ?_
  intro p e s m below meth c st A res G hr X
  have hin : ∀ w ∈ u_ws RX0 TX0 19, w ∈ wsX0_owns := fun w h => List.mem_cons_of_mem _ (List.mem_append_left _ (List.mem_append_right _ h))
  have lk22 := lkX0_ownsN_22
  have hc21 : ∀ (n k : Nat), k ≤ 0 → ∀ (x1 : Int32) (x2 : Int32) (x3 : Int32) (st : Int32), G k 21 [(0, .ref (ad 0)), (1, .int x1), (2, .int x2), (3, .int x3)] [] st (FX0_ownsN_w21 n x1 x2 x3 st) := by
    intro n
    induction n with
    | zero => intros; exact oz_none X
    | succ n ih =>
      intro k hk x1 x2 x3 st
      rw [FX0_ownsN_w21]
      refine oz_iload_n X dX0_owns_21 rfl 3 rfl ?_
      refine oz_bipush X (v := 12) dX0_owns_22 (by decide) ?_
      refine oz_icmp_ge X (tgt := 46) dX0_owns_24 (by decide) (fun q2 => ?_) (fun q2 => ?_)
      · refine oz_iload_n X dX0_owns_46 rfl 2 rfl ?_
        exact oz_iret X rfl hr (by omega) dX0_owns_47
      · refine oz_aload_n X dX0_owns_27 rfl 0 rfl ?_
        refine oz_getA X hin (j := 4) rfl lk22 dX0_owns_28 ?_
        refine oz_iload_n X dX0_owns_31 rfl 3 rfl ?_
        refine oz_iald X (j := 4) rfl (by decide) dX0_owns_32 (fun g3 => ?_)
        refine oz_iload_n X dX0_owns_33 rfl 1 rfl ?_
        refine oz_icmp_ne X (tgt := 40) dX0_owns_34 (by decide) (fun q4 => ?_) (fun q4 => ?_)
        · refine oz_iinc X (q := 3) (v := x3 + 1) (L2 := [(3, .int (x3 + 1)), (0, .ref (ad 0)), (1, .int x1), (2, .int x2)]) dX0_owns_40 rfl rfl (by decide) rfl ?_
          refine oz_goto X (tgt := 21) dX0_owns_43 (by decide) ?_
          exact oz_sub X [1, 2, 3, 0] (L2 := [(0, .ref (ad 0)), (1, .int x1), (2, .int x2), (3, .int (x3 + 1))]) rfl (ih _ (by omega) x1 x2 (x3 + 1) st)
        · exact oz_none X
  show G 0 0 [(0, .ref (ad 0)), (1, .int a1)] [] st (FX0_ownsN a1 st)
  unfold FX0_ownsN
  refine oz_iload_n X dX0_owns_0 rfl 1 rfl ?_
  refine oz_callS X rfl (As := [.int a1]) (S := []) (mX0_isProcessN l hst D cI cZ ad a1) gX0_owns_X0_isProcess rfl rfl rfl hX0_isProcessN ⟨by decide, by decide⟩ rfl rfl (Nat.le_of_ble_eq_true rfl) dX0_owns_1 (by omega) (by decide) (by decide) (fun r5 s5 => ?_)
  refine oz_if_ne X (tgt := 17) dX0_owns_4 (by decide) (fun q6 => ?_) (fun q6 => ?_)
  · refine oz_iconst X (v := 0) dX0_owns_17 (by decide) ?_
    refine oz_istore_n X (L2 := [(2, .int 0), (0, .ref (ad 0)), (1, .int a1)]) dX0_owns_18 rfl (by decide) rfl ?_
    refine oz_iconst X (v := 0) dX0_owns_19 (by decide) ?_
    refine oz_istore_n X (L2 := [(3, .int 0), (2, .int 0), (0, .ref (ad 0)), (1, .int a1)]) dX0_owns_20 rfl (by decide) rfl ?_
    exact oz_sub X [2, 3, 1, 0] (L2 := [(0, .ref (ad 0)), (1, .int a1), (2, .int 0), (3, .int 0)]) rfl (hc21 62 _ (by omega) a1 0 0 s5)
  · exact oz_none X

/-! AlmsKernel.countBorrowed -/
def FX0_countBorrowedN_w4 : Nat → Int32 → Int32 → Int32 → Int32 → Option RC
  | 0, _, _, _, _ => none
  | n + 1, x1, x2, x3, st => (if 12 ≤ x3 then some (0, x2, st) else gd (oz_in x3 12) ((if FX 6 x3.toNatClampNeg = x1 then none else (FX0_countBorrowedN_w4 n x1 x2 (x3 + 1) st))))
def FX0_countBorrowedN (a1 : Int32) (st : Int32) : Option RC := (FX0_countBorrowedN_w4 62 a1 0 0 st)
def rmX0_countBorrowedN : Room := { frames := 0, cells := 0, slots := 0, locals := 0 }
theorem hX0_countBorrowedN : yX0_countBorrowed.cls = RX0 ∧ yX0_countBorrowed.cls ≠ "java/lang/invoke/MethodHandle" ∧ yX0_countBorrowed.cls ≠ "java/lang/invoke/VarHandle" ∧ (parseMethodDescriptor yX0_countBorrowed.desc).map (fun d => d.parameters.length) = some 1 := by decide +kernel
theorem lkX0_countBorrowedN_25 : Cond.fieldLink RX0 25 RX0 (TX0 5).2.1 (TX0 5).2.2.1 ∈ wsX0_countBorrowed := by decide +kernel
set_option maxHeartbeats 4000000 in
set_option maxRecDepth 100000 in
theorem mX0_countBorrowedN (l : Launch) (hst : l.stackTraces = false) (D : va_G) (cI cZ : ClassId) (ad : Nat → Nat) (a1 : Int32) : oz_MI l yX0_countBorrowed wsX0_countBorrowed rmX0_countBorrowedN D cI cZ RX0 0 oz_KSX0 ad oz_lyX0 0 [.ref (ad 0), .int a1] (FX0_countBorrowedN a1) := by
  refine oz_ofI (wn := RX0) (bytes := cX0_countBorrowed) (maxL := 4) (ret := (some .int)) (T := TX0) (N := 19) (by decide) rfl rfl oz_CX0 hst (Nat.le_of_ble_eq_true rfl) ?_
  intro p e s m below meth c st A res G hr X
  have hin : ∀ w ∈ u_ws RX0 TX0 19, w ∈ wsX0_countBorrowed := fun w h => List.mem_cons_of_mem _ (List.mem_append_right _ h)
  have lk25 := lkX0_countBorrowedN_25
  have hc4 : ∀ (n k : Nat), k ≤ 0 → ∀ (x1 : Int32) (x2 : Int32) (x3 : Int32) (st : Int32), G k 4 [(0, .ref (ad 0)), (1, .int x1), (2, .int x2), (3, .int x3)] [] st (FX0_countBorrowedN_w4 n x1 x2 x3 st) := by
    intro n
    induction n with
    | zero => intros; exact oz_none X
    | succ n ih =>
      intro k hk x1 x2 x3 st
      rw [FX0_countBorrowedN_w4]
      refine oz_iload_n X dX0_countBorrowed_4 rfl 3 rfl ?_
      refine oz_bipush X (v := 12) dX0_countBorrowed_5 (by decide) ?_
      refine oz_icmp_ge X (tgt := 39) dX0_countBorrowed_7 (by decide) (fun q2 => ?_) (fun q2 => ?_)
      · refine oz_iload_n X dX0_countBorrowed_39 rfl 2 rfl ?_
        exact oz_iret X rfl hr (by omega) dX0_countBorrowed_40
      · refine oz_aload_n X dX0_countBorrowed_10 rfl 0 rfl ?_
        refine oz_getA X hin (j := 5) rfl lk25 dX0_countBorrowed_11 ?_
        refine oz_iload_n X dX0_countBorrowed_14 rfl 3 rfl ?_
        refine oz_iald X (j := 5) rfl (by decide) dX0_countBorrowed_15 (fun g3 => ?_)
        refine oz_iload_n X dX0_countBorrowed_16 rfl 1 rfl ?_
        refine oz_icmp_ne X (tgt := 33) dX0_countBorrowed_17 (by decide) (fun q4 => ?_) (fun q4 => ?_)
        · refine oz_iinc X (q := 3) (v := x3 + 1) (L2 := [(3, .int (x3 + 1)), (0, .ref (ad 0)), (1, .int x1), (2, .int x2)]) dX0_countBorrowed_33 rfl rfl (by decide) rfl ?_
          refine oz_goto X (tgt := 4) dX0_countBorrowed_36 (by decide) ?_
          exact oz_sub X [1, 2, 3, 0] (L2 := [(0, .ref (ad 0)), (1, .int x1), (2, .int x2), (3, .int (x3 + 1))]) rfl (ih _ (by omega) x1 x2 (x3 + 1) st)
        · exact oz_none X
  show G 0 0 [(0, .ref (ad 0)), (1, .int a1)] [] st (FX0_countBorrowedN a1 st)
  unfold FX0_countBorrowedN
  refine oz_iconst X (v := 0) dX0_countBorrowed_0 (by decide) ?_
  refine oz_istore_n X (L2 := [(2, .int 0), (0, .ref (ad 0)), (1, .int a1)]) dX0_countBorrowed_1 rfl (by decide) rfl ?_
  refine oz_iconst X (v := 0) dX0_countBorrowed_2 (by decide) ?_
  refine oz_istore_n X (L2 := [(3, .int 0), (2, .int 0), (0, .ref (ad 0)), (1, .int a1)]) dX0_countBorrowed_3 rfl (by decide) rfl ?_
  exact oz_sub X [2, 3, 1, 0] (L2 := [(0, .ref (ad 0)), (1, .int a1), (2, .int 0), (3, .int 0)]) rfl (hc4 62 _ (by omega) a1 0 0 st)

/-! AlmsKernel.borrowed -/
def FX0_borrowedN (a1 : Int32) (st : Int32) : Option RC := bnd (FX0_isProcessN a1 st) (fun r1 s1 => (if r1 = 0 then none else bnd (FX0_countBorrowedN a1 s1) (fun r3 s3 => some (0, r3, s3))))
def rmX0_borrowedN : Room := { frames := 1, cells := 0, slots := 0, locals := 23 }
theorem hX0_borrowedN : yX0_borrowed.cls = RX0 ∧ yX0_borrowed.cls ≠ "java/lang/invoke/MethodHandle" ∧ yX0_borrowed.cls ≠ "java/lang/invoke/VarHandle" ∧ (parseMethodDescriptor yX0_borrowed.desc).map (fun d => d.parameters.length) = some 1 := by decide +kernel
set_option maxHeartbeats 4000000 in
set_option maxRecDepth 100000 in
theorem mX0_borrowedN (l : Launch) (hst : l.stackTraces = false) (D : va_G) (cI cZ : ClassId) (ad : Nat → Nat) (a1 : Int32) : oz_MI l yX0_borrowed wsX0_borrowed rmX0_borrowedN D cI cZ RX0 0 oz_KSX0 ad oz_lyX0 0 [.ref (ad 0), .int a1] (FX0_borrowedN a1) := by
  refine oz_ofI (wn := RX0) (bytes := cX0_borrowed) (maxL := 2) (ret := (some .int)) (T := TX0) (N := 19) (by decide) rfl rfl oz_CX0 hst (Nat.le_of_ble_eq_true rfl) ?_
  intro p e s m below meth c st A res G hr X
  show G 0 0 [(0, .ref (ad 0)), (1, .int a1)] [] st (FX0_borrowedN a1 st)
  unfold FX0_borrowedN
  refine oz_iload_n X dX0_borrowed_0 rfl 1 rfl ?_
  refine oz_callS X rfl (As := [.int a1]) (S := []) (mX0_isProcessN l hst D cI cZ ad a1) gX0_borrowed_X0_isProcess rfl rfl rfl hX0_isProcessN ⟨by decide, by decide⟩ rfl rfl (Nat.le_of_ble_eq_true rfl) dX0_borrowed_1 (by omega) (by decide) (by decide) (fun r1 s1 => ?_)
  refine oz_if_ne X (tgt := 17) dX0_borrowed_4 (by decide) (fun q2 => ?_) (fun q2 => ?_)
  · refine oz_aload_n X dX0_borrowed_17 rfl 0 rfl ?_
    refine oz_iload_n X dX0_borrowed_18 rfl 1 rfl ?_
    refine oz_callV X rfl (As := [.int a1]) (S := []) (mX0_countBorrowedN l hst D cI cZ ad a1) gX0_borrowed_X0_countBorrowed rfl rfl rfl hX0_countBorrowedN ⟨by decide, by decide⟩ rfl rfl (Nat.le_of_ble_eq_true rfl) dX0_borrowed_19 (by omega) (by decide) (by decide) (fun r3 s3 => ?_)
    exact oz_iret X rfl hr (by omega) dX0_borrowed_22
  · exact oz_none X

/-! AlmsKernel.lent -/
def FX0_lentN_w21 : Nat → Int32 → Int32 → Int32 → Int32 → Option RC
  | 0, _, _, _, _ => none
  | n + 1, x1, x2, x3, st => (if 12 ≤ x3 then some (0, x2, st) else gd (oz_in x3 12) ((if FX 5 x3.toNatClampNeg = x1 then none else (FX0_lentN_w21 n x1 x2 (x3 + 1) st))))
def FX0_lentN (a1 : Int32) (st : Int32) : Option RC := bnd (FX0_isProcessN a1 st) (fun r5 s5 => (if r5 = 0 then none else (FX0_lentN_w21 62 a1 0 0 s5)))
def rmX0_lentN : Room := { frames := 1, cells := 0, slots := 0, locals := 20 }
theorem hX0_lentN : yX0_lent.cls = RX0 ∧ yX0_lent.cls ≠ "java/lang/invoke/MethodHandle" ∧ yX0_lent.cls ≠ "java/lang/invoke/VarHandle" ∧ (parseMethodDescriptor yX0_lent.desc).map (fun d => d.parameters.length) = some 1 := by decide +kernel
theorem lkX0_lentN_22 : Cond.fieldLink RX0 22 RX0 (TX0 4).2.1 (TX0 4).2.2.1 ∈ wsX0_lent := by decide +kernel
set_option maxHeartbeats 4000000 in
set_option maxRecDepth 100000 in
theorem mX0_lentN (l : Launch) (hst : l.stackTraces = false) (D : va_G) (cI cZ : ClassId) (ad : Nat → Nat) (a1 : Int32) : oz_MI l yX0_lent wsX0_lent rmX0_lentN D cI cZ RX0 0 oz_KSX0 ad oz_lyX0 0 [.ref (ad 0), .int a1] (FX0_lentN a1) := by
  refine oz_ofI (wn := RX0) (bytes := cX0_lent) (maxL := 4) (ret := (some .int)) (T := TX0) (N := 19) (by decide) rfl rfl oz_CX0 hst (Nat.le_of_ble_eq_true rfl) ?_
  intro p e s m below meth c st A res G hr X
  have hin : ∀ w ∈ u_ws RX0 TX0 19, w ∈ wsX0_lent := fun w h => List.mem_cons_of_mem _ (List.mem_append_left _ (List.mem_append_right _ h))
  have lk22 := lkX0_lentN_22
  have hc21 : ∀ (n k : Nat), k ≤ 0 → ∀ (x1 : Int32) (x2 : Int32) (x3 : Int32) (st : Int32), G k 21 [(0, .ref (ad 0)), (1, .int x1), (2, .int x2), (3, .int x3)] [] st (FX0_lentN_w21 n x1 x2 x3 st) := by
    intro n
    induction n with
    | zero => intros; exact oz_none X
    | succ n ih =>
      intro k hk x1 x2 x3 st
      rw [FX0_lentN_w21]
      refine oz_iload_n X dX0_lent_21 rfl 3 rfl ?_
      refine oz_bipush X (v := 12) dX0_lent_22 (by decide) ?_
      refine oz_icmp_ge X (tgt := 56) dX0_lent_24 (by decide) (fun q2 => ?_) (fun q2 => ?_)
      · refine oz_iload_n X dX0_lent_56 rfl 2 rfl ?_
        exact oz_iret X rfl hr (by omega) dX0_lent_57
      · refine oz_aload_n X dX0_lent_27 rfl 0 rfl ?_
        refine oz_getA X hin (j := 4) rfl lk22 dX0_lent_28 ?_
        refine oz_iload_n X dX0_lent_31 rfl 3 rfl ?_
        refine oz_iald X (j := 4) rfl (by decide) dX0_lent_32 (fun g3 => ?_)
        refine oz_iload_n X dX0_lent_33 rfl 1 rfl ?_
        refine oz_icmp_ne X (tgt := 50) dX0_lent_34 (by decide) (fun q4 => ?_) (fun q4 => ?_)
        · refine oz_iinc X (q := 3) (v := x3 + 1) (L2 := [(3, .int (x3 + 1)), (0, .ref (ad 0)), (1, .int x1), (2, .int x2)]) dX0_lent_50 rfl rfl (by decide) rfl ?_
          refine oz_goto X (tgt := 21) dX0_lent_53 (by decide) ?_
          exact oz_sub X [1, 2, 3, 0] (L2 := [(0, .ref (ad 0)), (1, .int x1), (2, .int x2), (3, .int (x3 + 1))]) rfl (ih _ (by omega) x1 x2 (x3 + 1) st)
        · exact oz_none X
  show G 0 0 [(0, .ref (ad 0)), (1, .int a1)] [] st (FX0_lentN a1 st)
  unfold FX0_lentN
  refine oz_iload_n X dX0_lent_0 rfl 1 rfl ?_
  refine oz_callS X rfl (As := [.int a1]) (S := []) (mX0_isProcessN l hst D cI cZ ad a1) gX0_lent_X0_isProcess rfl rfl rfl hX0_isProcessN ⟨by decide, by decide⟩ rfl rfl (Nat.le_of_ble_eq_true rfl) dX0_lent_1 (by omega) (by decide) (by decide) (fun r5 s5 => ?_)
  refine oz_if_ne X (tgt := 17) dX0_lent_4 (by decide) (fun q6 => ?_) (fun q6 => ?_)
  · refine oz_iconst X (v := 0) dX0_lent_17 (by decide) ?_
    refine oz_istore_n X (L2 := [(2, .int 0), (0, .ref (ad 0)), (1, .int a1)]) dX0_lent_18 rfl (by decide) rfl ?_
    refine oz_iconst X (v := 0) dX0_lent_19 (by decide) ?_
    refine oz_istore_n X (L2 := [(3, .int 0), (2, .int 0), (0, .ref (ad 0)), (1, .int a1)]) dX0_lent_20 rfl (by decide) rfl ?_
    exact oz_sub X [2, 3, 1, 0] (L2 := [(0, .ref (ad 0)), (1, .int a1), (2, .int 0), (3, .int 0)]) rfl (hc21 62 _ (by omega) a1 0 0 s5)
  · exact oz_none X

/-! AlmsKernel.isRequested -/
def FX0_isRequestedN_w2 : Nat → Int32 → Int32 → Option RC
  | 0, _, _ => none
  | n + 1, x2, st => (if 12 ≤ x2 then some (0, 0, st) else bnd (FX0_isComingN x2 st) (fun r3 s3 => (if r3 = 0 then (FX0_isRequestedN_w2 n (x2 + 1) s3) else none)))
def FX0_isRequestedN (a1 : Int32) (st : Int32) : Option RC := (FX0_isRequestedN_w2 62 0 st)
def rmX0_isRequestedN : Room := { frames := 2, cells := 0, slots := 0, locals := 41 }
theorem hX0_isRequestedN : yX0_isRequested.cls = RX0 ∧ yX0_isRequested.cls ≠ "java/lang/invoke/MethodHandle" ∧ yX0_isRequested.cls ≠ "java/lang/invoke/VarHandle" ∧ (parseMethodDescriptor yX0_isRequested.desc).map (fun d => d.parameters.length) = some 1 := by decide +kernel
set_option maxHeartbeats 4000000 in
set_option maxRecDepth 100000 in
theorem mX0_isRequestedN (l : Launch) (hst : l.stackTraces = false) (D : va_G) (cI cZ : ClassId) (ad : Nat → Nat) (a1 : Int32) : oz_MI l yX0_isRequested wsX0_isRequested rmX0_isRequestedN D cI cZ RX0 0 oz_KSX0 ad oz_lyX0 0 [.ref (ad 0), .int a1] (FX0_isRequestedN a1) := by
  refine oz_ofI (wn := RX0) (bytes := cX0_isRequested) (maxL := 3) (ret := (some .boolean)) (T := TX0) (N := 19) (by decide) rfl rfl oz_CX0 hst (Nat.le_of_ble_eq_true rfl) ?_
  intro p e s m below meth c st A res G hr X
  have hc2 : ∀ (n k : Nat), k ≤ 0 → ∀ (x2 : Int32) (st : Int32), G k 2 [(0, .ref (ad 0)), (2, .int x2)] [] st (FX0_isRequestedN_w2 n x2 st) := by
    intro n
    induction n with
    | zero => intros; exact oz_none X
    | succ n ih =>
      intro k hk x2 st
      rw [FX0_isRequestedN_w2]
      refine oz_iload_n X dX0_isRequested_2 rfl 1 rfl ?_
      refine oz_bipush X (v := 12) dX0_isRequested_3 (by decide) ?_
      refine oz_icmp_ge X (tgt := 33) dX0_isRequested_5 (by decide) (fun q2 => ?_) (fun q2 => ?_)
      · refine oz_iconst X (v := 0) dX0_isRequested_33 (by decide) ?_
        exact oz_zret X rfl hr rfl (by omega) dX0_isRequested_34
      · refine oz_aload_n X dX0_isRequested_8 rfl 0 rfl ?_
        refine oz_iload_n X dX0_isRequested_9 rfl 1 rfl ?_
        refine oz_callV X rfl (As := [.int x2]) (S := []) (mX0_isComingN l hst D cI cZ ad x2) gX0_isRequested_X0_isComing rfl rfl rfl hX0_isComingN ⟨by decide, by decide⟩ rfl rfl (Nat.le_of_ble_eq_true rfl) dX0_isRequested_10 (by omega) (by decide) (by decide) (fun r3 s3 => ?_)
        refine oz_if_eq X (tgt := 27) dX0_isRequested_13 (by decide) (fun q4 => ?_) (fun q4 => ?_)
        · refine oz_iinc X (q := 1) (v := x2 + 1) (L2 := [(2, .int (x2 + 1)), (0, .ref (ad 0))]) dX0_isRequested_27 rfl rfl (by decide) rfl ?_
          refine oz_goto X (tgt := 2) dX0_isRequested_30 (by decide) ?_
          exact oz_sub X [1, 0] (L2 := [(0, .ref (ad 0)), (2, .int (x2 + 1))]) rfl (ih _ (by omega) (x2 + 1) s3)
        · exact oz_none X
  show G 0 0 [(0, .ref (ad 0)), (1, .int a1)] [] st (FX0_isRequestedN a1 st)
  unfold FX0_isRequestedN
  refine oz_iconst X (v := 0) dX0_isRequested_0 (by decide) ?_
  refine oz_istore_n X (L2 := [(2, .int 0), (0, .ref (ad 0)), (1, .int a1)]) dX0_isRequested_1 rfl (by decide) rfl ?_
  exact oz_sub X [1, 0] (L2 := [(0, .ref (ad 0)), (2, .int 0)]) rfl (hc2 62 _ (by omega) 0 st)

/-! AlmsKernel.requestAt -/
def FX0_requestAtN_w18 : Nat → Int32 → Int32 → Option RC
  | 0, _, _ => none
  | n + 1, x3, st => (if 40 ≤ x3 then some (0, (-1), st) else bnd (FX0_isRequestedN x3 st) (fun r3 s3 => (if r3 = 0 then (FX0_requestAtN_w18 n (x3 + 1) s3) else none)))
def FX0_requestAtN (a1 : Int32) (st : Int32) : Option RC := (if 0 ≤ a1 then (FX0_requestAtN_w18 62 0 st) else none)
def rmX0_requestAtN : Room := { frames := 3, cells := 0, slots := 0, locals := 63 }
theorem hX0_requestAtN : yX0_requestAt.cls = RX0 ∧ yX0_requestAt.cls ≠ "java/lang/invoke/MethodHandle" ∧ yX0_requestAt.cls ≠ "java/lang/invoke/VarHandle" ∧ (parseMethodDescriptor yX0_requestAt.desc).map (fun d => d.parameters.length) = some 1 := by decide +kernel
set_option maxHeartbeats 4000000 in
set_option maxRecDepth 100000 in
theorem mX0_requestAtN (l : Launch) (hst : l.stackTraces = false) (D : va_G) (cI cZ : ClassId) (ad : Nat → Nat) (a1 : Int32) : oz_MI l yX0_requestAt wsX0_requestAt rmX0_requestAtN D cI cZ RX0 0 oz_KSX0 ad oz_lyX0 0 [.ref (ad 0), .int a1] (FX0_requestAtN a1) := by
  refine oz_ofI (wn := RX0) (bytes := cX0_requestAt) (maxL := 4) (ret := (some .int)) (T := TX0) (N := 19) (by decide) rfl rfl oz_CX0 hst (Nat.le_of_ble_eq_true rfl) ?_
  intro p e s m below meth c st A res G hr X
  have hc18 : ∀ (n k : Nat), k ≤ 0 → ∀ (x3 : Int32) (st : Int32), G k 18 [(0, .ref (ad 0)), (3, .int x3)] [] st (FX0_requestAtN_w18 n x3 st) := by
    intro n
    induction n with
    | zero => intros; exact oz_none X
    | succ n ih =>
      intro k hk x3 st
      rw [FX0_requestAtN_w18]
      refine oz_iload_n X dX0_requestAt_18 rfl 1 rfl ?_
      refine oz_bipush X (v := 40) dX0_requestAt_19 (by decide) ?_
      refine oz_icmp_ge X (tgt := 48) dX0_requestAt_21 (by decide) (fun q2 => ?_) (fun q2 => ?_)
      · refine oz_iconst X (v := (-1)) dX0_requestAt_48 (by decide) ?_
        exact oz_iret X rfl hr (by omega) dX0_requestAt_49
      · refine oz_aload_n X dX0_requestAt_24 rfl 0 rfl ?_
        refine oz_iload_n X dX0_requestAt_25 rfl 1 rfl ?_
        refine oz_callV X rfl (As := [.int x3]) (S := []) (mX0_isRequestedN l hst D cI cZ ad x3) gX0_requestAt_X0_isRequested rfl rfl rfl hX0_isRequestedN ⟨by decide, by decide⟩ rfl rfl (Nat.le_of_ble_eq_true rfl) dX0_requestAt_26 (by omega) (by decide) (by decide) (fun r3 s3 => ?_)
        refine oz_if_eq X (tgt := 42) dX0_requestAt_29 (by decide) (fun q4 => ?_) (fun q4 => ?_)
        · refine oz_iinc X (q := 1) (v := x3 + 1) (L2 := [(3, .int (x3 + 1)), (0, .ref (ad 0))]) dX0_requestAt_42 rfl rfl (by decide) rfl ?_
          refine oz_goto X (tgt := 18) dX0_requestAt_45 (by decide) ?_
          exact oz_sub X [1, 0] (L2 := [(0, .ref (ad 0)), (3, .int (x3 + 1))]) rfl (ih _ (by omega) (x3 + 1) s3)
        · exact oz_none X
  show G 0 0 [(0, .ref (ad 0)), (1, .int a1)] [] st (FX0_requestAtN a1 st)
  unfold FX0_requestAtN
  refine oz_iload_n X dX0_requestAt_0 rfl 1 rfl ?_
  refine oz_if_ge X (tgt := 14) dX0_requestAt_1 (by decide) (fun q5 => ?_) (fun q5 => ?_)
  · refine oz_iconst X (v := 0) dX0_requestAt_14 (by decide) ?_
    refine oz_istore_n X (L2 := [(2, .int 0), (0, .ref (ad 0)), (1, .int a1)]) dX0_requestAt_15 rfl (by decide) rfl ?_
    refine oz_iconst X (v := 0) dX0_requestAt_16 (by decide) ?_
    refine oz_istore_n X (L2 := [(3, .int 0), (2, .int 0), (0, .ref (ad 0)), (1, .int a1)]) dX0_requestAt_17 rfl (by decide) rfl ?_
    exact oz_sub X [2, 0] (L2 := [(0, .ref (ad 0)), (3, .int 0)]) rfl (hc18 62 _ (by omega) 0 st)
  · exact oz_none X
end
section
/-! AlmsKernelLaw.all -/
def FL_all_w98 : Nat → Int64 → Int32 → Int32 → Option RC
  | 0, _, _, _ => none
  | n + 1, x1, x3, st => (if 5 ≤ x3 then some (lgc x1, 0, st) else bnd (FX0_purseN x3 st) (fun r3 s3 => bnd (FX0_stateOfN x3 s3) (fun r4 s4 => bnd (FX0_faultsN x3 s4) (fun r5 s5 => (FL_all_w98 n ((((1000003 * x1) + r3.toInt64) + (31 * r4.toInt64)) + (961 * r5.toInt64)) (x3 + 1) s5)))))
def FL_all_w38 : Nat → Int64 → Int32 → Int32 → Option RC
  | 0, _, _, _ => none
  | n + 1, x1, x3, st => (if 12 ≤ x3 then (FL_all_w98 62 x1 0 st) else bnd (FX0_ownerN x3 st) (fun r8 s8 => bnd (FX0_holderN x3 s8) (fun r9 s9 => bnd (FX0_pageInN x3 s9) (fun r10 s10 => bnd (FX0_ageN x3 s10) (fun r11 s11 => (FL_all_w38 n (((((1000003 * x1) + r8.toInt64) + (31 * r9.toInt64)) + (961 * r10.toInt64)) + (29791 * r11.toInt64)) (x3 + 1) s11))))))
def FL_all (st : Int32) : Option RC := bnd (FX0_tickN st) (fun r12 s12 => bnd (FX0_headN s12) (fun r13 s13 => bnd (FX0_requestsN s13) (fun r14 s14 => bnd (FX0_loansN s14) (fun r15 s15 => (FL_all_w38 62 (((r12.toInt64 + (31 * r13.toInt64)) + (1009 * r14.toInt64)) + (65537 * r15.toInt64)) 0 s15)))))
def rmL_all : Room := { frames := 3, cells := 0, slots := 0, locals := 63 }
theorem hL_all : yL_all.cls ≠ "java/lang/invoke/MethodHandle" ∧ yL_all.cls ≠ "java/lang/invoke/VarHandle" ∧ (parseMethodDescriptor yL_all.desc).map (fun d => d.parameters.length) = some 1 := by decide +kernel
set_option maxHeartbeats 4000000 in
set_option maxRecDepth 100000 in
theorem mL_all (l : Launch) (hst : l.stackTraces = false) (D : va_G) (cI cZ : ClassId) (ad : Nat → Nat) : oz_ML l yL_all wsL_all rmL_all D cI cZ RX0 0 oz_KSX0 ad oz_lyX0 0 [.ref (ad 0)] (FL_all) := by
  refine oz_ofL (wn := RL) (bytes := cL_all) (maxL := 4) (ret := (some .long)) (T := TX0) (N := 19) (by decide) rfl rfl oz_CX0 hst (Nat.le_of_ble_eq_true rfl) ?_
  intro p e s m below meth c st A res G hr X
  have hc98 : ∀ (n k : Nat), k ≤ 0 → ∀ (x1 : Int64) (x3 : Int32) (st : Int32), G k 98 [(0, .ref (ad 0)), (1, .long x1), (3, .int x3)] [] st (FL_all_w98 n x1 x3 st) := by
    intro n
    induction n with
    | zero => intros; exact oz_none X
    | succ n ih =>
      intro k hk x1 x3 st
      rw [FL_all_w98]
      refine oz_iload_n X dL_all_98 rfl 2 rfl ?_
      refine oz_iconst X (v := 5) dL_all_99 (by decide) ?_
      refine oz_icmp_ge X (tgt := 144) dL_all_100 (by decide) (fun q2 => ?_) (fun q2 => ?_)
      · refine oz_lload_n X dL_all_144 rfl 1 rfl ?_
        exact oz_lret X rfl hr (by omega) dL_all_145
      · refine oz_ldc2 X (v := 1000003) (by decide +kernel) dL_all_103 ?_
        refine oz_lload_n X dL_all_106 rfl 1 rfl ?_
        refine oz_lmul X dL_all_107 ?_
        refine oz_aload_n X dL_all_108 rfl 0 rfl ?_
        refine oz_iload_n X dL_all_109 rfl 2 rfl ?_
        refine oz_callV X rfl (As := [.int x3]) (S := [.long (1000003 * x1)]) (mX0_purseN l hst D cI cZ ad x3) gL_all_X0_purse rfl rfl rfl hX0_purseN ⟨by decide, by decide⟩ rfl rfl (Nat.le_of_ble_eq_true rfl) dL_all_110 (by omega) (by decide) (by decide) (fun r3 s3 => ?_)
        refine oz_i2l X dL_all_113 ?_
        refine oz_ladd X dL_all_114 ?_
        refine oz_ldc2 X (v := 31) (by decide +kernel) dL_all_115 ?_
        refine oz_aload_n X dL_all_118 rfl 0 rfl ?_
        refine oz_iload_n X dL_all_119 rfl 2 rfl ?_
        refine oz_callV X rfl (As := [.int x3]) (S := [.long 31, .long ((1000003 * x1) + r3.toInt64)]) (mX0_stateOfN l hst D cI cZ ad x3) gL_all_X0_stateOf rfl rfl rfl hX0_stateOfN ⟨by decide, by decide⟩ rfl rfl (Nat.le_of_ble_eq_true rfl) dL_all_120 (by omega) (by decide) (by decide) (fun r4 s4 => ?_)
        refine oz_i2l X dL_all_123 ?_
        refine oz_lmul X dL_all_124 ?_
        refine oz_ladd X dL_all_125 ?_
        refine oz_ldc2 X (v := 961) (by decide +kernel) dL_all_126 ?_
        refine oz_aload_n X dL_all_129 rfl 0 rfl ?_
        refine oz_iload_n X dL_all_130 rfl 2 rfl ?_
        refine oz_callV X rfl (As := [.int x3]) (S := [.long 961, .long (((1000003 * x1) + r3.toInt64) + (31 * r4.toInt64))]) (mX0_faultsN l hst D cI cZ ad x3) gL_all_X0_faults rfl rfl rfl hX0_faultsN ⟨by decide, by decide⟩ rfl rfl (Nat.le_of_ble_eq_true rfl) dL_all_131 (by omega) (by decide) (by decide) (fun r5 s5 => ?_)
        refine oz_i2l X dL_all_134 ?_
        refine oz_lmul X dL_all_135 ?_
        refine oz_ladd X dL_all_136 ?_
        refine oz_lstore_n X (L2 := [(1, .long ((((1000003 * x1) + r3.toInt64) + (31 * r4.toInt64)) + (961 * r5.toInt64))), (0, .ref (ad 0)), (3, .int x3)]) dL_all_137 rfl (by decide) rfl ?_
        refine oz_iinc X (q := 2) (v := x3 + 1) (L2 := [(3, .int (x3 + 1)), (1, .long ((((1000003 * x1) + r3.toInt64) + (31 * r4.toInt64)) + (961 * r5.toInt64))), (0, .ref (ad 0))]) dL_all_138 rfl rfl (by decide) rfl ?_
        refine oz_goto X (tgt := 98) dL_all_141 (by decide) ?_
        exact oz_sub X [2, 1, 0] (L2 := [(0, .ref (ad 0)), (1, .long ((((1000003 * x1) + r3.toInt64) + (31 * r4.toInt64)) + (961 * r5.toInt64))), (3, .int (x3 + 1))]) rfl (ih _ (by omega) ((((1000003 * x1) + r3.toInt64) + (31 * r4.toInt64)) + (961 * r5.toInt64)) (x3 + 1) s5)
  have hc38 : ∀ (n k : Nat), k ≤ 0 → ∀ (x1 : Int64) (x3 : Int32) (st : Int32), G k 38 [(0, .ref (ad 0)), (1, .long x1), (3, .int x3)] [] st (FL_all_w38 n x1 x3 st) := by
    intro n
    induction n with
    | zero => intros; exact oz_none X
    | succ n ih =>
      intro k hk x1 x3 st
      rw [FL_all_w38]
      refine oz_iload_n X dL_all_38 rfl 2 rfl ?_
      refine oz_bipush X (v := 12) dL_all_39 (by decide) ?_
      refine oz_icmp_ge X (tgt := 96) dL_all_41 (by decide) (fun q7 => ?_) (fun q7 => ?_)
      · refine oz_iconst X (v := 0) dL_all_96 (by decide) ?_
        refine oz_istore_n X (L2 := [(3, .int 0), (0, .ref (ad 0)), (1, .long x1)]) dL_all_97 rfl (by decide) rfl ?_
        exact oz_sub X [1, 2, 0] (L2 := [(0, .ref (ad 0)), (1, .long x1), (3, .int 0)]) rfl (hc98 62 _ (by omega) x1 0 st)
      · refine oz_ldc2 X (v := 1000003) (by decide +kernel) dL_all_44 ?_
        refine oz_lload_n X dL_all_47 rfl 1 rfl ?_
        refine oz_lmul X dL_all_48 ?_
        refine oz_aload_n X dL_all_49 rfl 0 rfl ?_
        refine oz_iload_n X dL_all_50 rfl 2 rfl ?_
        refine oz_callV X rfl (As := [.int x3]) (S := [.long (1000003 * x1)]) (mX0_ownerN l hst D cI cZ ad x3) gL_all_X0_owner rfl rfl rfl hX0_ownerN ⟨by decide, by decide⟩ rfl rfl (Nat.le_of_ble_eq_true rfl) dL_all_51 (by omega) (by decide) (by decide) (fun r8 s8 => ?_)
        refine oz_i2l X dL_all_54 ?_
        refine oz_ladd X dL_all_55 ?_
        refine oz_ldc2 X (v := 31) (by decide +kernel) dL_all_56 ?_
        refine oz_aload_n X dL_all_59 rfl 0 rfl ?_
        refine oz_iload_n X dL_all_60 rfl 2 rfl ?_
        refine oz_callV X rfl (As := [.int x3]) (S := [.long 31, .long ((1000003 * x1) + r8.toInt64)]) (mX0_holderN l hst D cI cZ ad x3) gL_all_X0_holder rfl rfl rfl hX0_holderN ⟨by decide, by decide⟩ rfl rfl (Nat.le_of_ble_eq_true rfl) dL_all_61 (by omega) (by decide) (by decide) (fun r9 s9 => ?_)
        refine oz_i2l X dL_all_64 ?_
        refine oz_lmul X dL_all_65 ?_
        refine oz_ladd X dL_all_66 ?_
        refine oz_ldc2 X (v := 961) (by decide +kernel) dL_all_67 ?_
        refine oz_aload_n X dL_all_70 rfl 0 rfl ?_
        refine oz_iload_n X dL_all_71 rfl 2 rfl ?_
        refine oz_callV X rfl (As := [.int x3]) (S := [.long 961, .long (((1000003 * x1) + r8.toInt64) + (31 * r9.toInt64))]) (mX0_pageInN l hst D cI cZ ad x3) gL_all_X0_pageIn rfl rfl rfl hX0_pageInN ⟨by decide, by decide⟩ rfl rfl (Nat.le_of_ble_eq_true rfl) dL_all_72 (by omega) (by decide) (by decide) (fun r10 s10 => ?_)
        refine oz_i2l X dL_all_75 ?_
        refine oz_lmul X dL_all_76 ?_
        refine oz_ladd X dL_all_77 ?_
        refine oz_ldc2 X (v := 29791) (by decide +kernel) dL_all_78 ?_
        refine oz_aload_n X dL_all_81 rfl 0 rfl ?_
        refine oz_iload_n X dL_all_82 rfl 2 rfl ?_
        refine oz_callV X rfl (As := [.int x3]) (S := [.long 29791, .long ((((1000003 * x1) + r8.toInt64) + (31 * r9.toInt64)) + (961 * r10.toInt64))]) (mX0_ageN l hst D cI cZ ad x3) gL_all_X0_age rfl rfl rfl hX0_ageN ⟨by decide, by decide⟩ rfl rfl (Nat.le_of_ble_eq_true rfl) dL_all_83 (by omega) (by decide) (by decide) (fun r11 s11 => ?_)
        refine oz_i2l X dL_all_86 ?_
        refine oz_lmul X dL_all_87 ?_
        refine oz_ladd X dL_all_88 ?_
        refine oz_lstore_n X (L2 := [(1, .long (((((1000003 * x1) + r8.toInt64) + (31 * r9.toInt64)) + (961 * r10.toInt64)) + (29791 * r11.toInt64))), (0, .ref (ad 0)), (3, .int x3)]) dL_all_89 rfl (by decide) rfl ?_
        refine oz_iinc X (q := 2) (v := x3 + 1) (L2 := [(3, .int (x3 + 1)), (1, .long (((((1000003 * x1) + r8.toInt64) + (31 * r9.toInt64)) + (961 * r10.toInt64)) + (29791 * r11.toInt64))), (0, .ref (ad 0))]) dL_all_90 rfl rfl (by decide) rfl ?_
        refine oz_goto X (tgt := 38) dL_all_93 (by decide) ?_
        exact oz_sub X [2, 1, 0] (L2 := [(0, .ref (ad 0)), (1, .long (((((1000003 * x1) + r8.toInt64) + (31 * r9.toInt64)) + (961 * r10.toInt64)) + (29791 * r11.toInt64))), (3, .int (x3 + 1))]) rfl (ih _ (by omega) (((((1000003 * x1) + r8.toInt64) + (31 * r9.toInt64)) + (961 * r10.toInt64)) + (29791 * r11.toInt64)) (x3 + 1) s11)
  show G 0 0 [(0, .ref (ad 0))] [] st (FL_all st)
  unfold FL_all
  refine oz_aload_n X dL_all_0 rfl 0 rfl ?_
  refine oz_callV X rfl (As := []) (S := []) (mX0_tickN l hst D cI cZ ad) gL_all_X0_tick rfl rfl rfl hX0_tickN ⟨by decide, by decide⟩ rfl rfl (Nat.le_of_ble_eq_true rfl) dL_all_1 (by omega) (by decide) (by decide) (fun r12 s12 => ?_)
  refine oz_i2l X dL_all_4 ?_
  refine oz_ldc2 X (v := 31) (by decide +kernel) dL_all_5 ?_
  refine oz_aload_n X dL_all_8 rfl 0 rfl ?_
  refine oz_callV X rfl (As := []) (S := [.long 31, .long r12.toInt64]) (mX0_headN l hst D cI cZ ad) gL_all_X0_head rfl rfl rfl hX0_headN ⟨by decide, by decide⟩ rfl rfl (Nat.le_of_ble_eq_true rfl) dL_all_9 (by omega) (by decide) (by decide) (fun r13 s13 => ?_)
  refine oz_i2l X dL_all_12 ?_
  refine oz_lmul X dL_all_13 ?_
  refine oz_ladd X dL_all_14 ?_
  refine oz_ldc2 X (v := 1009) (by decide +kernel) dL_all_15 ?_
  refine oz_aload_n X dL_all_18 rfl 0 rfl ?_
  refine oz_callV X rfl (As := []) (S := [.long 1009, .long (r12.toInt64 + (31 * r13.toInt64))]) (mX0_requestsN l hst D cI cZ ad) gL_all_X0_requests rfl rfl rfl hX0_requestsN ⟨by decide, by decide⟩ rfl rfl (Nat.le_of_ble_eq_true rfl) dL_all_19 (by omega) (by decide) (by decide) (fun r14 s14 => ?_)
  refine oz_i2l X dL_all_22 ?_
  refine oz_lmul X dL_all_23 ?_
  refine oz_ladd X dL_all_24 ?_
  refine oz_ldc2 X (v := 65537) (by decide +kernel) dL_all_25 ?_
  refine oz_aload_n X dL_all_28 rfl 0 rfl ?_
  refine oz_callV X rfl (As := []) (S := [.long 65537, .long ((r12.toInt64 + (31 * r13.toInt64)) + (1009 * r14.toInt64))]) (mX0_loansN l hst D cI cZ ad) gL_all_X0_loans rfl rfl rfl hX0_loansN ⟨by decide, by decide⟩ rfl rfl (Nat.le_of_ble_eq_true rfl) dL_all_29 (by omega) (by decide) (by decide) (fun r15 s15 => ?_)
  refine oz_i2l X dL_all_32 ?_
  refine oz_lmul X dL_all_33 ?_
  refine oz_ladd X dL_all_34 ?_
  refine oz_lstore_n X (L2 := [(1, .long (((r12.toInt64 + (31 * r13.toInt64)) + (1009 * r14.toInt64)) + (65537 * r15.toInt64))), (0, .ref (ad 0))]) dL_all_35 rfl (by decide) rfl ?_
  refine oz_iconst X (v := 0) dL_all_36 (by decide) ?_
  refine oz_istore_n X (L2 := [(3, .int 0), (1, .long (((r12.toInt64 + (31 * r13.toInt64)) + (1009 * r14.toInt64)) + (65537 * r15.toInt64))), (0, .ref (ad 0))]) dL_all_37 rfl (by decide) rfl ?_
  exact oz_sub X [2, 1, 0] (L2 := [(0, .ref (ad 0)), (1, .long (((r12.toInt64 + (31 * r13.toInt64)) + (1009 * r14.toInt64)) + (65537 * r15.toInt64))), (3, .int 0)]) rfl (hc38 62 _ (by omega) (((r12.toInt64 + (31 * r13.toInt64)) + (1009 * r14.toInt64)) + (65537 * r15.toInt64)) 0 s15)
end
section
/-! AlmsKernelLaw.act -/
def FL_act (a1 a2 a3 : Int32) (st : Int32) : Option RC := (if a1 = 0 then actc (FX0_setWage a2 a3 st) else (if a1 = 1 then actc (FX0_setRate a2 st) else (if a1 = 2 then actc (FX0_buy a2 st) else (if a1 = 3 then actc (FX0_sell a2 st) else (if a1 = 4 then actc (FX0_drop a2 st) else (if a1 = 5 then actc (FX0_touch a2 a3 st) else (if a1 = 6 then actc (FX0_payBack a2 st) else actc (FX0_advance a2 st))))))))
def rmL_act : Room := { frames := 7, cells := 1, slots := 6, locals := 110 }
theorem hL_act : yL_act.cls ≠ "java/lang/invoke/MethodHandle" ∧ yL_act.cls ≠ "java/lang/invoke/VarHandle" ∧ (parseMethodDescriptor yL_act.desc).map (fun d => d.parameters.length) = some 4 := by decide +kernel
set_option maxHeartbeats 4000000 in
set_option maxRecDepth 100000 in
theorem mL_act (l : Launch) (hst : l.stackTraces = false) (D : va_G) (cI cZ : ClassId) (ad : Nat → Nat) (a1 a2 a3 : Int32) : oz_MI l yL_act wsL_act rmL_act D cI cZ RX0 0 oz_KSX0 ad oz_lyX0 1 [.ref (ad 0), .int a1, .int a2, .int a3] (FL_act a1 a2 a3) := by
  refine oz_ofIX (wn := RL) (bytes := cL_act) (maxL := 5) (ret := (some .int)) (hh := [(0, 98, 99, 37), (0, 98, 105, 39), (0, 98, 111, 41)]) (T := TX0) (N := 19) (by decide) rfl rfl oz_CX0 hst (Nat.le_of_ble_eq_true rfl) ?_
  intro p e s m below meth c st A res G hr X
  have tl1 : Cond.classLink RL 37 (oz_exn 1) ∈ wsL_act := by decide +kernel
  have tl3 : Cond.classLink RL 39 (oz_exn 3) ∈ wsL_act := by decide +kernel
  have tl2 : Cond.classLink RL 41 (oz_exn 2) ∈ wsL_act := by decide +kernel
  show G 0 0 [(0, .ref (ad 0)), (1, .int a1), (2, .int a2), (3, .int a3)] [] st (FL_act a1 a2 a3 st)
  unfold FL_act
  refine oz_iload_n X dL_act_0 rfl 1 rfl ?_
  refine oz_if_ne X (tgt := 13) dL_act_1 (by decide) (fun q1 => ?_) (fun q1 => ?_)
  · refine oz_iload_n X dL_act_13 rfl 1 rfl ?_
    refine oz_iconst X (v := 1) dL_act_14 (by decide) ?_
    refine oz_icmp_ne X (tgt := 26) dL_act_15 (by decide) (fun q2 => ?_) (fun q2 => ?_)
    · refine oz_iload_n X dL_act_26 rfl 1 rfl ?_
      refine oz_iconst X (v := 2) dL_act_27 (by decide) ?_
      refine oz_icmp_ne X (tgt := 39) dL_act_28 (by decide) (fun q3 => ?_) (fun q3 => ?_)
      · refine oz_iload_n X dL_act_39 rfl 1 rfl ?_
        refine oz_iconst X (v := 3) dL_act_40 (by decide) ?_
        refine oz_icmp_ne X (tgt := 52) dL_act_41 (by decide) (fun q4 => ?_) (fun q4 => ?_)
        · refine oz_iload_n X dL_act_52 rfl 1 rfl ?_
          refine oz_iconst X (v := 4) dL_act_53 (by decide) ?_
          refine oz_icmp_ne X (tgt := 65) dL_act_54 (by decide) (fun q5 => ?_) (fun q5 => ?_)
          · refine oz_iload_n X dL_act_65 rfl 1 rfl ?_
            refine oz_iconst X (v := 5) dL_act_66 (by decide) ?_
            refine oz_icmp_ne X (tgt := 79) dL_act_67 (by decide) (fun q6 => ?_) (fun q6 => ?_)
            · refine oz_iload_n X dL_act_79 rfl 1 rfl ?_
              refine oz_bipush X (v := 6) dL_act_80 (by decide) ?_
              refine oz_icmp_ne X (tgt := 93) dL_act_82 (by decide) (fun q7 => ?_) (fun q7 => ?_)
              · refine oz_aload_n X dL_act_93 rfl 0 rfl ?_
                refine oz_iload_n X dL_act_94 rfl 2 rfl ?_
                exact oz_callA X rfl (As := [.int a2]) (mX0_advance l hst D cI cZ ad a2) gL_act_X0_advance rfl rfl rfl hX0_advance ⟨by decide, by decide⟩ hr rfl rfl dL_act_95 (by omega) (by decide) (by decide) (by decide) (by decide) tl1 tl3 tl2 dL_act_99 dL_act_101 dL_act_104 dL_act_105 dL_act_107 dL_act_110 dL_act_111 dL_act_113 dL_act_116
              · refine oz_aload_n X dL_act_85 rfl 0 rfl ?_
                refine oz_iload_n X dL_act_86 rfl 2 rfl ?_
                exact oz_callA X rfl (As := [.int a2]) (mX0_payBack l hst D cI cZ ad a2) gL_act_X0_payBack rfl rfl rfl hX0_payBack ⟨by decide, by decide⟩ hr rfl rfl dL_act_87 (by omega) (by decide) (by decide) (by decide) (by decide) tl1 tl3 tl2 dL_act_99 dL_act_101 dL_act_104 dL_act_105 dL_act_107 dL_act_110 dL_act_111 dL_act_113 dL_act_116
            · refine oz_aload_n X dL_act_70 rfl 0 rfl ?_
              refine oz_iload_n X dL_act_71 rfl 2 rfl ?_
              refine oz_iload_n X dL_act_72 rfl 3 rfl ?_
              exact oz_callA X rfl (As := [.int a2, .int a3]) (mX0_touch l hst D cI cZ ad a2 a3) gL_act_X0_touch rfl rfl rfl hX0_touch ⟨by decide, by decide⟩ hr rfl rfl dL_act_73 (by omega) (by decide) (by decide) (by decide) (by decide) tl1 tl3 tl2 dL_act_99 dL_act_101 dL_act_104 dL_act_105 dL_act_107 dL_act_110 dL_act_111 dL_act_113 dL_act_116
          · refine oz_aload_n X dL_act_57 rfl 0 rfl ?_
            refine oz_iload_n X dL_act_58 rfl 2 rfl ?_
            exact oz_callA X rfl (As := [.int a2]) (mX0_drop l hst D cI cZ ad a2) gL_act_X0_drop rfl rfl rfl hX0_drop ⟨by decide, by decide⟩ hr rfl rfl dL_act_59 (by omega) (by decide) (by decide) (by decide) (by decide) tl1 tl3 tl2 dL_act_99 dL_act_101 dL_act_104 dL_act_105 dL_act_107 dL_act_110 dL_act_111 dL_act_113 dL_act_116
        · refine oz_aload_n X dL_act_44 rfl 0 rfl ?_
          refine oz_iload_n X dL_act_45 rfl 2 rfl ?_
          exact oz_callA X rfl (As := [.int a2]) (mX0_sell l hst D cI cZ ad a2) gL_act_X0_sell rfl rfl rfl hX0_sell ⟨by decide, by decide⟩ hr rfl rfl dL_act_46 (by omega) (by decide) (by decide) (by decide) (by decide) tl1 tl3 tl2 dL_act_99 dL_act_101 dL_act_104 dL_act_105 dL_act_107 dL_act_110 dL_act_111 dL_act_113 dL_act_116
      · refine oz_aload_n X dL_act_31 rfl 0 rfl ?_
        refine oz_iload_n X dL_act_32 rfl 2 rfl ?_
        exact oz_callA X rfl (As := [.int a2]) (mX0_buy l hst D cI cZ ad a2) gL_act_X0_buy rfl rfl rfl hX0_buy ⟨by decide, by decide⟩ hr rfl rfl dL_act_33 (by omega) (by decide) (by decide) (by decide) (by decide) tl1 tl3 tl2 dL_act_99 dL_act_101 dL_act_104 dL_act_105 dL_act_107 dL_act_110 dL_act_111 dL_act_113 dL_act_116
    · refine oz_aload_n X dL_act_18 rfl 0 rfl ?_
      refine oz_iload_n X dL_act_19 rfl 2 rfl ?_
      exact oz_callA X rfl (As := [.int a2]) (mX0_setRate l hst D cI cZ ad a2) gL_act_X0_setRate rfl rfl rfl hX0_setRate ⟨by decide, by decide⟩ hr rfl rfl dL_act_20 (by omega) (by decide) (by decide) (by decide) (by decide) tl1 tl3 tl2 dL_act_99 dL_act_101 dL_act_104 dL_act_105 dL_act_107 dL_act_110 dL_act_111 dL_act_113 dL_act_116
  · refine oz_aload_n X dL_act_4 rfl 0 rfl ?_
    refine oz_iload_n X dL_act_5 rfl 2 rfl ?_
    refine oz_iload_n X dL_act_6 rfl 3 rfl ?_
    exact oz_callA X rfl (As := [.int a2, .int a3]) (mX0_setWage l hst D cI cZ ad a2 a3) gL_act_X0_setWage rfl rfl rfl hX0_setWage ⟨by decide, by decide⟩ hr rfl rfl dL_act_7 (by omega) (by decide) (by decide) (by decide) (by decide) tl1 tl3 tl2 dL_act_99 dL_act_101 dL_act_104 dL_act_105 dL_act_107 dL_act_110 dL_act_111 dL_act_113 dL_act_116
end
section
/-! AlmsKernelLaw.of -/
def FL_of (a1 a2 : Int32) (st : Int32) : Option RC := (if a1 = 0 then ofc (FX0_owner a2 st) else (if a1 = 1 then ofc (FX0_holder a2 st) else (if a1 = 2 then ofc (FX0_holderByLog a2 st) else (if a1 = 3 then ofc (FX0_pageIn a2 st) else (if a1 = 4 then ofc (FX0_age a2 st) else (if a1 = 5 then ofc (FX0_owns a2 st) else (if a1 = 6 then ofc (FX0_borrowed a2 st) else (if a1 = 7 then ofc (FX0_lent a2 st) else (if a1 = 8 then ofc (FX0_stateOf a2 st) else (if a1 = 9 then ofc (FX0_purse a2 st) else (if a1 = 10 then ofc (FX0_faults a2 st) else (if a1 = 11 then ofc (FX0_lasts a2 st) else (if a1 = 12 then ofc (FX0_partiesOf a2 st) else (if a1 = 13 then ofc (FX0_interest a2 st) else ofc (FX0_requestAt a2 st)))))))))))))))
def rmL_of : Room := { frames := 7, cells := 1, slots := 6, locals := 109 }
theorem hL_of : yL_of.cls ≠ "java/lang/invoke/MethodHandle" ∧ yL_of.cls ≠ "java/lang/invoke/VarHandle" ∧ (parseMethodDescriptor yL_of.desc).map (fun d => d.parameters.length) = some 3 := by decide +kernel
set_option maxHeartbeats 4000000 in
set_option maxRecDepth 100000 in
theorem mL_of (l : Launch) (hst : l.stackTraces = false) (D : va_G) (cI cZ : ClassId) (ad : Nat → Nat) (a1 a2 : Int32) : oz_MI l yL_of wsL_of rmL_of D cI cZ RX0 0 oz_KSX0 ad oz_lyX0 1 [.ref (ad 0), .int a1, .int a2] (FL_of a1 a2) := by
  refine oz_ofIX (wn := RL) (bytes := cL_of) (maxL := 4) (ret := (some .int)) (hh := [(0, 202, 203, 37)]) (T := TX0) (N := 19) (by decide) rfl rfl oz_CX0 hst (Nat.le_of_ble_eq_true rfl) ?_
  intro p e s m below meth c st A res G hr X
  have tl1 : Cond.classLink RL 37 (oz_exn 1) ∈ wsL_of := by decide +kernel
  show G 0 0 [(0, .ref (ad 0)), (1, .int a1), (2, .int a2)] [] st (FL_of a1 a2 st)
  unfold FL_of
  refine oz_iload_n X dL_of_0 rfl 1 rfl ?_
  refine oz_if_ne X (tgt := 12) dL_of_1 (by decide) (fun q1 => ?_) (fun q1 => ?_)
  · refine oz_iload_n X dL_of_12 rfl 1 rfl ?_
    refine oz_iconst X (v := 1) dL_of_13 (by decide) ?_
    refine oz_icmp_ne X (tgt := 25) dL_of_14 (by decide) (fun q2 => ?_) (fun q2 => ?_)
    · refine oz_iload_n X dL_of_25 rfl 1 rfl ?_
      refine oz_iconst X (v := 2) dL_of_26 (by decide) ?_
      refine oz_icmp_ne X (tgt := 38) dL_of_27 (by decide) (fun q3 => ?_) (fun q3 => ?_)
      · refine oz_iload_n X dL_of_38 rfl 1 rfl ?_
        refine oz_iconst X (v := 3) dL_of_39 (by decide) ?_
        refine oz_icmp_ne X (tgt := 51) dL_of_40 (by decide) (fun q4 => ?_) (fun q4 => ?_)
        · refine oz_iload_n X dL_of_51 rfl 1 rfl ?_
          refine oz_iconst X (v := 4) dL_of_52 (by decide) ?_
          refine oz_icmp_ne X (tgt := 64) dL_of_53 (by decide) (fun q5 => ?_) (fun q5 => ?_)
          · refine oz_iload_n X dL_of_64 rfl 1 rfl ?_
            refine oz_iconst X (v := 5) dL_of_65 (by decide) ?_
            refine oz_icmp_ne X (tgt := 77) dL_of_66 (by decide) (fun q6 => ?_) (fun q6 => ?_)
            · refine oz_iload_n X dL_of_77 rfl 1 rfl ?_
              refine oz_bipush X (v := 6) dL_of_78 (by decide) ?_
              refine oz_icmp_ne X (tgt := 91) dL_of_80 (by decide) (fun q7 => ?_) (fun q7 => ?_)
              · refine oz_iload_n X dL_of_91 rfl 1 rfl ?_
                refine oz_bipush X (v := 7) dL_of_92 (by decide) ?_
                refine oz_icmp_ne X (tgt := 105) dL_of_94 (by decide) (fun q8 => ?_) (fun q8 => ?_)
                · refine oz_iload_n X dL_of_105 rfl 1 rfl ?_
                  refine oz_bipush X (v := 8) dL_of_106 (by decide) ?_
                  refine oz_icmp_ne X (tgt := 119) dL_of_108 (by decide) (fun q9 => ?_) (fun q9 => ?_)
                  · refine oz_iload_n X dL_of_119 rfl 1 rfl ?_
                    refine oz_bipush X (v := 9) dL_of_120 (by decide) ?_
                    refine oz_icmp_ne X (tgt := 133) dL_of_122 (by decide) (fun q10 => ?_) (fun q10 => ?_)
                    · refine oz_iload_n X dL_of_133 rfl 1 rfl ?_
                      refine oz_bipush X (v := 10) dL_of_134 (by decide) ?_
                      refine oz_icmp_ne X (tgt := 147) dL_of_136 (by decide) (fun q11 => ?_) (fun q11 => ?_)
                      · refine oz_iload_n X dL_of_147 rfl 1 rfl ?_
                        refine oz_bipush X (v := 11) dL_of_148 (by decide) ?_
                        refine oz_icmp_ne X (tgt := 169) dL_of_150 (by decide) (fun q12 => ?_) (fun q12 => ?_)
                        · refine oz_iload_n X dL_of_169 rfl 1 rfl ?_
                          refine oz_bipush X (v := 12) dL_of_170 (by decide) ?_
                          refine oz_icmp_ne X (tgt := 183) dL_of_172 (by decide) (fun q13 => ?_) (fun q13 => ?_)
                          · refine oz_iload_n X dL_of_183 rfl 1 rfl ?_
                            refine oz_bipush X (v := 13) dL_of_184 (by decide) ?_
                            refine oz_icmp_ne X (tgt := 197) dL_of_186 (by decide) (fun q14 => ?_) (fun q14 => ?_)
                            · refine oz_aload_n X dL_of_197 rfl 0 rfl ?_
                              refine oz_iload_n X dL_of_198 rfl 2 rfl ?_
                              exact oz_callO X rfl (As := [.int a2]) (mX0_requestAt l hst D cI cZ ad a2) gL_of_X0_requestAt rfl rfl rfl hX0_requestAt ⟨by decide, by decide⟩ hr rfl rfl dL_of_199 (by omega) (by decide) (by decide) (by decide) (by decide) tl1 dL_of_203 dL_of_204 dL_of_207
                            · refine oz_aload_n X dL_of_189 rfl 0 rfl ?_
                              refine oz_iload_n X dL_of_190 rfl 2 rfl ?_
                              exact oz_callO X rfl (As := [.int a2]) (mX0_interest l hst D cI cZ ad a2) gL_of_X0_interest rfl rfl rfl hX0_interest ⟨by decide, by decide⟩ hr rfl rfl dL_of_191 (by omega) (by decide) (by decide) (by decide) (by decide) tl1 dL_of_203 dL_of_204 dL_of_207
                          · refine oz_aload_n X dL_of_175 rfl 0 rfl ?_
                            refine oz_iload_n X dL_of_176 rfl 2 rfl ?_
                            exact oz_callO X rfl (As := [.int a2]) (mX0_partiesOf l hst D cI cZ ad a2) gL_of_X0_partiesOf rfl rfl rfl hX0_partiesOf ⟨by decide, by decide⟩ hr rfl rfl dL_of_177 (by omega) (by decide) (by decide) (by decide) (by decide) tl1 dL_of_203 dL_of_204 dL_of_207
                        · refine oz_aload_n X dL_of_153 rfl 0 rfl ?_
                          refine oz_iload_n X dL_of_154 rfl 2 rfl ?_
                          exact oz_callO X rfl (As := [.int a2]) (mX0_lasts l hst D cI cZ ad a2) gL_of_X0_lasts rfl rfl rfl hX0_lasts ⟨by decide, by decide⟩ hr rfl rfl dL_of_155 (by omega) (by decide) (by decide) (by decide) (by decide) tl1 dL_of_203 dL_of_204 dL_of_207
                      · refine oz_aload_n X dL_of_139 rfl 0 rfl ?_
                        refine oz_iload_n X dL_of_140 rfl 2 rfl ?_
                        exact oz_callO X rfl (As := [.int a2]) (mX0_faults l hst D cI cZ ad a2) gL_of_X0_faults rfl rfl rfl hX0_faults ⟨by decide, by decide⟩ hr rfl rfl dL_of_141 (by omega) (by decide) (by decide) (by decide) (by decide) tl1 dL_of_203 dL_of_204 dL_of_207
                    · refine oz_aload_n X dL_of_125 rfl 0 rfl ?_
                      refine oz_iload_n X dL_of_126 rfl 2 rfl ?_
                      exact oz_callO X rfl (As := [.int a2]) (mX0_purse l hst D cI cZ ad a2) gL_of_X0_purse rfl rfl rfl hX0_purse ⟨by decide, by decide⟩ hr rfl rfl dL_of_127 (by omega) (by decide) (by decide) (by decide) (by decide) tl1 dL_of_203 dL_of_204 dL_of_207
                  · refine oz_aload_n X dL_of_111 rfl 0 rfl ?_
                    refine oz_iload_n X dL_of_112 rfl 2 rfl ?_
                    exact oz_callO X rfl (As := [.int a2]) (mX0_stateOf l hst D cI cZ ad a2) gL_of_X0_stateOf rfl rfl rfl hX0_stateOf ⟨by decide, by decide⟩ hr rfl rfl dL_of_113 (by omega) (by decide) (by decide) (by decide) (by decide) tl1 dL_of_203 dL_of_204 dL_of_207
                · refine oz_aload_n X dL_of_97 rfl 0 rfl ?_
                  refine oz_iload_n X dL_of_98 rfl 2 rfl ?_
                  exact oz_callO X rfl (As := [.int a2]) (mX0_lent l hst D cI cZ ad a2) gL_of_X0_lent rfl rfl rfl hX0_lent ⟨by decide, by decide⟩ hr rfl rfl dL_of_99 (by omega) (by decide) (by decide) (by decide) (by decide) tl1 dL_of_203 dL_of_204 dL_of_207
              · refine oz_aload_n X dL_of_83 rfl 0 rfl ?_
                refine oz_iload_n X dL_of_84 rfl 2 rfl ?_
                exact oz_callO X rfl (As := [.int a2]) (mX0_borrowed l hst D cI cZ ad a2) gL_of_X0_borrowed rfl rfl rfl hX0_borrowed ⟨by decide, by decide⟩ hr rfl rfl dL_of_85 (by omega) (by decide) (by decide) (by decide) (by decide) tl1 dL_of_203 dL_of_204 dL_of_207
            · refine oz_aload_n X dL_of_69 rfl 0 rfl ?_
              refine oz_iload_n X dL_of_70 rfl 2 rfl ?_
              exact oz_callO X rfl (As := [.int a2]) (mX0_owns l hst D cI cZ ad a2) gL_of_X0_owns rfl rfl rfl hX0_owns ⟨by decide, by decide⟩ hr rfl rfl dL_of_71 (by omega) (by decide) (by decide) (by decide) (by decide) tl1 dL_of_203 dL_of_204 dL_of_207
          · refine oz_aload_n X dL_of_56 rfl 0 rfl ?_
            refine oz_iload_n X dL_of_57 rfl 2 rfl ?_
            exact oz_callO X rfl (As := [.int a2]) (mX0_age l hst D cI cZ ad a2) gL_of_X0_age rfl rfl rfl hX0_age ⟨by decide, by decide⟩ hr rfl rfl dL_of_58 (by omega) (by decide) (by decide) (by decide) (by decide) tl1 dL_of_203 dL_of_204 dL_of_207
        · refine oz_aload_n X dL_of_43 rfl 0 rfl ?_
          refine oz_iload_n X dL_of_44 rfl 2 rfl ?_
          exact oz_callO X rfl (As := [.int a2]) (mX0_pageIn l hst D cI cZ ad a2) gL_of_X0_pageIn rfl rfl rfl hX0_pageIn ⟨by decide, by decide⟩ hr rfl rfl dL_of_45 (by omega) (by decide) (by decide) (by decide) (by decide) tl1 dL_of_203 dL_of_204 dL_of_207
      · refine oz_aload_n X dL_of_30 rfl 0 rfl ?_
        refine oz_iload_n X dL_of_31 rfl 2 rfl ?_
        exact oz_callO X rfl (As := [.int a2]) (mX0_holderByLog l hst D cI cZ ad a2) gL_of_X0_holderByLog rfl rfl rfl hX0_holderByLog ⟨by decide, by decide⟩ hr rfl rfl dL_of_32 (by omega) (by decide) (by decide) (by decide) (by decide) tl1 dL_of_203 dL_of_204 dL_of_207
    · refine oz_aload_n X dL_of_17 rfl 0 rfl ?_
      refine oz_iload_n X dL_of_18 rfl 2 rfl ?_
      exact oz_callO X rfl (As := [.int a2]) (mX0_holder l hst D cI cZ ad a2) gL_of_X0_holder rfl rfl rfl hX0_holder ⟨by decide, by decide⟩ hr rfl rfl dL_of_19 (by omega) (by decide) (by decide) (by decide) (by decide) tl1 dL_of_203 dL_of_204 dL_of_207
  · refine oz_aload_n X dL_of_4 rfl 0 rfl ?_
    refine oz_iload_n X dL_of_5 rfl 2 rfl ?_
    exact oz_callO X rfl (As := [.int a2]) (mX0_owner l hst D cI cZ ad a2) gL_of_X0_owner rfl rfl rfl hX0_owner ⟨by decide, by decide⟩ hr rfl rfl dL_of_6 (by omega) (by decide) (by decide) (by decide) (by decide) tl1 dL_of_203 dL_of_204 dL_of_207
end
section
/-! AlmsKernelLaw.isRefused -/
def FL_isRefused_w511 : Nat → Int64 → Int32 → Int32 → Int32 → Option RC
  | 0, _, _, _, _ => none
  | n + 1, x6, x8, x9, st => (if 5 ≤ x9 then bnd (FX0_loansN st) (fun r3 s3 => (if r3 ≤ 0 then (if x8 = 0 then none else bndL (FL_all s3) (fun r6 s6 => (if lg_cmp r6 x6 = 0 then some (0, 1, s6) else none))) else none)) else (if x8 = 0 then none else bnd (FX0_stateOfN x9 st) (fun r9 s9 => (if r9 = 2 then none else bnd (FX0_purseN x9 s9) (fun r11 s11 => (if r11 < 8 then none else bnd (FX0_freeN s11) (fun r13 s13 => (if r13 ≤ 0 then none else (if (1 : Int32) = 0 then none else bnd (FX0_stateOfN x9 s13) (fun r16 s16 => (if r16 = 0 then (FL_isRefused_w511 n x6 1 (x9 + 1) s16) else none)))))))))))
def FL_isRefused_w387 : Nat → Int64 → Int32 → Int32 → Int32 → Option RC
  | 0, _, _, _, _ => none
  | n + 1, x6, x8, x9, st => (if 12 ≤ x9 then (FL_isRefused_w511 62 x6 x8 0 st) else (if x8 = 0 then none else bnd (FX0_ownerN x9 st) (fun r21 s21 => (if r21 < 0 then (if (0 : Int32) = 0 then bnd (FL_act 3 x9 0 s21) (fun r24 s24 => (if r24 = (-1213) then bnd (FX0_ageN x9 s24) (fun r26 s26 => (if 0 ≤ r26 then none else bnd (FL_act 4 x9 0 s26) (fun r28 s28 => (if r28 = (-1213) then (FL_isRefused_w387 n x6 1 (x9 + 1) s28) else none)))) else none)) else none) else none))))
def FL_isRefused_w323 : Nat → Int32 → Int32 → Int32 → Int64 → Int32 → Int32 → Int32 → Option RC
  | 0, _, _, _, _, _, _, _ => none
  | n + 1, x3, x4, x5, x6, x8, x9, st => (if 14 ≤ x9 then (FL_isRefused_w387 13 x6 x8 0 st) else (if x8 = 0 then none else (if 5 ≤ x9 then (if 11 ≤ x9 then bnd (FL_of x9 x5 st) (fun r35 s35 => (if r35 = (-1211) then (FL_isRefused_w323 n x3 x4 x5 x6 1 (x9 + 1) s35) else none)) else bnd (FL_of x9 x3 st) (fun r37 s37 => (if r37 = (-1211) then (FL_isRefused_w323 n x3 x4 x5 x6 1 (x9 + 1) s37) else none))) else bnd (FL_of x9 x4 st) (fun r39 s39 => (if r39 = (-1211) then (FL_isRefused_w323 n x3 x4 x5 x6 1 (x9 + 1) s39) else none)))))
def FL_isRefused_j285 (x1 : Int32) (x3 : Int32) (x4 : Int32) (x5 : Int32) (x6 : Int64) (y0 : Int32) (y1 : Int32) (st : Int32) : Option RC := bnd (FL_act y1 y0 0 st) (fun r42 s42 => (if r42 = (-1212) then bnd (FL_of 14 ((-1) - (x1 - x1 / 30 * 30)) s42) (fun r44 s44 => (if r44 = (-1211) then (FL_isRefused_w323 15 x3 x4 x5 x6 1 0 s44) else none)) else none))
def FL_isRefused_j237 (x1 : Int32) (x2 : Int32) (x3 : Int32) (x4 : Int32) (x5 : Int32) (x6 : Int64) (y0 : Int32) (y1 : Int32) (y2 : Int32) (st : Int32) : Option RC := bnd (FL_act y2 y1 y0 st) (fun r47 s47 => (if r47 = (-1211) then bnd (FL_act 6 x5 0 s47) (fun r49 s49 => (if r49 = (-1211) then (if x2 = 0 then (FL_isRefused_j285 x1 x3 x4 x5 x6 (201 + (x1 - x1 / 30 * 30)) 7 s49) else (FL_isRefused_j285 x1 x3 x4 x5 x6 (0 - (x1 - x1 / 30 * 30)) 7 s49)) else none)) else none))
def FL_isRefused_j148 (x1 : Int32) (x2 : Int32) (x3 : Int32) (x4 : Int32) (x5 : Int32) (x6 : Int64) (y0 : Int32) (y1 : Int32) (st : Int32) : Option RC := bnd (FL_act y1 y0 0 st) (fun r53 s53 => (if r53 = (-1212) then bnd (FL_act 2 x3 0 s53) (fun r55 s55 => (if r55 = (-1211) then bnd (FL_act 3 x4 0 s55) (fun r57 s57 => (if r57 = (-1211) then bnd (FL_act 4 x4 0 s57) (fun r59 s59 => (if r59 = (-1211) then bnd (FL_act 5 x3 0 s59) (fun r61 s61 => (if r61 = (-1211) then (if x2 = 0 then (FL_isRefused_j237 x1 x2 x3 x4 x5 x6 (8 + (x1 - x1 / 30 * 30)) (x1 - x1 / 5 * 5) 5 s61) else (FL_isRefused_j237 x1 x2 x3 x4 x5 x6 ((-1) - (x1 - x1 / 30 * 30)) (x1 - x1 / 5 * 5) 5 s61)) else none)) else none)) else none)) else none)) else none))
def FL_isRefused_j117 (x1 : Int32) (x2 : Int32) (x3 : Int32) (x4 : Int32) (x5 : Int32) (x6 : Int64) (y0 : Int32) (y1 : Int32) (y2 : Int32) (st : Int32) : Option RC := bnd (FL_act y2 y1 y0 st) (fun r65 s65 => (if r65 = (-1212) then (if x2 = 0 then (FL_isRefused_j148 x1 x2 x3 x4 x5 x6 (10 + (x1 - x1 / 30 * 30)) 1 s65) else (FL_isRefused_j148 x1 x2 x3 x4 x5 x6 ((-1) - (x1 - x1 / 30 * 30)) 1 s65)) else none))
def FL_isRefused_j76 (x1 : Int32) (x2 : Int32) (x3 : Int32) (x4 : Int32) (y0 : Int32) (st : Int32) : Option RC := bndL (FL_all st) (fun r69 s69 => bnd (FL_act 0 x3 (-1) s69) (fun r70 s70 => (if r70 = (-1211) then (if x2 = 0 then (FL_isRefused_j117 x1 x2 x3 x4 y0 r69 10 (x1 - x1 / 5 * 5) 0 s70) else (FL_isRefused_j117 x1 x2 x3 x4 y0 r69 ((-1) - (x1 - x1 / 30 * 30)) (x1 - x1 / 5 * 5) 0 s70)) else none)))
def FL_isRefused_j52 (x1 : Int32) (x2 : Int32) (x3 : Int32) (y0 : Int32) (st : Int32) : Option RC := (if x2 = 0 then bnd (FX0_loansN st) (fun r75 s75 => (FL_isRefused_j76 x1 x2 x3 y0 (r75 + (x1 - x1 / 30 * 30)) s75)) else (FL_isRefused_j76 x1 x2 x3 y0 ((-1) - (x1 - x1 / 30 * 30)) st))
def FL_isRefused_j31 (x1 : Int32) (x2 : Int32) (y0 : Int32) (st : Int32) : Option RC := (if x2 = 0 then (FL_isRefused_j52 x1 x2 y0 (12 + (x1 - x1 / 30 * 30)) st) else (FL_isRefused_j52 x1 x2 y0 ((-1) - (x1 - x1 / 30 * 30)) st))
def FL_isRefused_j11 (x1 : Int32) (y0 : Int32) (st : Int32) : Option RC := (if y0 = 0 then (FL_isRefused_j31 x1 y0 (5 + (x1 - x1 / 30 * 30)) st) else (FL_isRefused_j31 x1 y0 ((-1) - (x1 - x1 / 30 * 30)) st))
def FL_isRefused (a1 : Int32) (st : Int32) : Option RC := (if (a1 - a1 / 2 * 2) = 0 then (FL_isRefused_j11 a1 1 st) else (FL_isRefused_j11 a1 0 st))
def rmL_isRefused : Room := { frames := 8, cells := 52, slots := 312, locals := 134 }
theorem hL_isRefused : yL_isRefused.cls ≠ "java/lang/invoke/MethodHandle" ∧ yL_isRefused.cls ≠ "java/lang/invoke/VarHandle" ∧ (parseMethodDescriptor yL_isRefused.desc).map (fun d => d.parameters.length) = some 2 := by decide +kernel
set_option maxHeartbeats 4000000 in
set_option maxRecDepth 100000 in
theorem mL_isRefused (l : Launch) (hst : l.stackTraces = false) (D : va_G) (cI cZ : ClassId) (ad : Nat → Nat) (a1 : Int32) : oz_MI l yL_isRefused wsL_isRefused rmL_isRefused D cI cZ RX0 0 oz_KSX0 ad oz_lyX0 52 [.ref (ad 0), .int a1] (FL_isRefused a1) := by
  refine oz_ofI (wn := RL) (bytes := cL_isRefused) (maxL := 12) (ret := (some .boolean)) (T := TX0) (N := 19) (by decide) rfl rfl oz_CX0 hst (Nat.le_of_ble_eq_true rfl) ?_
  intro p e s m below meth c st A res G hr X
  have hc511 : ∀ (n k : Nat), k ≤ 52 → ∀ (x6 : Int64) (x8 : Int32) (x9 : Int32) (st : Int32), G k 511 [(0, .ref (ad 0)), (6, .long x6), (8, .int x8), (9, .int x9)] [] st (FL_isRefused_w511 n x6 x8 x9 st) := by
    intro n
    induction n with
    | zero => intros; exact oz_none X
    | succ n ih =>
      intro k hk x6 x8 x9 st
      rw [FL_isRefused_w511]
      refine oz_iload X dL_isRefused_511 3 rfl ?_
      refine oz_iconst X (v := 5) dL_isRefused_513 (by decide) ?_
      refine oz_icmp_ge X (tgt := 617) dL_isRefused_514 (by decide) (fun q2 => ?_) (fun q2 => ?_)
      · refine oz_iconst X (v := 0) dL_isRefused_617 (by decide) ?_
        refine oz_istore X (L2 := [(9, .int 0), (0, .ref (ad 0)), (6, .long x6), (8, .int x8)]) dL_isRefused_618 (by decide) rfl ?_
        refine oz_iload X dL_isRefused_620 0 rfl ?_
        refine oz_aload_n X dL_isRefused_622 rfl 1 rfl ?_
        refine oz_callV X rfl (As := []) (S := [.int 0]) (mX0_loansN l hst D cI cZ ad) gL_isRefused_X0_loans rfl rfl rfl hX0_loansN ⟨by decide, by decide⟩ rfl rfl (Nat.le_of_ble_eq_true rfl) dL_isRefused_623 (by omega) (by decide) (by decide) (fun r3 s3 => ?_)
        refine oz_icmp_ge X (tgt := 712) dL_isRefused_626 (by decide) (fun q4 => ?_) (fun q4 => ?_)
        · refine oz_iload X dL_isRefused_712 3 rfl ?_
          refine oz_if_eq X (tgt := 731) dL_isRefused_714 (by decide) (fun q5 => ?_) (fun q5 => ?_)
          · exact oz_none X
          · refine oz_aload_n X dL_isRefused_717 rfl 1 rfl ?_
            refine oz_callSL X rfl (As := [.ref (ad 0)]) (S := []) (mL_all l hst D cI cZ ad) gL_isRefused_L_all rfl rfl rfl hL_all ⟨by decide, by decide⟩ rfl rfl (Nat.le_of_ble_eq_true rfl) dL_isRefused_718 (by omega) (by decide) (by decide) (fun r6 s6 => ?_)
            refine oz_lload X dL_isRefused_721 2 rfl ?_
            refine oz_lcmp X dL_isRefused_723 ?_
            refine oz_if_ne X (tgt := 731) dL_isRefused_724 (by decide) (fun q7 => ?_) (fun q7 => ?_)
            · exact oz_none X
            · refine oz_iconst X (v := 1) dL_isRefused_727 (by decide) ?_
              refine oz_goto X (tgt := 732) dL_isRefused_728 (by decide) ?_
              exact oz_zret X rfl hr rfl (by omega) dL_isRefused_732
        · exact oz_none X
      · refine oz_iload X dL_isRefused_517 2 rfl ?_
        refine oz_if_eq X (tgt := 617) dL_isRefused_519 (by decide) (fun q8 => ?_) (fun q8 => ?_)
        · exact oz_none X
        · refine oz_aload_n X dL_isRefused_522 rfl 0 rfl ?_
          refine oz_iload X dL_isRefused_523 3 rfl ?_
          refine oz_callV X rfl (As := [.int x9]) (S := []) (mX0_stateOfN l hst D cI cZ ad x9) gL_isRefused_X0_stateOf rfl rfl rfl hX0_stateOfN ⟨by decide, by decide⟩ rfl rfl (Nat.le_of_ble_eq_true rfl) dL_isRefused_525 (by omega) (by decide) (by decide) (fun r9 s9 => ?_)
          refine oz_iconst X (v := 2) dL_isRefused_528 (by decide) ?_
          refine oz_icmp_eq X (tgt := 554) dL_isRefused_529 (by decide) (fun q10 => ?_) (fun q10 => ?_)
          · exact oz_none X
          · refine oz_aload_n X dL_isRefused_532 rfl 0 rfl ?_
            refine oz_iload X dL_isRefused_533 3 rfl ?_
            refine oz_callV X rfl (As := [.int x9]) (S := []) (mX0_purseN l hst D cI cZ ad x9) gL_isRefused_X0_purse rfl rfl rfl hX0_purseN ⟨by decide, by decide⟩ rfl rfl (Nat.le_of_ble_eq_true rfl) dL_isRefused_535 (by omega) (by decide) (by decide) (fun r11 s11 => ?_)
            refine oz_bipush X (v := 8) dL_isRefused_538 (by decide) ?_
            refine oz_icmp_lt X (tgt := 554) dL_isRefused_540 (by decide) (fun q12 => ?_) (fun q12 => ?_)
            · exact oz_none X
            · refine oz_aload_n X dL_isRefused_543 rfl 0 rfl ?_
              refine oz_callV X rfl (As := []) (S := []) (mX0_freeN l hst D cI cZ ad) gL_isRefused_X0_free rfl rfl rfl hX0_freeN ⟨by decide, by decide⟩ rfl rfl (Nat.le_of_ble_eq_true rfl) dL_isRefused_544 (by omega) (by decide) (by decide) (fun r13 s13 => ?_)
              refine oz_if_le X (tgt := 554) dL_isRefused_547 (by decide) (fun q14 => ?_) (fun q14 => ?_)
              · exact oz_none X
              · refine oz_iconst X (v := 1) dL_isRefused_550 (by decide) ?_
                refine oz_goto X (tgt := 555) dL_isRefused_551 (by decide) ?_
                refine oz_istore X (L2 := [(10, .int 1), (0, .ref (ad 0)), (6, .long x6), (8, .int x8), (9, .int x9)]) dL_isRefused_555 (by decide) rfl ?_
                refine oz_iload X dL_isRefused_557 0 rfl ?_
                refine oz_if_ne X (tgt := 576) dL_isRefused_559 (by decide) (fun q15 => ?_) (fun q15 => ?_)
                · refine oz_aload_n X dL_isRefused_576 rfl 1 rfl ?_
                  refine oz_iload X dL_isRefused_577 4 rfl ?_
                  refine oz_callV X rfl (As := [.int x9]) (S := []) (mX0_stateOfN l hst D cI cZ ad x9) gL_isRefused_X0_stateOf rfl rfl rfl hX0_stateOfN ⟨by decide, by decide⟩ rfl rfl (Nat.le_of_ble_eq_true rfl) dL_isRefused_579 (by omega) (by decide) (by decide) (fun r16 s16 => ?_)
                  refine oz_if_eq X (tgt := 604) dL_isRefused_582 (by decide) (fun q17 => ?_) (fun q17 => ?_)
                  · refine oz_iconst X (v := 1) dL_isRefused_604 (by decide) ?_
                    refine oz_goto X (tgt := 609) dL_isRefused_605 (by decide) ?_
                    refine oz_istore X (L2 := [(8, .int 1), (10, .int 1), (0, .ref (ad 0)), (6, .long x6), (9, .int x9)]) dL_isRefused_609 (by decide) rfl ?_
                    refine oz_iinc X (q := 4) (v := x9 + 1) (L2 := [(9, .int (x9 + 1)), (8, .int 1), (10, .int 1), (0, .ref (ad 0)), (6, .long x6)]) dL_isRefused_611 rfl rfl (by decide) rfl ?_
                    refine oz_goto X (tgt := 511) dL_isRefused_614 (by decide) ?_
                    exact oz_sub X [3, 4, 1, 0] (L2 := [(0, .ref (ad 0)), (6, .long x6), (8, .int 1), (9, .int (x9 + 1))]) rfl (ih _ (by omega) x6 1 (x9 + 1) s16)
                  · exact oz_none X
                · exact oz_none X
  have hc387 : ∀ (n k : Nat), k + 2 * n ≤ 52 → ∀ (x6 : Int64) (x8 : Int32) (x9 : Int32) (st : Int32), G k 387 [(0, .ref (ad 0)), (6, .long x6), (8, .int x8), (9, .int x9)] [] st (FL_isRefused_w387 n x6 x8 x9 st) := by
    intro n
    induction n with
    | zero => intros; exact oz_none X
    | succ n ih =>
      intro k hk x6 x8 x9 st
      rw [FL_isRefused_w387]
      refine oz_iload X dL_isRefused_387 3 rfl ?_
      refine oz_bipush X (v := 12) dL_isRefused_389 (by decide) ?_
      refine oz_icmp_ge X (tgt := 508) dL_isRefused_391 (by decide) (fun q19 => ?_) (fun q19 => ?_)
      · refine oz_iconst X (v := 0) dL_isRefused_508 (by decide) ?_
        refine oz_istore X (L2 := [(9, .int 0), (0, .ref (ad 0)), (6, .long x6), (8, .int x8)]) dL_isRefused_509 (by decide) rfl ?_
        exact oz_sub X [1, 2, 3, 0] (L2 := [(0, .ref (ad 0)), (6, .long x6), (8, .int x8), (9, .int 0)]) rfl (hc511 62 _ (by omega) x6 x8 0 st)
      · refine oz_iload X dL_isRefused_394 2 rfl ?_
        refine oz_if_eq X (tgt := 508) dL_isRefused_396 (by decide) (fun q20 => ?_) (fun q20 => ?_)
        · exact oz_none X
        · refine oz_aload_n X dL_isRefused_399 rfl 0 rfl ?_
          refine oz_iload X dL_isRefused_400 3 rfl ?_
          refine oz_callV X rfl (As := [.int x9]) (S := []) (mX0_ownerN l hst D cI cZ ad x9) gL_isRefused_X0_owner rfl rfl rfl hX0_ownerN ⟨by decide, by decide⟩ rfl rfl (Nat.le_of_ble_eq_true rfl) dL_isRefused_402 (by omega) (by decide) (by decide) (fun r21 s21 => ?_)
          refine oz_if_lt X (tgt := 450) dL_isRefused_405 (by decide) (fun q22 => ?_) (fun q22 => ?_)
          · refine oz_iconst X (v := 0) dL_isRefused_450 (by decide) ?_
            refine oz_istore X (L2 := [(10, .int 0), (0, .ref (ad 0)), (6, .long x6), (8, .int x8), (9, .int x9)]) dL_isRefused_451 (by decide) rfl ?_
            refine oz_iload X dL_isRefused_453 0 rfl ?_
            refine oz_if_ne X (tgt := 472) dL_isRefused_455 (by decide) (fun q23 => ?_) (fun q23 => ?_)
            · exact oz_none X
            · refine oz_aload_n X dL_isRefused_458 rfl 1 rfl ?_
              refine oz_iconst X (v := 3) dL_isRefused_459 (by decide) ?_
              refine oz_iload X dL_isRefused_460 4 rfl ?_
              refine oz_iconst X (v := 0) dL_isRefused_462 (by decide) ?_
              refine oz_callSX X rfl (As := [.ref (ad 0), .int 3, .int x9, .int 0]) (S := []) (mL_act l hst D cI cZ ad 3 x9 0) gL_isRefused_L_act rfl rfl rfl hL_act ⟨by decide, by decide⟩ rfl rfl (Nat.le_of_ble_eq_true rfl) dL_isRefused_463 (by omega) (by decide) (by decide) (fun r24 s24 => ?_)
              refine oz_sipush X (v := (-1213)) dL_isRefused_466 (by decide) ?_
              refine oz_icmp_ne X (tgt := 499) dL_isRefused_469 (by decide) (fun q25 => ?_) (fun q25 => ?_)
              · exact oz_none X
              · refine oz_aload_n X dL_isRefused_472 rfl 1 rfl ?_
                refine oz_iload X dL_isRefused_473 4 rfl ?_
                refine oz_callV X rfl (As := [.int x9]) (S := []) (mX0_ageN l hst D cI cZ ad x9) gL_isRefused_X0_age rfl rfl rfl hX0_ageN ⟨by decide, by decide⟩ rfl rfl (Nat.le_of_ble_eq_true rfl) dL_isRefused_475 (by omega) (by decide) (by decide) (fun r26 s26 => ?_)
                refine oz_if_ge X (tgt := 495) dL_isRefused_478 (by decide) (fun q27 => ?_) (fun q27 => ?_)
                · exact oz_none X
                · refine oz_aload_n X dL_isRefused_481 rfl 1 rfl ?_
                  refine oz_iconst X (v := 4) dL_isRefused_482 (by decide) ?_
                  refine oz_iload X dL_isRefused_483 4 rfl ?_
                  refine oz_iconst X (v := 0) dL_isRefused_485 (by decide) ?_
                  refine oz_callSX X rfl (As := [.ref (ad 0), .int 4, .int x9, .int 0]) (S := []) (mL_act l hst D cI cZ ad 4 x9 0) gL_isRefused_L_act rfl rfl rfl hL_act ⟨by decide, by decide⟩ rfl rfl (Nat.le_of_ble_eq_true rfl) dL_isRefused_486 (by omega) (by decide) (by decide) (fun r28 s28 => ?_)
                  refine oz_sipush X (v := (-1213)) dL_isRefused_489 (by decide) ?_
                  refine oz_icmp_ne X (tgt := 499) dL_isRefused_492 (by decide) (fun q29 => ?_) (fun q29 => ?_)
                  · exact oz_none X
                  · refine oz_iconst X (v := 1) dL_isRefused_495 (by decide) ?_
                    refine oz_goto X (tgt := 500) dL_isRefused_496 (by decide) ?_
                    refine oz_istore X (L2 := [(8, .int 1), (10, .int 0), (0, .ref (ad 0)), (6, .long x6), (9, .int x9)]) dL_isRefused_500 (by decide) rfl ?_
                    refine oz_iinc X (q := 4) (v := x9 + 1) (L2 := [(9, .int (x9 + 1)), (8, .int 1), (10, .int 0), (0, .ref (ad 0)), (6, .long x6)]) dL_isRefused_502 rfl rfl (by decide) rfl ?_
                    refine oz_goto X (tgt := 387) dL_isRefused_505 (by decide) ?_
                    exact oz_sub X [3, 4, 1, 0] (L2 := [(0, .ref (ad 0)), (6, .long x6), (8, .int 1), (9, .int (x9 + 1))]) rfl (ih _ (by omega) x6 1 (x9 + 1) s28)
          · exact oz_none X
  have hc323 : ∀ (n k : Nat), k + 1 * n ≤ 26 → ∀ (x3 : Int32) (x4 : Int32) (x5 : Int32) (x6 : Int64) (x8 : Int32) (x9 : Int32) (st : Int32), G k 323 [(0, .ref (ad 0)), (3, .int x3), (4, .int x4), (5, .int x5), (6, .long x6), (8, .int x8), (9, .int x9)] [] st (FL_isRefused_w323 n x3 x4 x5 x6 x8 x9 st) := by
    intro n
    induction n with
    | zero => intros; exact oz_none X
    | succ n ih =>
      intro k hk x3 x4 x5 x6 x8 x9 st
      rw [FL_isRefused_w323]
      refine oz_iload X dL_isRefused_323 6 rfl ?_
      refine oz_bipush X (v := 14) dL_isRefused_325 (by decide) ?_
      refine oz_icmp_ge X (tgt := 384) dL_isRefused_327 (by decide) (fun q31 => ?_) (fun q31 => ?_)
      · refine oz_iconst X (v := 0) dL_isRefused_384 (by decide) ?_
        refine oz_istore X (L2 := [(9, .int 0), (0, .ref (ad 0)), (3, .int x3), (4, .int x4), (5, .int x5), (6, .long x6), (8, .int x8)]) dL_isRefused_385 (by decide) rfl ?_
        exact oz_sub X [1, 5, 6, 0] (L2 := [(0, .ref (ad 0)), (6, .long x6), (8, .int x8), (9, .int 0)]) rfl (hc387 13 _ (by omega) x6 x8 0 st)
      · refine oz_iload X dL_isRefused_330 5 rfl ?_
        refine oz_if_eq X (tgt := 384) dL_isRefused_332 (by decide) (fun q32 => ?_) (fun q32 => ?_)
        · exact oz_none X
        · refine oz_aload_n X dL_isRefused_335 rfl 0 rfl ?_
          refine oz_iload X dL_isRefused_336 6 rfl ?_
          refine oz_iload X dL_isRefused_338 6 rfl ?_
          refine oz_iconst X (v := 5) dL_isRefused_340 (by decide) ?_
          refine oz_icmp_ge X (tgt := 349) dL_isRefused_341 (by decide) (fun q33 => ?_) (fun q33 => ?_)
          · refine oz_iload X dL_isRefused_349 6 rfl ?_
            refine oz_bipush X (v := 11) dL_isRefused_351 (by decide) ?_
            refine oz_icmp_ge X (tgt := 360) dL_isRefused_353 (by decide) (fun q34 => ?_) (fun q34 => ?_)
            · refine oz_iload X dL_isRefused_360 3 rfl ?_
              refine oz_callSX X rfl (As := [.ref (ad 0), .int x9, .int x5]) (S := []) (mL_of l hst D cI cZ ad x9 x5) gL_isRefused_L_of rfl rfl rfl hL_of ⟨by decide, by decide⟩ rfl rfl (Nat.le_of_ble_eq_true rfl) dL_isRefused_362 (by omega) (by decide) (by decide) (fun r35 s35 => ?_)
              refine oz_sipush X (v := (-1211)) dL_isRefused_365 (by decide) ?_
              refine oz_icmp_ne X (tgt := 375) dL_isRefused_368 (by decide) (fun q36 => ?_) (fun q36 => ?_)
              · exact oz_none X
              · refine oz_iconst X (v := 1) dL_isRefused_371 (by decide) ?_
                refine oz_goto X (tgt := 376) dL_isRefused_372 (by decide) ?_
                refine oz_istore X (L2 := [(8, .int 1), (0, .ref (ad 0)), (3, .int x3), (4, .int x4), (5, .int x5), (6, .long x6), (9, .int x9)]) dL_isRefused_376 (by decide) rfl ?_
                refine oz_iinc X (q := 6) (v := x9 + 1) (L2 := [(9, .int (x9 + 1)), (8, .int 1), (0, .ref (ad 0)), (3, .int x3), (4, .int x4), (5, .int x5), (6, .long x6)]) dL_isRefused_378 rfl rfl (by decide) rfl ?_
                refine oz_goto X (tgt := 323) dL_isRefused_381 (by decide) ?_
                exact oz_sub X [2, 3, 4, 5, 6, 1, 0] (L2 := [(0, .ref (ad 0)), (3, .int x3), (4, .int x4), (5, .int x5), (6, .long x6), (8, .int 1), (9, .int (x9 + 1))]) rfl (ih _ (by omega) x3 x4 x5 x6 1 (x9 + 1) s35)
            · refine oz_iload_n X dL_isRefused_356 rfl 1 rfl ?_
              refine oz_goto X (tgt := 362) dL_isRefused_357 (by decide) ?_
              refine oz_callSX X rfl (As := [.ref (ad 0), .int x9, .int x3]) (S := []) (mL_of l hst D cI cZ ad x9 x3) gL_isRefused_L_of rfl rfl rfl hL_of ⟨by decide, by decide⟩ rfl rfl (Nat.le_of_ble_eq_true rfl) dL_isRefused_362 (by omega) (by decide) (by decide) (fun r37 s37 => ?_)
              refine oz_sipush X (v := (-1211)) dL_isRefused_365 (by decide) ?_
              refine oz_icmp_ne X (tgt := 375) dL_isRefused_368 (by decide) (fun q38 => ?_) (fun q38 => ?_)
              · exact oz_none X
              · refine oz_iconst X (v := 1) dL_isRefused_371 (by decide) ?_
                refine oz_goto X (tgt := 376) dL_isRefused_372 (by decide) ?_
                refine oz_istore X (L2 := [(8, .int 1), (0, .ref (ad 0)), (3, .int x3), (4, .int x4), (5, .int x5), (6, .long x6), (9, .int x9)]) dL_isRefused_376 (by decide) rfl ?_
                refine oz_iinc X (q := 6) (v := x9 + 1) (L2 := [(9, .int (x9 + 1)), (8, .int 1), (0, .ref (ad 0)), (3, .int x3), (4, .int x4), (5, .int x5), (6, .long x6)]) dL_isRefused_378 rfl rfl (by decide) rfl ?_
                refine oz_goto X (tgt := 323) dL_isRefused_381 (by decide) ?_
                exact oz_sub X [2, 3, 4, 5, 6, 1, 0] (L2 := [(0, .ref (ad 0)), (3, .int x3), (4, .int x4), (5, .int x5), (6, .long x6), (8, .int 1), (9, .int (x9 + 1))]) rfl (ih _ (by omega) x3 x4 x5 x6 1 (x9 + 1) s37)
          · refine oz_iload X dL_isRefused_344 2 rfl ?_
            refine oz_goto X (tgt := 362) dL_isRefused_346 (by decide) ?_
            refine oz_callSX X rfl (As := [.ref (ad 0), .int x9, .int x4]) (S := []) (mL_of l hst D cI cZ ad x9 x4) gL_isRefused_L_of rfl rfl rfl hL_of ⟨by decide, by decide⟩ rfl rfl (Nat.le_of_ble_eq_true rfl) dL_isRefused_362 (by omega) (by decide) (by decide) (fun r39 s39 => ?_)
            refine oz_sipush X (v := (-1211)) dL_isRefused_365 (by decide) ?_
            refine oz_icmp_ne X (tgt := 375) dL_isRefused_368 (by decide) (fun q40 => ?_) (fun q40 => ?_)
            · exact oz_none X
            · refine oz_iconst X (v := 1) dL_isRefused_371 (by decide) ?_
              refine oz_goto X (tgt := 376) dL_isRefused_372 (by decide) ?_
              refine oz_istore X (L2 := [(8, .int 1), (0, .ref (ad 0)), (3, .int x3), (4, .int x4), (5, .int x5), (6, .long x6), (9, .int x9)]) dL_isRefused_376 (by decide) rfl ?_
              refine oz_iinc X (q := 6) (v := x9 + 1) (L2 := [(9, .int (x9 + 1)), (8, .int 1), (0, .ref (ad 0)), (3, .int x3), (4, .int x4), (5, .int x5), (6, .long x6)]) dL_isRefused_378 rfl rfl (by decide) rfl ?_
              refine oz_goto X (tgt := 323) dL_isRefused_381 (by decide) ?_
              exact oz_sub X [2, 3, 4, 5, 6, 1, 0] (L2 := [(0, .ref (ad 0)), (3, .int x3), (4, .int x4), (5, .int x5), (6, .long x6), (8, .int 1), (9, .int (x9 + 1))]) rfl (ih _ (by omega) x3 x4 x5 x6 1 (x9 + 1) s39)
  have hc285 : ∀ (k : Nat), k ≤ 9 → ∀ (x1 : Int32) (x3 : Int32) (x4 : Int32) (x5 : Int32) (x6 : Int64) (y0 : Int32) (y1 : Int32) (st : Int32), G k 285 [(0, .ref (ad 0)), (1, .int x1), (3, .int x3), (4, .int x4), (5, .int x5), (6, .long x6)] [.int y0, .int y1, .ref (ad 0)] st (FL_isRefused_j285 x1 x3 x4 x5 x6 y0 y1 st) := by
    intro k hk x1 x3 x4 x5 x6 y0 y1 st
    unfold FL_isRefused_j285
    refine oz_iconst X (v := 0) dL_isRefused_285 (by decide) ?_
    refine oz_callSX X rfl (As := [.ref (ad 0), .int y1, .int y0, .int 0]) (S := []) (mL_act l hst D cI cZ ad y1 y0 0) gL_isRefused_L_act rfl rfl rfl hL_act ⟨by decide, by decide⟩ rfl rfl (Nat.le_of_ble_eq_true rfl) dL_isRefused_286 (by omega) (by decide) (by decide) (fun r42 s42 => ?_)
    refine oz_sipush X (v := (-1212)) dL_isRefused_289 (by decide) ?_
    refine oz_icmp_ne X (tgt := 317) dL_isRefused_292 (by decide) (fun q43 => ?_) (fun q43 => ?_)
    · exact oz_none X
    · refine oz_aload_n X dL_isRefused_295 rfl 0 rfl ?_
      refine oz_bipush X (v := 14) dL_isRefused_296 (by decide) ?_
      refine oz_iconst X (v := (-1)) dL_isRefused_298 (by decide) ?_
      refine oz_iload_n X dL_isRefused_299 rfl 1 rfl ?_
      refine oz_bipush X (v := 30) dL_isRefused_300 (by decide) ?_
      refine oz_irem X dL_isRefused_302 (by decide) ?_
      refine oz_isub X dL_isRefused_303 ?_
      refine oz_callSX X rfl (As := [.ref (ad 0), .int 14, .int ((-1) - (x1 - x1 / 30 * 30))]) (S := []) (mL_of l hst D cI cZ ad 14 ((-1) - (x1 - x1 / 30 * 30))) gL_isRefused_L_of rfl rfl rfl hL_of ⟨by decide, by decide⟩ rfl rfl (Nat.le_of_ble_eq_true rfl) dL_isRefused_304 (by omega) (by decide) (by decide) (fun r44 s44 => ?_)
      refine oz_sipush X (v := (-1211)) dL_isRefused_307 (by decide) ?_
      refine oz_icmp_ne X (tgt := 317) dL_isRefused_310 (by decide) (fun q45 => ?_) (fun q45 => ?_)
      · exact oz_none X
      · refine oz_iconst X (v := 1) dL_isRefused_313 (by decide) ?_
        refine oz_goto X (tgt := 318) dL_isRefused_314 (by decide) ?_
        refine oz_istore X (L2 := [(8, .int 1), (0, .ref (ad 0)), (1, .int x1), (3, .int x3), (4, .int x4), (5, .int x5), (6, .long x6)]) dL_isRefused_318 (by decide) rfl ?_
        refine oz_iconst X (v := 0) dL_isRefused_320 (by decide) ?_
        refine oz_istore X (L2 := [(9, .int 0), (8, .int 1), (0, .ref (ad 0)), (1, .int x1), (3, .int x3), (4, .int x4), (5, .int x5), (6, .long x6)]) dL_isRefused_321 (by decide) rfl ?_
        exact oz_sub X [2, 4, 5, 6, 7, 1, 0] (L2 := [(0, .ref (ad 0)), (3, .int x3), (4, .int x4), (5, .int x5), (6, .long x6), (8, .int 1), (9, .int 0)]) rfl (hc323 15 _ (by omega) x3 x4 x5 x6 1 0 s44)
  have hc237 : ∀ (k : Nat), k ≤ 7 → ∀ (x1 : Int32) (x2 : Int32) (x3 : Int32) (x4 : Int32) (x5 : Int32) (x6 : Int64) (y0 : Int32) (y1 : Int32) (y2 : Int32) (st : Int32), G k 237 [(0, .ref (ad 0)), (1, .int x1), (2, .int x2), (3, .int x3), (4, .int x4), (5, .int x5), (6, .long x6)] [.int y0, .int y1, .int y2, .ref (ad 0)] st (FL_isRefused_j237 x1 x2 x3 x4 x5 x6 y0 y1 y2 st) := by
    intro k hk x1 x2 x3 x4 x5 x6 y0 y1 y2 st
    unfold FL_isRefused_j237
    refine oz_callSX X rfl (As := [.ref (ad 0), .int y2, .int y1, .int y0]) (S := []) (mL_act l hst D cI cZ ad y2 y1 y0) gL_isRefused_L_act rfl rfl rfl hL_act ⟨by decide, by decide⟩ rfl rfl (Nat.le_of_ble_eq_true rfl) dL_isRefused_237 (by omega) (by decide) (by decide) (fun r47 s47 => ?_)
    refine oz_sipush X (v := (-1211)) dL_isRefused_240 (by decide) ?_
    refine oz_icmp_ne X (tgt := 317) dL_isRefused_243 (by decide) (fun q48 => ?_) (fun q48 => ?_)
    · exact oz_none X
    · refine oz_aload_n X dL_isRefused_246 rfl 0 rfl ?_
      refine oz_bipush X (v := 6) dL_isRefused_247 (by decide) ?_
      refine oz_iload X dL_isRefused_249 5 rfl ?_
      refine oz_iconst X (v := 0) dL_isRefused_251 (by decide) ?_
      refine oz_callSX X rfl (As := [.ref (ad 0), .int 6, .int x5, .int 0]) (S := []) (mL_act l hst D cI cZ ad 6 x5 0) gL_isRefused_L_act rfl rfl rfl hL_act ⟨by decide, by decide⟩ rfl rfl (Nat.le_of_ble_eq_true rfl) dL_isRefused_252 (by omega) (by decide) (by decide) (fun r49 s49 => ?_)
      refine oz_sipush X (v := (-1211)) dL_isRefused_255 (by decide) ?_
      refine oz_icmp_ne X (tgt := 317) dL_isRefused_258 (by decide) (fun q50 => ?_) (fun q50 => ?_)
      · exact oz_none X
      · refine oz_aload_n X dL_isRefused_261 rfl 0 rfl ?_
        refine oz_bipush X (v := 7) dL_isRefused_262 (by decide) ?_
        refine oz_iload_n X dL_isRefused_264 rfl 2 rfl ?_
        refine oz_if_eq X (tgt := 277) dL_isRefused_265 (by decide) (fun q51 => ?_) (fun q51 => ?_)
        · refine oz_sipush X (v := 201) dL_isRefused_277 (by decide) ?_
          refine oz_iload_n X dL_isRefused_280 rfl 1 rfl ?_
          refine oz_bipush X (v := 30) dL_isRefused_281 (by decide) ?_
          refine oz_irem X dL_isRefused_283 (by decide) ?_
          refine oz_iadd X dL_isRefused_284 ?_
          exact oz_sub X [0, 1, 3, 4, 5, 6] (L2 := [(0, .ref (ad 0)), (1, .int x1), (3, .int x3), (4, .int x4), (5, .int x5), (6, .long x6)]) rfl (hc285 _ (by omega) x1 x3 x4 x5 x6 (201 + (x1 - x1 / 30 * 30)) 7 s49)
        · refine oz_iconst X (v := 0) dL_isRefused_268 (by decide) ?_
          refine oz_iload_n X dL_isRefused_269 rfl 1 rfl ?_
          refine oz_bipush X (v := 30) dL_isRefused_270 (by decide) ?_
          refine oz_irem X dL_isRefused_272 (by decide) ?_
          refine oz_isub X dL_isRefused_273 ?_
          refine oz_goto X (tgt := 285) dL_isRefused_274 (by decide) ?_
          exact oz_sub X [0, 1, 3, 4, 5, 6] (L2 := [(0, .ref (ad 0)), (1, .int x1), (3, .int x3), (4, .int x4), (5, .int x5), (6, .long x6)]) rfl (hc285 _ (by omega) x1 x3 x4 x5 x6 (0 - (x1 - x1 / 30 * 30)) 7 s49)
  have hc148 : ∀ (k : Nat), k ≤ 2 → ∀ (x1 : Int32) (x2 : Int32) (x3 : Int32) (x4 : Int32) (x5 : Int32) (x6 : Int64) (y0 : Int32) (y1 : Int32) (st : Int32), G k 148 [(0, .ref (ad 0)), (1, .int x1), (2, .int x2), (3, .int x3), (4, .int x4), (5, .int x5), (6, .long x6)] [.int y0, .int y1, .ref (ad 0)] st (FL_isRefused_j148 x1 x2 x3 x4 x5 x6 y0 y1 st) := by
    intro k hk x1 x2 x3 x4 x5 x6 y0 y1 st
    unfold FL_isRefused_j148
    refine oz_iconst X (v := 0) dL_isRefused_148 (by decide) ?_
    refine oz_callSX X rfl (As := [.ref (ad 0), .int y1, .int y0, .int 0]) (S := []) (mL_act l hst D cI cZ ad y1 y0 0) gL_isRefused_L_act rfl rfl rfl hL_act ⟨by decide, by decide⟩ rfl rfl (Nat.le_of_ble_eq_true rfl) dL_isRefused_149 (by omega) (by decide) (by decide) (fun r53 s53 => ?_)
    refine oz_sipush X (v := (-1212)) dL_isRefused_152 (by decide) ?_
    refine oz_icmp_ne X (tgt := 317) dL_isRefused_155 (by decide) (fun q54 => ?_) (fun q54 => ?_)
    · exact oz_none X
    · refine oz_aload_n X dL_isRefused_158 rfl 0 rfl ?_
      refine oz_iconst X (v := 2) dL_isRefused_159 (by decide) ?_
      refine oz_iload_n X dL_isRefused_160 rfl 3 rfl ?_
      refine oz_iconst X (v := 0) dL_isRefused_161 (by decide) ?_
      refine oz_callSX X rfl (As := [.ref (ad 0), .int 2, .int x3, .int 0]) (S := []) (mL_act l hst D cI cZ ad 2 x3 0) gL_isRefused_L_act rfl rfl rfl hL_act ⟨by decide, by decide⟩ rfl rfl (Nat.le_of_ble_eq_true rfl) dL_isRefused_162 (by omega) (by decide) (by decide) (fun r55 s55 => ?_)
      refine oz_sipush X (v := (-1211)) dL_isRefused_165 (by decide) ?_
      refine oz_icmp_ne X (tgt := 317) dL_isRefused_168 (by decide) (fun q56 => ?_) (fun q56 => ?_)
      · exact oz_none X
      · refine oz_aload_n X dL_isRefused_171 rfl 0 rfl ?_
        refine oz_iconst X (v := 3) dL_isRefused_172 (by decide) ?_
        refine oz_iload X dL_isRefused_173 4 rfl ?_
        refine oz_iconst X (v := 0) dL_isRefused_175 (by decide) ?_
        refine oz_callSX X rfl (As := [.ref (ad 0), .int 3, .int x4, .int 0]) (S := []) (mL_act l hst D cI cZ ad 3 x4 0) gL_isRefused_L_act rfl rfl rfl hL_act ⟨by decide, by decide⟩ rfl rfl (Nat.le_of_ble_eq_true rfl) dL_isRefused_176 (by omega) (by decide) (by decide) (fun r57 s57 => ?_)
        refine oz_sipush X (v := (-1211)) dL_isRefused_179 (by decide) ?_
        refine oz_icmp_ne X (tgt := 317) dL_isRefused_182 (by decide) (fun q58 => ?_) (fun q58 => ?_)
        · exact oz_none X
        · refine oz_aload_n X dL_isRefused_185 rfl 0 rfl ?_
          refine oz_iconst X (v := 4) dL_isRefused_186 (by decide) ?_
          refine oz_iload X dL_isRefused_187 4 rfl ?_
          refine oz_iconst X (v := 0) dL_isRefused_189 (by decide) ?_
          refine oz_callSX X rfl (As := [.ref (ad 0), .int 4, .int x4, .int 0]) (S := []) (mL_act l hst D cI cZ ad 4 x4 0) gL_isRefused_L_act rfl rfl rfl hL_act ⟨by decide, by decide⟩ rfl rfl (Nat.le_of_ble_eq_true rfl) dL_isRefused_190 (by omega) (by decide) (by decide) (fun r59 s59 => ?_)
          refine oz_sipush X (v := (-1211)) dL_isRefused_193 (by decide) ?_
          refine oz_icmp_ne X (tgt := 317) dL_isRefused_196 (by decide) (fun q60 => ?_) (fun q60 => ?_)
          · exact oz_none X
          · refine oz_aload_n X dL_isRefused_199 rfl 0 rfl ?_
            refine oz_iconst X (v := 5) dL_isRefused_200 (by decide) ?_
            refine oz_iload_n X dL_isRefused_201 rfl 3 rfl ?_
            refine oz_iconst X (v := 0) dL_isRefused_202 (by decide) ?_
            refine oz_callSX X rfl (As := [.ref (ad 0), .int 5, .int x3, .int 0]) (S := []) (mL_act l hst D cI cZ ad 5 x3 0) gL_isRefused_L_act rfl rfl rfl hL_act ⟨by decide, by decide⟩ rfl rfl (Nat.le_of_ble_eq_true rfl) dL_isRefused_203 (by omega) (by decide) (by decide) (fun r61 s61 => ?_)
            refine oz_sipush X (v := (-1211)) dL_isRefused_206 (by decide) ?_
            refine oz_icmp_ne X (tgt := 317) dL_isRefused_209 (by decide) (fun q62 => ?_) (fun q62 => ?_)
            · exact oz_none X
            · refine oz_aload_n X dL_isRefused_212 rfl 0 rfl ?_
              refine oz_iconst X (v := 5) dL_isRefused_213 (by decide) ?_
              refine oz_iload_n X dL_isRefused_214 rfl 1 rfl ?_
              refine oz_iconst X (v := 5) dL_isRefused_215 (by decide) ?_
              refine oz_irem X dL_isRefused_216 (by decide) ?_
              refine oz_iload_n X dL_isRefused_217 rfl 2 rfl ?_
              refine oz_if_eq X (tgt := 230) dL_isRefused_218 (by decide) (fun q63 => ?_) (fun q63 => ?_)
              · refine oz_bipush X (v := 8) dL_isRefused_230 (by decide) ?_
                refine oz_iload_n X dL_isRefused_232 rfl 1 rfl ?_
                refine oz_bipush X (v := 30) dL_isRefused_233 (by decide) ?_
                refine oz_irem X dL_isRefused_235 (by decide) ?_
                refine oz_iadd X dL_isRefused_236 ?_
                exact oz_sub X [0, 1, 2, 3, 4, 5, 6] (L2 := [(0, .ref (ad 0)), (1, .int x1), (2, .int x2), (3, .int x3), (4, .int x4), (5, .int x5), (6, .long x6)]) rfl (hc237 _ (by omega) x1 x2 x3 x4 x5 x6 (8 + (x1 - x1 / 30 * 30)) (x1 - x1 / 5 * 5) 5 s61)
              · refine oz_iconst X (v := (-1)) dL_isRefused_221 (by decide) ?_
                refine oz_iload_n X dL_isRefused_222 rfl 1 rfl ?_
                refine oz_bipush X (v := 30) dL_isRefused_223 (by decide) ?_
                refine oz_irem X dL_isRefused_225 (by decide) ?_
                refine oz_isub X dL_isRefused_226 ?_
                refine oz_goto X (tgt := 237) dL_isRefused_227 (by decide) ?_
                exact oz_sub X [0, 1, 2, 3, 4, 5, 6] (L2 := [(0, .ref (ad 0)), (1, .int x1), (2, .int x2), (3, .int x3), (4, .int x4), (5, .int x5), (6, .long x6)]) rfl (hc237 _ (by omega) x1 x2 x3 x4 x5 x6 ((-1) - (x1 - x1 / 30 * 30)) (x1 - x1 / 5 * 5) 5 s61)
  have hc117 : ∀ (k : Nat), k ≤ 1 → ∀ (x1 : Int32) (x2 : Int32) (x3 : Int32) (x4 : Int32) (x5 : Int32) (x6 : Int64) (y0 : Int32) (y1 : Int32) (y2 : Int32) (st : Int32), G k 117 [(0, .ref (ad 0)), (1, .int x1), (2, .int x2), (3, .int x3), (4, .int x4), (5, .int x5), (6, .long x6)] [.int y0, .int y1, .int y2, .ref (ad 0)] st (FL_isRefused_j117 x1 x2 x3 x4 x5 x6 y0 y1 y2 st) := by
    intro k hk x1 x2 x3 x4 x5 x6 y0 y1 y2 st
    unfold FL_isRefused_j117
    refine oz_callSX X rfl (As := [.ref (ad 0), .int y2, .int y1, .int y0]) (S := []) (mL_act l hst D cI cZ ad y2 y1 y0) gL_isRefused_L_act rfl rfl rfl hL_act ⟨by decide, by decide⟩ rfl rfl (Nat.le_of_ble_eq_true rfl) dL_isRefused_117 (by omega) (by decide) (by decide) (fun r65 s65 => ?_)
    refine oz_sipush X (v := (-1212)) dL_isRefused_120 (by decide) ?_
    refine oz_icmp_ne X (tgt := 317) dL_isRefused_123 (by decide) (fun q66 => ?_) (fun q66 => ?_)
    · exact oz_none X
    · refine oz_aload_n X dL_isRefused_126 rfl 0 rfl ?_
      refine oz_iconst X (v := 1) dL_isRefused_127 (by decide) ?_
      refine oz_iload_n X dL_isRefused_128 rfl 2 rfl ?_
      refine oz_if_eq X (tgt := 141) dL_isRefused_129 (by decide) (fun q67 => ?_) (fun q67 => ?_)
      · refine oz_bipush X (v := 10) dL_isRefused_141 (by decide) ?_
        refine oz_iload_n X dL_isRefused_143 rfl 1 rfl ?_
        refine oz_bipush X (v := 30) dL_isRefused_144 (by decide) ?_
        refine oz_irem X dL_isRefused_146 (by decide) ?_
        refine oz_iadd X dL_isRefused_147 ?_
        exact oz_sub X [0, 1, 2, 3, 4, 5, 6] (L2 := [(0, .ref (ad 0)), (1, .int x1), (2, .int x2), (3, .int x3), (4, .int x4), (5, .int x5), (6, .long x6)]) rfl (hc148 _ (by omega) x1 x2 x3 x4 x5 x6 (10 + (x1 - x1 / 30 * 30)) 1 s65)
      · refine oz_iconst X (v := (-1)) dL_isRefused_132 (by decide) ?_
        refine oz_iload_n X dL_isRefused_133 rfl 1 rfl ?_
        refine oz_bipush X (v := 30) dL_isRefused_134 (by decide) ?_
        refine oz_irem X dL_isRefused_136 (by decide) ?_
        refine oz_isub X dL_isRefused_137 ?_
        refine oz_goto X (tgt := 148) dL_isRefused_138 (by decide) ?_
        exact oz_sub X [0, 1, 2, 3, 4, 5, 6] (L2 := [(0, .ref (ad 0)), (1, .int x1), (2, .int x2), (3, .int x3), (4, .int x4), (5, .int x5), (6, .long x6)]) rfl (hc148 _ (by omega) x1 x2 x3 x4 x5 x6 ((-1) - (x1 - x1 / 30 * 30)) 1 s65)
  have hc76 : ∀ (k : Nat), k ≤ 0 → ∀ (x1 : Int32) (x2 : Int32) (x3 : Int32) (x4 : Int32) (y0 : Int32) (st : Int32), G k 76 [(0, .ref (ad 0)), (1, .int x1), (2, .int x2), (3, .int x3), (4, .int x4)] [.int y0] st (FL_isRefused_j76 x1 x2 x3 x4 y0 st) := by
    intro k hk x1 x2 x3 x4 y0 st
    unfold FL_isRefused_j76
    refine oz_istore X (L2 := [(5, .int y0), (0, .ref (ad 0)), (1, .int x1), (2, .int x2), (3, .int x3), (4, .int x4)]) dL_isRefused_76 (by decide) rfl ?_
    refine oz_aload_n X dL_isRefused_78 rfl 1 rfl ?_
    refine oz_callSL X rfl (As := [.ref (ad 0)]) (S := []) (mL_all l hst D cI cZ ad) gL_isRefused_L_all rfl rfl rfl hL_all ⟨by decide, by decide⟩ rfl rfl (Nat.le_of_ble_eq_true rfl) dL_isRefused_79 (by omega) (by decide) (by decide) (fun r69 s69 => ?_)
    refine oz_lstore X (L2 := [(6, .long r69), (5, .int y0), (0, .ref (ad 0)), (1, .int x1), (2, .int x2), (3, .int x3), (4, .int x4)]) dL_isRefused_82 (by decide) rfl ?_
    refine oz_aload_n X dL_isRefused_84 rfl 2 rfl ?_
    refine oz_iconst X (v := 0) dL_isRefused_85 (by decide) ?_
    refine oz_iload_n X dL_isRefused_86 rfl 5 rfl ?_
    refine oz_iconst X (v := (-1)) dL_isRefused_87 (by decide) ?_
    refine oz_callSX X rfl (As := [.ref (ad 0), .int 0, .int x3, .int (-1)]) (S := []) (mL_act l hst D cI cZ ad 0 x3 (-1)) gL_isRefused_L_act rfl rfl rfl hL_act ⟨by decide, by decide⟩ rfl rfl (Nat.le_of_ble_eq_true rfl) dL_isRefused_88 (by omega) (by decide) (by decide) (fun r70 s70 => ?_)
    refine oz_sipush X (v := (-1211)) dL_isRefused_91 (by decide) ?_
    refine oz_icmp_ne X (tgt := 317) dL_isRefused_94 (by decide) (fun q71 => ?_) (fun q71 => ?_)
    · exact oz_none X
    · refine oz_aload_n X dL_isRefused_97 rfl 2 rfl ?_
      refine oz_iconst X (v := 0) dL_isRefused_98 (by decide) ?_
      refine oz_iload_n X dL_isRefused_99 rfl 3 rfl ?_
      refine oz_iconst X (v := 5) dL_isRefused_100 (by decide) ?_
      refine oz_irem X dL_isRefused_101 (by decide) ?_
      refine oz_iload_n X dL_isRefused_102 rfl 4 rfl ?_
      refine oz_if_eq X (tgt := 115) dL_isRefused_103 (by decide) (fun q72 => ?_) (fun q72 => ?_)
      · refine oz_bipush X (v := 10) dL_isRefused_115 (by decide) ?_
        exact oz_sub X [2, 3, 4, 5, 6, 1, 0] (L2 := [(0, .ref (ad 0)), (1, .int x1), (2, .int x2), (3, .int x3), (4, .int x4), (5, .int y0), (6, .long r69)]) rfl (hc117 _ (by omega) x1 x2 x3 x4 y0 r69 10 (x1 - x1 / 5 * 5) 0 s70)
      · refine oz_iconst X (v := (-1)) dL_isRefused_106 (by decide) ?_
        refine oz_iload_n X dL_isRefused_107 rfl 3 rfl ?_
        refine oz_bipush X (v := 30) dL_isRefused_108 (by decide) ?_
        refine oz_irem X dL_isRefused_110 (by decide) ?_
        refine oz_isub X dL_isRefused_111 ?_
        refine oz_goto X (tgt := 117) dL_isRefused_112 (by decide) ?_
        exact oz_sub X [2, 3, 4, 5, 6, 1, 0] (L2 := [(0, .ref (ad 0)), (1, .int x1), (2, .int x2), (3, .int x3), (4, .int x4), (5, .int y0), (6, .long r69)]) rfl (hc117 _ (by omega) x1 x2 x3 x4 y0 r69 ((-1) - (x1 - x1 / 30 * 30)) (x1 - x1 / 5 * 5) 0 s70)
  have hc52 : ∀ (k : Nat), k ≤ 0 → ∀ (x1 : Int32) (x2 : Int32) (x3 : Int32) (y0 : Int32) (st : Int32), G k 52 [(0, .ref (ad 0)), (1, .int x1), (2, .int x2), (3, .int x3)] [.int y0] st (FL_isRefused_j52 x1 x2 x3 y0 st) := by
    intro k hk x1 x2 x3 y0 st
    unfold FL_isRefused_j52
    refine oz_istore X (L2 := [(4, .int y0), (0, .ref (ad 0)), (1, .int x1), (2, .int x2), (3, .int x3)]) dL_isRefused_52 (by decide) rfl ?_
    refine oz_iload_n X dL_isRefused_54 rfl 3 rfl ?_
    refine oz_if_eq X (tgt := 67) dL_isRefused_55 (by decide) (fun q74 => ?_) (fun q74 => ?_)
    · refine oz_aload_n X dL_isRefused_67 rfl 1 rfl ?_
      refine oz_callV X rfl (As := []) (S := []) (mX0_loansN l hst D cI cZ ad) gL_isRefused_X0_loans rfl rfl rfl hX0_loansN ⟨by decide, by decide⟩ rfl rfl (Nat.le_of_ble_eq_true rfl) dL_isRefused_68 (by omega) (by decide) (by decide) (fun r75 s75 => ?_)
      refine oz_iload_n X dL_isRefused_71 rfl 2 rfl ?_
      refine oz_bipush X (v := 30) dL_isRefused_72 (by decide) ?_
      refine oz_irem X dL_isRefused_74 (by decide) ?_
      refine oz_iadd X dL_isRefused_75 ?_
      exact oz_sub X [1, 2, 3, 4, 0] (L2 := [(0, .ref (ad 0)), (1, .int x1), (2, .int x2), (3, .int x3), (4, .int y0)]) rfl (hc76 _ (by omega) x1 x2 x3 y0 (r75 + (x1 - x1 / 30 * 30)) s75)
    · refine oz_iconst X (v := (-1)) dL_isRefused_58 (by decide) ?_
      refine oz_iload_n X dL_isRefused_59 rfl 2 rfl ?_
      refine oz_bipush X (v := 30) dL_isRefused_60 (by decide) ?_
      refine oz_irem X dL_isRefused_62 (by decide) ?_
      refine oz_isub X dL_isRefused_63 ?_
      refine oz_goto X (tgt := 76) dL_isRefused_64 (by decide) ?_
      exact oz_sub X [1, 2, 3, 4, 0] (L2 := [(0, .ref (ad 0)), (1, .int x1), (2, .int x2), (3, .int x3), (4, .int y0)]) rfl (hc76 _ (by omega) x1 x2 x3 y0 ((-1) - (x1 - x1 / 30 * 30)) st)
  have hc31 : ∀ (k : Nat), k ≤ 0 → ∀ (x1 : Int32) (x2 : Int32) (y0 : Int32) (st : Int32), G k 31 [(0, .ref (ad 0)), (1, .int x1), (2, .int x2)] [.int y0] st (FL_isRefused_j31 x1 x2 y0 st) := by
    intro k hk x1 x2 y0 st
    unfold FL_isRefused_j31
    refine oz_istore_n X (L2 := [(3, .int y0), (0, .ref (ad 0)), (1, .int x1), (2, .int x2)]) dL_isRefused_31 rfl (by decide) rfl ?_
    refine oz_iload_n X dL_isRefused_32 rfl 3 rfl ?_
    refine oz_if_eq X (tgt := 45) dL_isRefused_33 (by decide) (fun q77 => ?_) (fun q77 => ?_)
    · refine oz_bipush X (v := 12) dL_isRefused_45 (by decide) ?_
      refine oz_iload_n X dL_isRefused_47 rfl 2 rfl ?_
      refine oz_bipush X (v := 30) dL_isRefused_48 (by decide) ?_
      refine oz_irem X dL_isRefused_50 (by decide) ?_
      refine oz_iadd X dL_isRefused_51 ?_
      exact oz_sub X [1, 2, 3, 0] (L2 := [(0, .ref (ad 0)), (1, .int x1), (2, .int x2), (3, .int y0)]) rfl (hc52 _ (by omega) x1 x2 y0 (12 + (x1 - x1 / 30 * 30)) st)
    · refine oz_iconst X (v := (-1)) dL_isRefused_36 (by decide) ?_
      refine oz_iload_n X dL_isRefused_37 rfl 2 rfl ?_
      refine oz_bipush X (v := 30) dL_isRefused_38 (by decide) ?_
      refine oz_irem X dL_isRefused_40 (by decide) ?_
      refine oz_isub X dL_isRefused_41 ?_
      refine oz_goto X (tgt := 52) dL_isRefused_42 (by decide) ?_
      exact oz_sub X [1, 2, 3, 0] (L2 := [(0, .ref (ad 0)), (1, .int x1), (2, .int x2), (3, .int y0)]) rfl (hc52 _ (by omega) x1 x2 y0 ((-1) - (x1 - x1 / 30 * 30)) st)
  have hc11 : ∀ (k : Nat), k ≤ 0 → ∀ (x1 : Int32) (y0 : Int32) (st : Int32), G k 11 [(0, .ref (ad 0)), (1, .int x1)] [.int y0] st (FL_isRefused_j11 x1 y0 st) := by
    intro k hk x1 y0 st
    unfold FL_isRefused_j11
    refine oz_istore_n X (L2 := [(2, .int y0), (0, .ref (ad 0)), (1, .int x1)]) dL_isRefused_11 rfl (by decide) rfl ?_
    refine oz_iload_n X dL_isRefused_12 rfl 0 rfl ?_
    refine oz_if_eq X (tgt := 25) dL_isRefused_13 (by decide) (fun q79 => ?_) (fun q79 => ?_)
    · refine oz_iconst X (v := 5) dL_isRefused_25 (by decide) ?_
      refine oz_iload_n X dL_isRefused_26 rfl 2 rfl ?_
      refine oz_bipush X (v := 30) dL_isRefused_27 (by decide) ?_
      refine oz_irem X dL_isRefused_29 (by decide) ?_
      refine oz_iadd X dL_isRefused_30 ?_
      exact oz_sub X [1, 2, 0] (L2 := [(0, .ref (ad 0)), (1, .int x1), (2, .int y0)]) rfl (hc31 _ (by omega) x1 y0 (5 + (x1 - x1 / 30 * 30)) st)
    · refine oz_iconst X (v := (-1)) dL_isRefused_16 (by decide) ?_
      refine oz_iload_n X dL_isRefused_17 rfl 2 rfl ?_
      refine oz_bipush X (v := 30) dL_isRefused_18 (by decide) ?_
      refine oz_irem X dL_isRefused_20 (by decide) ?_
      refine oz_isub X dL_isRefused_21 ?_
      refine oz_goto X (tgt := 31) dL_isRefused_22 (by decide) ?_
      exact oz_sub X [1, 2, 0] (L2 := [(0, .ref (ad 0)), (1, .int x1), (2, .int y0)]) rfl (hc31 _ (by omega) x1 y0 ((-1) - (x1 - x1 / 30 * 30)) st)
  show G 0 0 [(0, .ref (ad 0)), (1, .int a1)] [] st (FL_isRefused a1 st)
  unfold FL_isRefused
  refine oz_iload_n X dL_isRefused_0 rfl 1 rfl ?_
  refine oz_iconst X (v := 2) dL_isRefused_1 (by decide) ?_
  refine oz_irem X dL_isRefused_2 (by decide) ?_
  refine oz_if_ne X (tgt := 10) dL_isRefused_3 (by decide) (fun q80 => ?_) (fun q80 => ?_)
  · refine oz_iconst X (v := 0) dL_isRefused_10 (by decide) ?_
    exact oz_sub X [0, 1] (L2 := [(0, .ref (ad 0)), (1, .int a1)]) rfl (hc11 _ (by omega) a1 0 st)
  · refine oz_iconst X (v := 1) dL_isRefused_6 (by decide) ?_
    refine oz_goto X (tgt := 11) dL_isRefused_7 (by decide) ?_
    exact oz_sub X [0, 1] (L2 := [(0, .ref (ad 0)), (1, .int a1)]) rfl (hc11 _ (by omega) a1 1 st)
end
section
/-! AlmsKernelLaw.loanOf -/
def FL_loanOf (a1 : Int32) (st : Int32) : Option RC := bnd (FX0_loansN st) (fun r1 s1 => (if r1 ≤ 0 then some (0, (-1), s1) else none))
def rmL_loanOf : Room := { frames := 1, cells := 0, slots := 0, locals := 20 }
theorem hL_loanOf : yL_loanOf.cls ≠ "java/lang/invoke/MethodHandle" ∧ yL_loanOf.cls ≠ "java/lang/invoke/VarHandle" ∧ (parseMethodDescriptor yL_loanOf.desc).map (fun d => d.parameters.length) = some 2 := by decide +kernel
set_option maxHeartbeats 4000000 in
set_option maxRecDepth 100000 in
theorem mL_loanOf (l : Launch) (hst : l.stackTraces = false) (D : va_G) (cI cZ : ClassId) (ad : Nat → Nat) (a1 : Int32) : oz_MI l yL_loanOf wsL_loanOf rmL_loanOf D cI cZ RX0 0 oz_KSX0 ad oz_lyX0 0 [.ref (ad 0), .int a1] (FL_loanOf a1) := by
  refine oz_ofI (wn := RL) (bytes := cL_loanOf) (maxL := 4) (ret := (some .int)) (T := TX0) (N := 19) (by decide) rfl rfl oz_CX0 hst (Nat.le_of_ble_eq_true rfl) ?_
  intro p e s m below meth c st A res G hr X
  show G 0 0 [(0, .ref (ad 0)), (1, .int a1)] [] st (FL_loanOf a1 st)
  unfold FL_loanOf
  refine oz_iconst X (v := (-1)) dL_loanOf_0 (by decide) ?_
  refine oz_istore_n X (L2 := [(2, .int (-1)), (0, .ref (ad 0)), (1, .int a1)]) dL_loanOf_1 rfl (by decide) rfl ?_
  refine oz_iconst X (v := 0) dL_loanOf_2 (by decide) ?_
  refine oz_istore_n X (L2 := [(3, .int 0), (2, .int (-1)), (0, .ref (ad 0)), (1, .int a1)]) dL_loanOf_3 rfl (by decide) rfl ?_
  refine oz_iload_n X dL_loanOf_4 rfl 0 rfl ?_
  refine oz_aload_n X dL_loanOf_5 rfl 2 rfl ?_
  refine oz_callV X rfl (As := []) (S := [.int 0]) (mX0_loansN l hst D cI cZ ad) gL_loanOf_X0_loans rfl rfl rfl hX0_loansN ⟨by decide, by decide⟩ rfl rfl (Nat.le_of_ble_eq_true rfl) dL_loanOf_6 (by omega) (by decide) (by decide) (fun r1 s1 => ?_)
  refine oz_icmp_ge X (tgt := 44) dL_loanOf_9 (by decide) (fun q2 => ?_) (fun q2 => ?_)
  · refine oz_iload_n X dL_loanOf_44 rfl 1 rfl ?_
    exact oz_iret X rfl hr (by omega) dL_loanOf_45
  · exact oz_none X
end
section
/-! AlmsKernelLaw.areFrames -/
def FL_areFrames_w365 (k340 : Int32 → Int32 → Int32 → Int32 → Int32 → Option RC) : Nat → Int32 → Int32 → Int32 → Int32 → Int32 → Int32 → Int32 → Int32 → Int32 → Int32 → Option RC
  | 0, _, _, _, _, _, _, _, _, _, _ => none
  | n + 1, x1, x2, x3, x4, x5, x6, x7, x8, x9, st => (if 12 ≤ x9 then (if x1 = 0 then none else bnd (FX0_ownsN x4 st) (fun r4 s4 => (if r4 = x5 then bnd (FX0_borrowedN x4 s4) (fun r6 s6 => (if r6 = x6 then bnd (FX0_lentN x4 s6) (fun r8 s8 => (if r8 = x7 then (if 3 < x6 then none else bnd (FX0_purseN x4 s8) (fun r11 s11 => (if r11 < 0 then none else bnd (FX0_stateOfN x4 s11) (fun r13 s13 => (if r13 = 2 then none else (k340 1 x2 x3 (x4 + 1) s13)))))) else none)) else none)) else none))) else bnd (FX0_ownerN x9 st) (fun r15 s15 => (if r15 = x4 then none else bnd (FX0_holderN x9 s15) (fun r17 s17 => (if r17 = x4 then none else (if (0 : Int32) = 0 then (if (0 : Int32) = 0 then (if (0 : Int32) = 0 then (if x1 = 0 then none else (if (0 : Int32) = 0 then (if (0 : Int32) = 0 then (FL_areFrames_w365 k340 n 1 x2 x3 x4 (x5 + 0) (x6 + 0) (x7 + 0) (x8 ||| 0) (x9 + 1) s17) else none) else none)) else none) else none) else none))))))
def FL_areFrames_w340 : Nat → Int32 → Int32 → Int32 → Int32 → Int32 → Option RC
  | 0, _, _, _, _, _ => none
  | n + 1, x1, x2, x3, x4, st => (if 5 ≤ x4 then (if x1 = 0 then none else bnd (FX0_freeN st) (fun r28 s28 => (if r28 = x2 then bnd (FX0_requestsN s28) (fun r30 s30 => (if r30 = x3 then bnd (FX0_requestAtN x3 s30) (fun r32 s32 => (if r32 = (-1) then some (0, 1, s32) else none)) else none)) else none))) else (if x1 = 0 then none else (FL_areFrames_w365 (FL_areFrames_w340 n) 62 x1 x2 x3 x4 0 0 0 0 0 st)))
def FL_areFrames_w20 : Nat → Int32 → Int32 → Int32 → Int32 → Int32 → Option RC
  | 0, _, _, _, _, _ => none
  | n + 1, x1, x2, x3, x4, st => (if 12 ≤ x4 then (FL_areFrames_w340 62 x1 x2 x3 0 st) else (if x1 = 0 then none else bnd (FX0_ownerN x4 st) (fun r38 s38 => bnd (FL_loanOf x4 s38) (fun r39 s39 => (if 0 ≤ r39 then none else bnd (FX0_holderN x4 s39) (fun r41 s41 => (if r41 = r38 then bnd (FX0_holderByLogN x4 s41) (fun r43 s43 => (if r43 = r38 then (if r39 < 0 then (if 0 ≤ r38 then none else bnd (FX0_pageInN x4 s43) (fun r47 s47 => (if r47 = (-1) then bnd (FX0_pageInN x4 s47) (fun r49 s49 => (if 0 ≤ r49 then none else bnd (FX0_ageN x4 s49) (fun r51 s51 => (if r51 = (-1) then (if 0 ≤ r38 then none else (if (1 : Int32) = 0 then none else bnd (FX0_pageInN x4 s51) (fun r55 s55 => (if r55 < 0 then (FL_areFrames_w20 n 1 (x2 + 1) x3 (x4 + 1) s55) else none)))) else none)))) else none))) else none) else none)) else none)))))))
def FL_areFrames (st : Int32) : Option RC := bnd (FX0_tickN st) (fun r57 s57 => (if r57 < 0 then none else (FL_areFrames_w20 62 1 0 0 0 s57)))
def rmL_areFrames : Room := { frames := 4, cells := 0, slots := 0, locals := 86 }
theorem hL_areFrames : yL_areFrames.cls ≠ "java/lang/invoke/MethodHandle" ∧ yL_areFrames.cls ≠ "java/lang/invoke/VarHandle" ∧ (parseMethodDescriptor yL_areFrames.desc).map (fun d => d.parameters.length) = some 1 := by decide +kernel
set_option maxHeartbeats 4000000 in
set_option maxRecDepth 100000 in
theorem mL_areFrames (l : Launch) (hst : l.stackTraces = false) (D : va_G) (cI cZ : ClassId) (ad : Nat → Nat) : oz_MI l yL_areFrames wsL_areFrames rmL_areFrames D cI cZ RX0 0 oz_KSX0 ad oz_lyX0 0 [.ref (ad 0)] (FL_areFrames) := by
  refine oz_ofI (wn := RL) (bytes := cL_areFrames) (maxL := 12) (ret := (some .boolean)) (T := TX0) (N := 19) (by decide) rfl rfl oz_CX0 hst (Nat.le_of_ble_eq_true rfl) ?_
  intro p e s m below meth c st A res G hr X
  have hc365 : ∀ (k340 : Int32 → Int32 → Int32 → Int32 → Int32 → Option RC) (hk340 : ∀ (k : Nat), k ≤ 0 → ∀ (x1 : Int32) (x2 : Int32) (x3 : Int32) (x4 : Int32) (st : Int32), G k 340 [(0, .ref (ad 0)), (1, .int x1), (2, .int x2), (3, .int x3), (4, .int x4)] [] st (k340 x1 x2 x3 x4 st)) (n k : Nat), k ≤ 0 → ∀ (x1 : Int32) (x2 : Int32) (x3 : Int32) (x4 : Int32) (x5 : Int32) (x6 : Int32) (x7 : Int32) (x8 : Int32) (x9 : Int32) (st : Int32), G k 365 [(0, .ref (ad 0)), (1, .int x1), (2, .int x2), (3, .int x3), (4, .int x4), (5, .int x5), (6, .int x6), (7, .int x7), (8, .int x8), (9, .int x9)] [] st (FL_areFrames_w365 k340 n x1 x2 x3 x4 x5 x6 x7 x8 x9 st) := by
    intro k340 hk340 n
    induction n with
    | zero => intros; exact oz_none X
    | succ n ih =>
      intro k hk x1 x2 x3 x4 x5 x6 x7 x8 x9 st
      rw [FL_areFrames_w365]
      refine oz_iload X dL_areFrames_365 9 rfl ?_
      refine oz_bipush X (v := 12) dL_areFrames_367 (by decide) ?_
      refine oz_icmp_ge X (tgt := 538) dL_areFrames_369 (by decide) (fun q2 => ?_) (fun q2 => ?_)
      · refine oz_iload_n X dL_areFrames_538 rfl 1 rfl ?_
        refine oz_if_eq X (tgt := 609) dL_areFrames_539 (by decide) (fun q3 => ?_) (fun q3 => ?_)
        · exact oz_none X
        · refine oz_aload_n X dL_areFrames_542 rfl 0 rfl ?_
          refine oz_iload X dL_areFrames_543 4 rfl ?_
          refine oz_callV X rfl (As := [.int x4]) (S := []) (mX0_ownsN l hst D cI cZ ad x4) gL_areFrames_X0_owns rfl rfl rfl hX0_ownsN ⟨by decide, by decide⟩ rfl rfl (Nat.le_of_ble_eq_true rfl) dL_areFrames_545 (by omega) (by decide) (by decide) (fun r4 s4 => ?_)
          refine oz_iload X dL_areFrames_548 5 rfl ?_
          refine oz_icmp_ne X (tgt := 609) dL_areFrames_550 (by decide) (fun q5 => ?_) (fun q5 => ?_)
          · exact oz_none X
          · refine oz_aload_n X dL_areFrames_553 rfl 0 rfl ?_
            refine oz_iload X dL_areFrames_554 4 rfl ?_
            refine oz_callV X rfl (As := [.int x4]) (S := []) (mX0_borrowedN l hst D cI cZ ad x4) gL_areFrames_X0_borrowed rfl rfl rfl hX0_borrowedN ⟨by decide, by decide⟩ rfl rfl (Nat.le_of_ble_eq_true rfl) dL_areFrames_556 (by omega) (by decide) (by decide) (fun r6 s6 => ?_)
            refine oz_iload X dL_areFrames_559 6 rfl ?_
            refine oz_icmp_ne X (tgt := 609) dL_areFrames_561 (by decide) (fun q7 => ?_) (fun q7 => ?_)
            · exact oz_none X
            · refine oz_aload_n X dL_areFrames_564 rfl 0 rfl ?_
              refine oz_iload X dL_areFrames_565 4 rfl ?_
              refine oz_callV X rfl (As := [.int x4]) (S := []) (mX0_lentN l hst D cI cZ ad x4) gL_areFrames_X0_lent rfl rfl rfl hX0_lentN ⟨by decide, by decide⟩ rfl rfl (Nat.le_of_ble_eq_true rfl) dL_areFrames_567 (by omega) (by decide) (by decide) (fun r8 s8 => ?_)
              refine oz_iload X dL_areFrames_570 7 rfl ?_
              refine oz_icmp_ne X (tgt := 609) dL_areFrames_572 (by decide) (fun q9 => ?_) (fun q9 => ?_)
              · exact oz_none X
              · refine oz_iload X dL_areFrames_575 6 rfl ?_
                refine oz_iconst X (v := 3) dL_areFrames_577 (by decide) ?_
                refine oz_icmp_gt X (tgt := 609) dL_areFrames_578 (by decide) (fun q10 => ?_) (fun q10 => ?_)
                · exact oz_none X
                · refine oz_aload_n X dL_areFrames_581 rfl 0 rfl ?_
                  refine oz_iload X dL_areFrames_582 4 rfl ?_
                  refine oz_callV X rfl (As := [.int x4]) (S := []) (mX0_purseN l hst D cI cZ ad x4) gL_areFrames_X0_purse rfl rfl rfl hX0_purseN ⟨by decide, by decide⟩ rfl rfl (Nat.le_of_ble_eq_true rfl) dL_areFrames_584 (by omega) (by decide) (by decide) (fun r11 s11 => ?_)
                  refine oz_if_lt X (tgt := 609) dL_areFrames_587 (by decide) (fun q12 => ?_) (fun q12 => ?_)
                  · exact oz_none X
                  · refine oz_aload_n X dL_areFrames_590 rfl 0 rfl ?_
                    refine oz_iload X dL_areFrames_591 4 rfl ?_
                    refine oz_callV X rfl (As := [.int x4]) (S := []) (mX0_stateOfN l hst D cI cZ ad x4) gL_areFrames_X0_stateOf rfl rfl rfl hX0_stateOfN ⟨by decide, by decide⟩ rfl rfl (Nat.le_of_ble_eq_true rfl) dL_areFrames_593 (by omega) (by decide) (by decide) (fun r13 s13 => ?_)
                    refine oz_iconst X (v := 2) dL_areFrames_596 (by decide) ?_
                    refine oz_icmp_ne X (tgt := 605) dL_areFrames_597 (by decide) (fun q14 => ?_) (fun q14 => ?_)
                    · refine oz_iconst X (v := 1) dL_areFrames_605 (by decide) ?_
                      refine oz_goto X (tgt := 610) dL_areFrames_606 (by decide) ?_
                      refine oz_istore_n X (L2 := [(1, .int 1), (0, .ref (ad 0)), (2, .int x2), (3, .int x3), (4, .int x4), (5, .int x5), (6, .int x6), (7, .int x7), (8, .int x8), (9, .int x9)]) dL_areFrames_610 rfl (by decide) rfl ?_
                      refine oz_iinc X (q := 4) (v := x4 + 1) (L2 := [(4, .int (x4 + 1)), (1, .int 1), (0, .ref (ad 0)), (2, .int x2), (3, .int x3), (5, .int x5), (6, .int x6), (7, .int x7), (8, .int x8), (9, .int x9)]) dL_areFrames_611 rfl rfl (by decide) rfl ?_
                      refine oz_goto X (tgt := 340) dL_areFrames_614 (by decide) ?_
                      exact oz_sub X [2, 1, 3, 4, 0] (L2 := [(0, .ref (ad 0)), (1, .int 1), (2, .int x2), (3, .int x3), (4, .int (x4 + 1))]) rfl (hk340 _ (by omega) 1 x2 x3 (x4 + 1) s13)
                    · exact oz_none X
      · refine oz_aload_n X dL_areFrames_372 rfl 0 rfl ?_
        refine oz_iload X dL_areFrames_373 9 rfl ?_
        refine oz_callV X rfl (As := [.int x9]) (S := []) (mX0_ownerN l hst D cI cZ ad x9) gL_areFrames_X0_owner rfl rfl rfl hX0_ownerN ⟨by decide, by decide⟩ rfl rfl (Nat.le_of_ble_eq_true rfl) dL_areFrames_375 (by omega) (by decide) (by decide) (fun r15 s15 => ?_)
        refine oz_iload X dL_areFrames_378 4 rfl ?_
        refine oz_icmp_ne X (tgt := 387) dL_areFrames_380 (by decide) (fun q16 => ?_) (fun q16 => ?_)
        · refine oz_iconst X (v := 0) dL_areFrames_387 (by decide) ?_
          refine oz_istore X (L2 := [(10, .int 0), (0, .ref (ad 0)), (1, .int x1), (2, .int x2), (3, .int x3), (4, .int x4), (5, .int x5), (6, .int x6), (7, .int x7), (8, .int x8), (9, .int x9)]) dL_areFrames_388 (by decide) rfl ?_
          refine oz_aload_n X dL_areFrames_390 rfl 1 rfl ?_
          refine oz_iload X dL_areFrames_391 10 rfl ?_
          refine oz_callV X rfl (As := [.int x9]) (S := []) (mX0_holderN l hst D cI cZ ad x9) gL_areFrames_X0_holder rfl rfl rfl hX0_holderN ⟨by decide, by decide⟩ rfl rfl (Nat.le_of_ble_eq_true rfl) dL_areFrames_393 (by omega) (by decide) (by decide) (fun r17 s17 => ?_)
          refine oz_iload X dL_areFrames_396 5 rfl ?_
          refine oz_icmp_ne X (tgt := 405) dL_areFrames_398 (by decide) (fun q18 => ?_) (fun q18 => ?_)
          · refine oz_iconst X (v := 0) dL_areFrames_405 (by decide) ?_
            refine oz_istore X (L2 := [(11, .int 0), (10, .int 0), (0, .ref (ad 0)), (1, .int x1), (2, .int x2), (3, .int x3), (4, .int x4), (5, .int x5), (6, .int x6), (7, .int x7), (8, .int x8), (9, .int x9)]) dL_areFrames_406 (by decide) rfl ?_
            refine oz_iload X dL_areFrames_408 7 rfl ?_
            refine oz_iload X dL_areFrames_410 1 rfl ?_
            refine oz_if_eq X (tgt := 419) dL_areFrames_412 (by decide) (fun q19 => ?_) (fun q19 => ?_)
            · refine oz_iconst X (v := 0) dL_areFrames_419 (by decide) ?_
              refine oz_iadd X dL_areFrames_420 ?_
              refine oz_istore X (L2 := [(5, .int (x5 + 0)), (11, .int 0), (10, .int 0), (0, .ref (ad 0)), (1, .int x1), (2, .int x2), (3, .int x3), (4, .int x4), (6, .int x6), (7, .int x7), (8, .int x8), (9, .int x9)]) dL_areFrames_421 (by decide) rfl ?_
              refine oz_iload X dL_areFrames_423 9 rfl ?_
              refine oz_iload X dL_areFrames_425 2 rfl ?_
              refine oz_if_eq X (tgt := 439) dL_areFrames_427 (by decide) (fun q20 => ?_) (fun q20 => ?_)
              · refine oz_iconst X (v := 0) dL_areFrames_439 (by decide) ?_
                refine oz_iadd X dL_areFrames_440 ?_
                refine oz_istore X (L2 := [(7, .int (x7 + 0)), (5, .int (x5 + 0)), (11, .int 0), (10, .int 0), (0, .ref (ad 0)), (1, .int x1), (2, .int x2), (3, .int x3), (4, .int x4), (6, .int x6), (8, .int x8), (9, .int x9)]) dL_areFrames_441 (by decide) rfl ?_
                refine oz_iload X dL_areFrames_443 9 rfl ?_
                refine oz_iload X dL_areFrames_445 2 rfl ?_
                refine oz_if_eq X (tgt := 459) dL_areFrames_447 (by decide) (fun q21 => ?_) (fun q21 => ?_)
                · refine oz_iconst X (v := 0) dL_areFrames_459 (by decide) ?_
                  refine oz_iadd X dL_areFrames_460 ?_
                  refine oz_istore X (L2 := [(6, .int (x6 + 0)), (7, .int (x7 + 0)), (5, .int (x5 + 0)), (11, .int 0), (10, .int 0), (0, .ref (ad 0)), (1, .int x1), (2, .int x2), (3, .int x3), (4, .int x4), (8, .int x8), (9, .int x9)]) dL_areFrames_461 (by decide) rfl ?_
                  refine oz_iload_n X dL_areFrames_463 rfl 6 rfl ?_
                  refine oz_if_eq X (tgt := 499) dL_areFrames_464 (by decide) (fun q22 => ?_) (fun q22 => ?_)
                  · exact oz_none X
                  · refine oz_iload X dL_areFrames_467 3 rfl ?_
                    refine oz_if_eq X (tgt := 495) dL_areFrames_469 (by decide) (fun q23 => ?_) (fun q23 => ?_)
                    · refine oz_iconst X (v := 1) dL_areFrames_495 (by decide) ?_
                      refine oz_goto X (tgt := 500) dL_areFrames_496 (by decide) ?_
                      refine oz_istore_n X (L2 := [(1, .int 1), (6, .int (x6 + 0)), (7, .int (x7 + 0)), (5, .int (x5 + 0)), (11, .int 0), (10, .int 0), (0, .ref (ad 0)), (2, .int x2), (3, .int x3), (4, .int x4), (8, .int x8), (9, .int x9)]) dL_areFrames_500 rfl (by decide) rfl ?_
                      refine oz_iload X dL_areFrames_501 10 rfl ?_
                      refine oz_iload X dL_areFrames_503 4 rfl ?_
                      refine oz_if_eq X (tgt := 528) dL_areFrames_505 (by decide) (fun q24 => ?_) (fun q24 => ?_)
                      · refine oz_iconst X (v := 0) dL_areFrames_528 (by decide) ?_
                        refine oz_ior X dL_areFrames_529 ?_
                        refine oz_istore X (L2 := [(8, .int (x8 ||| 0)), (1, .int 1), (6, .int (x6 + 0)), (7, .int (x7 + 0)), (5, .int (x5 + 0)), (11, .int 0), (10, .int 0), (0, .ref (ad 0)), (2, .int x2), (3, .int x3), (4, .int x4), (9, .int x9)]) dL_areFrames_530 (by decide) rfl ?_
                        refine oz_iinc X (q := 11) (v := x9 + 1) (L2 := [(9, .int (x9 + 1)), (8, .int (x8 ||| 0)), (1, .int 1), (6, .int (x6 + 0)), (7, .int (x7 + 0)), (5, .int (x5 + 0)), (11, .int 0), (10, .int 0), (0, .ref (ad 0)), (2, .int x2), (3, .int x3), (4, .int x4)]) dL_areFrames_532 rfl rfl (by decide) rfl ?_
                        refine oz_goto X (tgt := 365) dL_areFrames_535 (by decide) ?_
                        exact oz_sub X [8, 2, 9, 10, 11, 5, 3, 4, 1, 0] (L2 := [(0, .ref (ad 0)), (1, .int 1), (2, .int x2), (3, .int x3), (4, .int x4), (5, .int (x5 + 0)), (6, .int (x6 + 0)), (7, .int (x7 + 0)), (8, .int (x8 ||| 0)), (9, .int (x9 + 1))]) rfl (ih _ (by omega) 1 x2 x3 x4 (x5 + 0) (x6 + 0) (x7 + 0) (x8 ||| 0) (x9 + 1) s17)
                      · exact oz_none X
                    · exact oz_none X
                · exact oz_none X
              · exact oz_none X
            · exact oz_none X
          · exact oz_none X
        · exact oz_none X
  have hc340 : ∀ (n k : Nat), k ≤ 0 → ∀ (x1 : Int32) (x2 : Int32) (x3 : Int32) (x4 : Int32) (st : Int32), G k 340 [(0, .ref (ad 0)), (1, .int x1), (2, .int x2), (3, .int x3), (4, .int x4)] [] st (FL_areFrames_w340 n x1 x2 x3 x4 st) := by
    intro n
    induction n with
    | zero => intros; exact oz_none X
    | succ n ih =>
      intro k hk x1 x2 x3 x4 st
      rw [FL_areFrames_w340]
      refine oz_iload X dL_areFrames_340 4 rfl ?_
      refine oz_iconst X (v := 5) dL_areFrames_342 (by decide) ?_
      refine oz_icmp_ge X (tgt := 617) dL_areFrames_343 (by decide) (fun q26 => ?_) (fun q26 => ?_)
      · refine oz_iload_n X dL_areFrames_617 rfl 1 rfl ?_
        refine oz_if_eq X (tgt := 650) dL_areFrames_618 (by decide) (fun q27 => ?_) (fun q27 => ?_)
        · exact oz_none X
        · refine oz_aload_n X dL_areFrames_621 rfl 0 rfl ?_
          refine oz_callV X rfl (As := []) (S := []) (mX0_freeN l hst D cI cZ ad) gL_areFrames_X0_free rfl rfl rfl hX0_freeN ⟨by decide, by decide⟩ rfl rfl (Nat.le_of_ble_eq_true rfl) dL_areFrames_622 (by omega) (by decide) (by decide) (fun r28 s28 => ?_)
          refine oz_iload_n X dL_areFrames_625 rfl 2 rfl ?_
          refine oz_icmp_ne X (tgt := 650) dL_areFrames_626 (by decide) (fun q29 => ?_) (fun q29 => ?_)
          · exact oz_none X
          · refine oz_aload_n X dL_areFrames_629 rfl 0 rfl ?_
            refine oz_callV X rfl (As := []) (S := []) (mX0_requestsN l hst D cI cZ ad) gL_areFrames_X0_requests rfl rfl rfl hX0_requestsN ⟨by decide, by decide⟩ rfl rfl (Nat.le_of_ble_eq_true rfl) dL_areFrames_630 (by omega) (by decide) (by decide) (fun r30 s30 => ?_)
            refine oz_iload_n X dL_areFrames_633 rfl 3 rfl ?_
            refine oz_icmp_ne X (tgt := 650) dL_areFrames_634 (by decide) (fun q31 => ?_) (fun q31 => ?_)
            · exact oz_none X
            · refine oz_aload_n X dL_areFrames_637 rfl 0 rfl ?_
              refine oz_iload_n X dL_areFrames_638 rfl 3 rfl ?_
              refine oz_callV X rfl (As := [.int x3]) (S := []) (mX0_requestAtN l hst D cI cZ ad x3) gL_areFrames_X0_requestAt rfl rfl rfl hX0_requestAtN ⟨by decide, by decide⟩ rfl rfl (Nat.le_of_ble_eq_true rfl) dL_areFrames_639 (by omega) (by decide) (by decide) (fun r32 s32 => ?_)
              refine oz_iconst X (v := (-1)) dL_areFrames_642 (by decide) ?_
              refine oz_icmp_ne X (tgt := 650) dL_areFrames_643 (by decide) (fun q33 => ?_) (fun q33 => ?_)
              · exact oz_none X
              · refine oz_iconst X (v := 1) dL_areFrames_646 (by decide) ?_
                refine oz_goto X (tgt := 651) dL_areFrames_647 (by decide) ?_
                exact oz_zret X rfl hr rfl (by omega) dL_areFrames_651
      · refine oz_iload_n X dL_areFrames_346 rfl 1 rfl ?_
        refine oz_if_eq X (tgt := 617) dL_areFrames_347 (by decide) (fun q34 => ?_) (fun q34 => ?_)
        · exact oz_none X
        · refine oz_iconst X (v := 0) dL_areFrames_350 (by decide) ?_
          refine oz_istore X (L2 := [(5, .int 0), (0, .ref (ad 0)), (1, .int x1), (2, .int x2), (3, .int x3), (4, .int x4)]) dL_areFrames_351 (by decide) rfl ?_
          refine oz_iconst X (v := 0) dL_areFrames_353 (by decide) ?_
          refine oz_istore X (L2 := [(6, .int 0), (5, .int 0), (0, .ref (ad 0)), (1, .int x1), (2, .int x2), (3, .int x3), (4, .int x4)]) dL_areFrames_354 (by decide) rfl ?_
          refine oz_iconst X (v := 0) dL_areFrames_356 (by decide) ?_
          refine oz_istore X (L2 := [(7, .int 0), (6, .int 0), (5, .int 0), (0, .ref (ad 0)), (1, .int x1), (2, .int x2), (3, .int x3), (4, .int x4)]) dL_areFrames_357 (by decide) rfl ?_
          refine oz_iconst X (v := 0) dL_areFrames_359 (by decide) ?_
          refine oz_istore X (L2 := [(8, .int 0), (7, .int 0), (6, .int 0), (5, .int 0), (0, .ref (ad 0)), (1, .int x1), (2, .int x2), (3, .int x3), (4, .int x4)]) dL_areFrames_360 (by decide) rfl ?_
          refine oz_iconst X (v := 0) dL_areFrames_362 (by decide) ?_
          refine oz_istore X (L2 := [(9, .int 0), (8, .int 0), (7, .int 0), (6, .int 0), (5, .int 0), (0, .ref (ad 0)), (1, .int x1), (2, .int x2), (3, .int x3), (4, .int x4)]) dL_areFrames_363 (by decide) rfl ?_
          exact oz_sub X [5, 6, 7, 8, 9, 4, 3, 2, 1, 0] (L2 := [(0, .ref (ad 0)), (1, .int x1), (2, .int x2), (3, .int x3), (4, .int x4), (5, .int 0), (6, .int 0), (7, .int 0), (8, .int 0), (9, .int 0)]) rfl (hc365 (FL_areFrames_w340 n) ih 62 _ (by omega) x1 x2 x3 x4 0 0 0 0 0 st)
  have hc20 : ∀ (n k : Nat), k ≤ 0 → ∀ (x1 : Int32) (x2 : Int32) (x3 : Int32) (x4 : Int32) (st : Int32), G k 20 [(0, .ref (ad 0)), (1, .int x1), (2, .int x2), (3, .int x3), (4, .int x4)] [] st (FL_areFrames_w20 n x1 x2 x3 x4 st) := by
    intro n
    induction n with
    | zero => intros; exact oz_none X
    | succ n ih =>
      intro k hk x1 x2 x3 x4 st
      rw [FL_areFrames_w20]
      refine oz_iload X dL_areFrames_20 4 rfl ?_
      refine oz_bipush X (v := 12) dL_areFrames_22 (by decide) ?_
      refine oz_icmp_ge X (tgt := 337) dL_areFrames_24 (by decide) (fun q36 => ?_) (fun q36 => ?_)
      · refine oz_iconst X (v := 0) dL_areFrames_337 (by decide) ?_
        refine oz_istore X (L2 := [(4, .int 0), (0, .ref (ad 0)), (1, .int x1), (2, .int x2), (3, .int x3)]) dL_areFrames_338 (by decide) rfl ?_
        exact oz_sub X [1, 2, 3, 4, 0] (L2 := [(0, .ref (ad 0)), (1, .int x1), (2, .int x2), (3, .int x3), (4, .int 0)]) rfl (hc340 62 _ (by omega) x1 x2 x3 0 st)
      · refine oz_iload_n X dL_areFrames_27 rfl 1 rfl ?_
        refine oz_if_eq X (tgt := 337) dL_areFrames_28 (by decide) (fun q37 => ?_) (fun q37 => ?_)
        · exact oz_none X
        · refine oz_aload_n X dL_areFrames_31 rfl 0 rfl ?_
          refine oz_iload X dL_areFrames_32 4 rfl ?_
          refine oz_callV X rfl (As := [.int x4]) (S := []) (mX0_ownerN l hst D cI cZ ad x4) gL_areFrames_X0_owner rfl rfl rfl hX0_ownerN ⟨by decide, by decide⟩ rfl rfl (Nat.le_of_ble_eq_true rfl) dL_areFrames_34 (by omega) (by decide) (by decide) (fun r38 s38 => ?_)
          refine oz_istore X (L2 := [(5, .int r38), (0, .ref (ad 0)), (1, .int x1), (2, .int x2), (3, .int x3), (4, .int x4)]) dL_areFrames_37 (by decide) rfl ?_
          refine oz_aload_n X dL_areFrames_39 rfl 1 rfl ?_
          refine oz_iload X dL_areFrames_40 5 rfl ?_
          refine oz_callS X rfl (As := [.ref (ad 0), .int x4]) (S := []) (mL_loanOf l hst D cI cZ ad x4) gL_areFrames_L_loanOf rfl rfl rfl hL_loanOf ⟨by decide, by decide⟩ rfl rfl (Nat.le_of_ble_eq_true rfl) dL_areFrames_42 (by omega) (by decide) (by decide) (fun r39 s39 => ?_)
          refine oz_istore X (L2 := [(6, .int r39), (5, .int r38), (0, .ref (ad 0)), (1, .int x1), (2, .int x2), (3, .int x3), (4, .int x4)]) dL_areFrames_45 (by decide) rfl ?_
          refine oz_iload X dL_areFrames_47 0 rfl ?_
          refine oz_if_ge X (tgt := 57) dL_areFrames_49 (by decide) (fun q40 => ?_) (fun q40 => ?_)
          · exact oz_none X
          · refine oz_iload X dL_areFrames_52 1 rfl ?_
            refine oz_goto X (tgt := 66) dL_areFrames_54 (by decide) ?_
            refine oz_istore X (L2 := [(7, .int r38), (6, .int r39), (5, .int r38), (0, .ref (ad 0)), (1, .int x1), (2, .int x2), (3, .int x3), (4, .int x4)]) dL_areFrames_66 (by decide) rfl ?_
            refine oz_aload_n X dL_areFrames_68 rfl 3 rfl ?_
            refine oz_iload X dL_areFrames_69 7 rfl ?_
            refine oz_callV X rfl (As := [.int x4]) (S := []) (mX0_holderN l hst D cI cZ ad x4) gL_areFrames_X0_holder rfl rfl rfl hX0_holderN ⟨by decide, by decide⟩ rfl rfl (Nat.le_of_ble_eq_true rfl) dL_areFrames_71 (by omega) (by decide) (by decide) (fun r41 s41 => ?_)
            refine oz_iload X dL_areFrames_74 0 rfl ?_
            refine oz_icmp_ne X (tgt := 167) dL_areFrames_76 (by decide) (fun q42 => ?_) (fun q42 => ?_)
            · exact oz_none X
            · refine oz_aload_n X dL_areFrames_79 rfl 3 rfl ?_
              refine oz_iload X dL_areFrames_80 7 rfl ?_
              refine oz_callV X rfl (As := [.int x4]) (S := []) (mX0_holderByLogN l hst D cI cZ ad x4) gL_areFrames_X0_holderByLog rfl rfl rfl hX0_holderByLogN ⟨by decide, by decide⟩ rfl rfl (Nat.le_of_ble_eq_true rfl) dL_areFrames_82 (by omega) (by decide) (by decide) (fun r43 s43 => ?_)
              refine oz_iload X dL_areFrames_85 0 rfl ?_
              refine oz_icmp_ne X (tgt := 167) dL_areFrames_87 (by decide) (fun q44 => ?_) (fun q44 => ?_)
              · exact oz_none X
              · refine oz_iload X dL_areFrames_90 1 rfl ?_
                refine oz_if_lt X (tgt := 129) dL_areFrames_92 (by decide) (fun q45 => ?_) (fun q45 => ?_)
                · refine oz_iload X dL_areFrames_129 2 rfl ?_
                  refine oz_if_ge X (tgt := 144) dL_areFrames_131 (by decide) (fun q46 => ?_) (fun q46 => ?_)
                  · exact oz_none X
                  · refine oz_aload_n X dL_areFrames_134 rfl 3 rfl ?_
                    refine oz_iload X dL_areFrames_135 7 rfl ?_
                    refine oz_callV X rfl (As := [.int x4]) (S := []) (mX0_pageInN l hst D cI cZ ad x4) gL_areFrames_X0_pageIn rfl rfl rfl hX0_pageInN ⟨by decide, by decide⟩ rfl rfl (Nat.le_of_ble_eq_true rfl) dL_areFrames_137 (by omega) (by decide) (by decide) (fun r47 s47 => ?_)
                    refine oz_iconst X (v := (-1)) dL_areFrames_140 (by decide) ?_
                    refine oz_icmp_ne X (tgt := 167) dL_areFrames_141 (by decide) (fun q48 => ?_) (fun q48 => ?_)
                    · exact oz_none X
                    · refine oz_aload_n X dL_areFrames_144 rfl 3 rfl ?_
                      refine oz_iload X dL_areFrames_145 7 rfl ?_
                      refine oz_callV X rfl (As := [.int x4]) (S := []) (mX0_pageInN l hst D cI cZ ad x4) gL_areFrames_X0_pageIn rfl rfl rfl hX0_pageInN ⟨by decide, by decide⟩ rfl rfl (Nat.le_of_ble_eq_true rfl) dL_areFrames_147 (by omega) (by decide) (by decide) (fun r49 s49 => ?_)
                      refine oz_if_ge X (tgt := 163) dL_areFrames_150 (by decide) (fun q50 => ?_) (fun q50 => ?_)
                      · exact oz_none X
                      · refine oz_aload_n X dL_areFrames_153 rfl 3 rfl ?_
                        refine oz_iload X dL_areFrames_154 7 rfl ?_
                        refine oz_callV X rfl (As := [.int x4]) (S := []) (mX0_ageN l hst D cI cZ ad x4) gL_areFrames_X0_age rfl rfl rfl hX0_ageN ⟨by decide, by decide⟩ rfl rfl (Nat.le_of_ble_eq_true rfl) dL_areFrames_156 (by omega) (by decide) (by decide) (fun r51 s51 => ?_)
                        refine oz_iconst X (v := (-1)) dL_areFrames_159 (by decide) ?_
                        refine oz_icmp_ne X (tgt := 167) dL_areFrames_160 (by decide) (fun q52 => ?_) (fun q52 => ?_)
                        · exact oz_none X
                        · refine oz_iconst X (v := 1) dL_areFrames_163 (by decide) ?_
                          refine oz_goto X (tgt := 168) dL_areFrames_164 (by decide) ?_
                          refine oz_istore_n X (L2 := [(1, .int 1), (7, .int r38), (6, .int r39), (5, .int r38), (0, .ref (ad 0)), (2, .int x2), (3, .int x3), (4, .int x4)]) dL_areFrames_168 rfl (by decide) rfl ?_
                          refine oz_iload_n X dL_areFrames_169 rfl 5 rfl ?_
                          refine oz_iload X dL_areFrames_170 3 rfl ?_
                          refine oz_if_ge X (tgt := 179) dL_areFrames_172 (by decide) (fun q53 => ?_) (fun q53 => ?_)
                          · exact oz_none X
                          · refine oz_iconst X (v := 1) dL_areFrames_175 (by decide) ?_
                            refine oz_goto X (tgt := 180) dL_areFrames_176 (by decide) ?_
                            refine oz_iadd X dL_areFrames_180 ?_
                            refine oz_istore_n X (L2 := [(2, .int (x2 + 1)), (1, .int 1), (7, .int r38), (6, .int r39), (5, .int r38), (0, .ref (ad 0)), (3, .int x3), (4, .int x4)]) dL_areFrames_181 rfl (by decide) rfl ?_
                            refine oz_iload_n X dL_areFrames_182 rfl 1 rfl ?_
                            refine oz_if_eq X (tgt := 331) dL_areFrames_183 (by decide) (fun q54 => ?_) (fun q54 => ?_)
                            · exact oz_none X
                            · refine oz_aload_n X dL_areFrames_186 rfl 5 rfl ?_
                              refine oz_iload X dL_areFrames_187 7 rfl ?_
                              refine oz_callV X rfl (As := [.int x4]) (S := []) (mX0_pageInN l hst D cI cZ ad x4) gL_areFrames_X0_pageIn rfl rfl rfl hX0_pageInN ⟨by decide, by decide⟩ rfl rfl (Nat.le_of_ble_eq_true rfl) dL_areFrames_189 (by omega) (by decide) (by decide) (fun r55 s55 => ?_)
                              refine oz_if_lt X (tgt := 331) dL_areFrames_192 (by decide) (fun q56 => ?_) (fun q56 => ?_)
                              · refine oz_iinc X (q := 7) (v := x4 + 1) (L2 := [(4, .int (x4 + 1)), (2, .int (x2 + 1)), (1, .int 1), (7, .int r38), (6, .int r39), (5, .int r38), (0, .ref (ad 0)), (3, .int x3)]) dL_areFrames_331 rfl rfl (by decide) rfl ?_
                                refine oz_goto X (tgt := 20) dL_areFrames_334 (by decide) ?_
                                exact oz_sub X [6, 2, 1, 7, 0] (L2 := [(0, .ref (ad 0)), (1, .int 1), (2, .int (x2 + 1)), (3, .int x3), (4, .int (x4 + 1))]) rfl (ih _ (by omega) 1 (x2 + 1) x3 (x4 + 1) s55)
                              · exact oz_none X
                · exact oz_none X
  show G 0 0 [(0, .ref (ad 0))] [] st (FL_areFrames st)
  unfold FL_areFrames
  refine oz_aload_n X dL_areFrames_0 rfl 0 rfl ?_
  refine oz_callV X rfl (As := []) (S := []) (mX0_tickN l hst D cI cZ ad) gL_areFrames_X0_tick rfl rfl rfl hX0_tickN ⟨by decide, by decide⟩ rfl rfl (Nat.le_of_ble_eq_true rfl) dL_areFrames_1 (by omega) (by decide) (by decide) (fun r57 s57 => ?_)
  refine oz_if_lt X (tgt := 11) dL_areFrames_4 (by decide) (fun q58 => ?_) (fun q58 => ?_)
  · exact oz_none X
  · refine oz_iconst X (v := 1) dL_areFrames_7 (by decide) ?_
    refine oz_goto X (tgt := 12) dL_areFrames_8 (by decide) ?_
    refine oz_istore_n X (L2 := [(1, .int 1), (0, .ref (ad 0))]) dL_areFrames_12 rfl (by decide) rfl ?_
    refine oz_iconst X (v := 0) dL_areFrames_13 (by decide) ?_
    refine oz_istore_n X (L2 := [(2, .int 0), (1, .int 1), (0, .ref (ad 0))]) dL_areFrames_14 rfl (by decide) rfl ?_
    refine oz_iconst X (v := 0) dL_areFrames_15 (by decide) ?_
    refine oz_istore_n X (L2 := [(3, .int 0), (2, .int 0), (1, .int 1), (0, .ref (ad 0))]) dL_areFrames_16 rfl (by decide) rfl ?_
    refine oz_iconst X (v := 0) dL_areFrames_17 (by decide) ?_
    refine oz_istore X (L2 := [(4, .int 0), (3, .int 0), (2, .int 0), (1, .int 1), (0, .ref (ad 0))]) dL_areFrames_18 (by decide) rfl ?_
    exact oz_sub X [4, 3, 2, 1, 0] (L2 := [(0, .ref (ad 0)), (1, .int 1), (2, .int 0), (3, .int 0), (4, .int 0)]) rfl (hc20 62 _ (by omega) 1 0 0 0 s57)
end
section
/-! DICE: the script's numbers, on the script of nines -/
def oz_scr (s : State) (b : Nat) (xs : Nat → Int32) (A : Nat → Prop) : Prop := va_X b 110 xs s s.heap ∧ b < s.heap.size ∧ ¬ A b ∧ ∀ i : Int32, oz_in i 110 = true → xs i.toNatClampNeg = 9
theorem hL_dice : yL_dice.cls ≠ "java/lang/invoke/MethodHandle" ∧ yL_dice.cls ≠ "java/lang/invoke/VarHandle" ∧ (parseMethodDescriptor yL_dice.desc).map (fun d => d.parameters.length) = some 2 := by decide +kernel
theorem dice_lt {k : Int32} (hk : oz_in k 110 = true) : ¬ Int32.ofNat 110 ≤ k := by
  have h := of_decide_eq_true hk
  intro h2
  have h3 := Int32.le_iff_toInt_le.mp h2
  have h4 : (Int32.ofNat 110).toInt = 110 := by decide
  omega
set_option maxHeartbeats 4000000 in
theorem mL_dice (l : Launch) (b sz : Nat) (xs : Nat → Int32) (k : Int32) (hk : oz_in k 110 = true) : Met l yL_dice wsL_dice { frames := 0, cells := 0, slots := 0, locals := 0 } (va_Pc [.ref b, .int k] (fun U => U.heap.size = sz ∧ va_X b 110 xs U U.heap ∧ b < U.heap.size)) (va_Qi (fun r (_ : Unit) => r = xs k.toNatClampNeg &&& 2147483647) (fun _ _ => True) (va_A [] sz)) 0 0 (va_A [] sz) := by
  refine Met.ofW (cc := cL_dice) (maxL := 2) (ret := some .int) (by decide) rfl ?_
  intro p e s m args below meth c s₁ B hml hv
  obtain ⟨rfl, hsz, hX, hbl⟩ := hv
  have hx := B.exec
  have hb := B.bytes
  have hr := B.returns
  have hts := atoms_spec (ws := wsL_dice) B.pre
  have hown : s.vm.findClass RL = some m.cls := findClass_of_methodNamed B.named
  have hc1 : Cond.constant RL 8 2147483647 ∈ wsL_dice := by decide +kernel
  subst hsz
  have hbA : ¬ va_A [] s.heap.size b := fun h => h.elim (fun ⟨j, e1, hj⟩ => by simp at hj) (fun h => by omega)
  have hS : va_S (va_A [] s.heap.size) s.heap s.heap [] := va_S.rf
  have hl := lv_entry [.ref b, .int k] (n := 2) (Nat.le_of_ble_eq_true rfl)
  rw [lg_entry_eq]
  generalize (lg_sl [.ref b, .int k] ++ List.replicate (2 - (lg_sl [.ref b, .int k]).length) Slot.unset).toArray = ls at hl ⊢
  have hl : lv_has ls 2 [(0, .ref b), (1, .int k)] := hl
  refine lv_iload_n hx hb dL_dice_0 rfl (lv_at hl 1 rfl) ?_
  refine lv_aload_n hx hb dL_dice_1 rfl (lv_at hl 0 rfl) ?_
  refine va_slen hx hb hX hbl hbA hS dL_dice_2 ?_
  refine lv_icmp_ge (tgt := 12) hx hb dL_dice_3 (by decide) (fun h => absurd h (dice_lt hk)) (fun h => ?_)
  refine lv_aload_n hx hb dL_dice_6 rfl (lv_at hl 0 rfl) ?_
  refine lv_iload_n hx hb dL_dice_7 rfl (lv_at hl 1 rfl) ?_
  refine va_sld hx hb hX hbl hbA hS (oz_in_spec hk) dL_dice_8 ?_
  refine lv_goto (tgt := 32) hx hb dL_dice_9 (by decide) ?_
  refine lv_ldc hx hb hown (hts _ hc1) dL_dice_32 ?_
  refine lv_iand hx hb dL_dice_34 ?_
  exact W.iret hx hb hr (fun t ht hW => ⟨⟨_, (), rfl, rfl, trivial⟩, hS.F ht⟩) hS.2.2 dL_dice_35 B.notSynchronized
section OD
variable {p : Program} {l : Launch} {e : Env} {R : Room} {s : State} {m : MethodId} {args : Array Value} {below : List Frame} {meth : Method} {c : Code} {Q : State → Prop}
variable {cc : ByteArray} {nL : Nat} {own : String} {D : va_G} {cI cZ : ClassId} {ci : Nat} {T : u_T} {N : Nat} {KS : KSt} {ly : LY} {ad : Nat → Nat} {A : Nat → Prop} {res : RC} {hh : List (Nat × Nat × Nat × Nat)}
variable {G : Nat → Nat → List (Nat × Value) → List Value → Int32 → Option RC → Prop}
variable {pc k b : Nat} {xs : Nat → Int32} {L : List (Nat × Value)} {S : List Value} {st : Int32} {o : Option RC}
theorem oz_dice (X : oz_E p l e R s m args below meth c Q cc nL wsL_law own RL D cI cZ ci T N KS ly ad A res hh G) (hscr : oz_scr s b xs A) {i : Int32} (d : decode cc pc = .ok (.invokestatic 156, 3)) (hR : 0 + 1 ≤ R.frames ∧ 8 + (2 + 11) + 0 ≤ R.locals) (hW : (S.map fun v => v.category).sum ≤ 8) (hk1 : k ≤ R.cells) (hk2 : 6 * k ≤ R.slots)
    (kk : oz_in i 110 = true → G k (pc + 3) L (.int 9 :: S) st o) : G k pc L (.int i :: .ref b :: S) st (gd (oz_in i 110) o) := by
  have hts := X.hts
  obtain ⟨rfl, ⟨hx, hb, hml, hown, -⟩, hK, hD, hA, hC, hKS, hBX, hNC, hUZ, hN, hstt, hlk, htab⟩ := X
  obtain ⟨hX, hbl, hbA, hxs⟩ := hscr
  intro ho H locs ls hP hS hl
  by_cases hi : oz_in i 110 = true
  · rw [gd, if_pos hi] at ho
    have hAA : ∀ q, va_A ([] : va_W) H.size q → A q := fun q h => h.elim (fun ⟨j, e1, hj⟩ => by simp at hj) (fun h => hA q (Nat.le_trans hS.1 h))
    refine va_calli (va_runS (As := [.ref b, .int i]) (rest := S) ⟨hx, hb, hml, hown, hts⟩ (mL_dice l b H.size xs i hi) (va_cwS 2 hts gL_law_L_dice rfl rfl rfl hL_dice hR) ⟨fun a U g mk q => ?_, fun U hU hW2 => ?_⟩ rfl rfl hl.1 rfl (lv_room hW) d ⟨hk1, hk2⟩) hS (fun q _ h => hAA q h) hAA (fun r u t H1 locs1 ht hvm hp hB hz hkeep hS1 => ?_)
    · obtain ⟨q0, q1, q2, q3⟩ := q
      exact ⟨q0, q1, va_X.moved (u := U) (U := U.calling g mk a) (Vm.Alike.refl U.vm) q2, q3⟩
    · refine ⟨rfl, by rw [hU], ?_, by rw [hU]; exact Nat.lt_of_lt_of_le hbl hS.1⟩
      rw [hU]
      exact va_X.moved hW2.alike (hX.kept (hS.2.1 b hbl hbA))
    · have hr9 : r = 9 := by rw [hp, hxs i hi]; decide
      subst hr9
      have hPn : oz_P D cI cZ ci ad ly st H1 := ⟨fun j q hj => (hP.1 j q hj).kept (hkeep q.1 (vx_lt hP.1 hj) (fun h => h.elim (fun ⟨j, e1, hj⟩ => by simp at hj) (fun h => by have := vx_lt hP.1 hj; omega))), Nat.le_trans hP.2 hz⟩
      exact kk hi ho H1 locs1 ls hPn hS1 hl
  · rw [gd, if_neg hi] at ho
    cases ho
end OD
end
section
/-! AlmsKernelLaw.law -/
def lawR : Room := { frames := 13, cells := 6067, slots := 6 * 6067, locals := 506 }
def FL_law_w56 : Nat → Int32 → Int32 → Int32 → Option RC
  | 0, _, _, _ => none
  | n + 1, x5, x6, st => (if 110 ≤ x6 then gd (oz_bit x5) (some (0, x5, st)) else (if x5 = 0 then none else gd (oz_in x6 110) ((if 3 ≤ ((9 : Int32) - (9 : Int32) / 32 * 32) then (if ((9 : Int32) - (9 : Int32) / 32 * 32) = 3 then none else (if 9 ≤ ((9 : Int32) - (9 : Int32) / 32 * 32) then (if ((9 : Int32) - (9 : Int32) / 32 * 32) = 9 then bnd (FX0_ageN (((9 : Int32) / 32) - ((9 : Int32) / 32) / 12 * 12) st) (fun r9 s9 => (if 0 ≤ r9 then none else bnd (FL_act 4 (((9 : Int32) / 32) - ((9 : Int32) / 32) / 12 * 12) 0 s9) (fun r11 s11 => (if r11 = (-1213) then (if ((-1213) : Int32) < 0 then (if (1 : Int32) = 0 then none else (if 0 < (x6 - x6 / 2 * 2) then (if 0 < (x6 - x6 / 22 * 22) then (FL_law_w56 n 1 (x6 + 1) s11) else bnd (FL_isRefused ((9 : Int32) / 3) s11) (fun r17 s17 => (if r17 = 0 then none else (FL_law_w56 n 1 (x6 + 1) s17)))) else bnd (FL_areFrames s11) (fun r19 s19 => (if r19 = 0 then none else (if 0 < (x6 - x6 / 22 * 22) then (FL_law_w56 n 1 (x6 + 1) s19) else bnd (FL_isRefused ((9 : Int32) / 3) s19) (fun r22 s22 => (if r22 = 0 then none else (FL_law_w56 n 1 (x6 + 1) s22)))))))) else none) else none)))) else none) else none)) else none))))
def FL_law (st : Int32) : Option RC := bnd (FL_isRefused 0 st) (fun r24 s24 => (if r24 = 0 then none else bnd (FL_isRefused 1 s24) (fun r26 s26 => (if r26 = 0 then none else bnd (FX0_freeN s26) (fun r28 s28 => (if r28 = 12 then (FL_law_w56 111 1 0 s28) else none))))))
set_option maxHeartbeats 4000000 in
set_option maxRecDepth 100000 in
theorem mL_lawG {p : Program} {l : Launch} {e : Env} {s : State} {m : MethodId} {b : Nat} {below : List Frame} {meth : Method} {c : Code} {xs : Nat → Int32} {D : va_G} {cI cZ : ClassId} {ad : Nat → Nat} {A : Nat → Prop} {res : RC} {G : Nat → Nat → List (Nat × Value) → List Value → Int32 → Option RC → Prop} (hst : l.stackTraces = false) (hr : meth.sig.returnType = (some .boolean)) (X : oz_E p l e lawR s m #[.ref b] below meth c (vx_MQ below (oz_Qi D cI cZ 0 ad oz_lyX0 res A) (oz_XC D cI cZ 0 ad oz_lyX0 res A) #[.ref b] s 6067 (6 * 6067) A) cL_law 14 wsL_law RX0 RL D cI cZ 0 TX0 19 oz_KSX0 oz_lyX0 ad A res [] G) (hscr : oz_scr s b xs A) (st : Int32) : G 80 21 [(1, .ref (ad 0)), (0, .ref b)] [] st (FL_law st) := by
  have hc56 : ∀ (n k : Nat), k + 53 * n ≤ 6067 → ∀ (x5 : Int32) (x6 : Int32) (st : Int32), G k 56 [(0, .ref b), (1, .ref (ad 0)), (5, .int x5), (6, .int x6)] [] st (FL_law_w56 n x5 x6 st) := by
    intro n
    induction n with
    | zero => intros; exact oz_none X
    | succ n ih =>
      intro k hk x5 x6 st
      rw [FL_law_w56]
      refine oz_iload X dL_law_56 3 rfl ?_
      refine oz_bipush X (v := 110) dL_law_58 (by decide) ?_
      refine oz_icmp_ge X (tgt := 617) dL_law_60 (by decide) (fun q2 => ?_) (fun q2 => ?_)
      · refine oz_iload X dL_law_617 2 rfl ?_
        exact oz_zretG X rfl hr (by omega) dL_law_619
      · refine oz_iload X dL_law_63 2 rfl ?_
        refine oz_if_eq X (tgt := 617) dL_law_65 (by decide) (fun q3 => ?_) (fun q3 => ?_)
        · exact oz_none X
        · refine oz_aload_n X dL_law_68 rfl 0 rfl ?_
          refine oz_iload X dL_law_69 3 rfl ?_
          refine oz_dice X hscr dL_law_71 ⟨by decide, by decide⟩ (Nat.le_of_ble_eq_true rfl) (by show _ ≤ 6067; omega) (by show _ ≤ 6 * 6067; omega) (fun g4 => ?_)
          refine oz_istore X (L2 := [(7, .int 9), (0, .ref b), (1, .ref (ad 0)), (5, .int x5), (6, .int x6)]) dL_law_74 (by decide) rfl ?_
          refine oz_iload X dL_law_76 0 rfl ?_
          refine oz_bipush X (v := 32) dL_law_78 (by decide) ?_
          refine oz_idiv X dL_law_80 (by decide) ?_
          refine oz_istore X (L2 := [(8, .int ((9 : Int32) / 32)), (7, .int 9), (0, .ref b), (1, .ref (ad 0)), (5, .int x5), (6, .int x6)]) dL_law_81 (by decide) rfl ?_
          refine oz_iload X dL_law_83 1 rfl ?_
          refine oz_bipush X (v := 32) dL_law_85 (by decide) ?_
          refine oz_irem X dL_law_87 (by decide) ?_
          refine oz_istore X (L2 := [(9, .int ((9 : Int32) - (9 : Int32) / 32 * 32)), (8, .int ((9 : Int32) / 32)), (7, .int 9), (0, .ref b), (1, .ref (ad 0)), (5, .int x5), (6, .int x6)]) dL_law_88 (by decide) rfl ?_
          refine oz_iload X dL_law_90 1 rfl ?_
          refine oz_iconst X (v := 5) dL_law_92 (by decide) ?_
          refine oz_irem X dL_law_93 (by decide) ?_
          refine oz_istore X (L2 := [(10, .int (((9 : Int32) / 32) - ((9 : Int32) / 32) / 5 * 5)), (9, .int ((9 : Int32) - (9 : Int32) / 32 * 32)), (8, .int ((9 : Int32) / 32)), (7, .int 9), (0, .ref b), (1, .ref (ad 0)), (5, .int x5), (6, .int x6)]) dL_law_94 (by decide) rfl ?_
          refine oz_iload X dL_law_96 1 rfl ?_
          refine oz_iconst X (v := 3) dL_law_98 (by decide) ?_
          refine oz_icmp_ge X (tgt := 156) dL_law_99 (by decide) (fun q5 => ?_) (fun q5 => ?_)
          · refine oz_iload X dL_law_156 1 rfl ?_
            refine oz_iconst X (v := 3) dL_law_158 (by decide) ?_
            refine oz_icmp_ne X (tgt := 207) dL_law_159 (by decide) (fun q6 => ?_) (fun q6 => ?_)
            · refine oz_iload X dL_law_207 1 rfl ?_
              refine oz_bipush X (v := 9) dL_law_209 (by decide) ?_
              refine oz_icmp_ge X (tgt := 244) dL_law_211 (by decide) (fun q7 => ?_) (fun q7 => ?_)
              · refine oz_iload X dL_law_244 1 rfl ?_
                refine oz_bipush X (v := 9) dL_law_246 (by decide) ?_
                refine oz_icmp_ne X (tgt := 324) dL_law_248 (by decide) (fun q8 => ?_) (fun q8 => ?_)
                · exact oz_none X
                · refine oz_aload_n X dL_law_251 rfl 5 rfl ?_
                  refine oz_iload X dL_law_252 2 rfl ?_
                  refine oz_bipush X (v := 12) dL_law_254 (by decide) ?_
                  refine oz_irem X dL_law_256 (by decide) ?_
                  refine oz_callV X rfl (As := [.int (((9 : Int32) / 32) - ((9 : Int32) / 32) / 12 * 12)]) (S := []) (mX0_ageN l hst D cI cZ ad (((9 : Int32) / 32) - ((9 : Int32) / 32) / 12 * 12)) gL_law_X0_age rfl rfl rfl hX0_ageN ⟨by decide, by decide⟩ rfl rfl (Nat.le_of_ble_eq_true rfl) dL_law_257 (by omega) (by decide) (by decide) (fun r9 s9 => ?_)
                  refine oz_if_ge X (tgt := 269) dL_law_260 (by decide) (fun q10 => ?_) (fun q10 => ?_)
                  · exact oz_none X
                  · refine oz_sipush X (v := (-1213)) dL_law_263 (by decide) ?_
                    refine oz_goto X (tgt := 278) dL_law_266 (by decide) ?_
                    refine oz_istore X (L2 := [(11, .int (-1213)), (10, .int (((9 : Int32) / 32) - ((9 : Int32) / 32) / 5 * 5)), (9, .int ((9 : Int32) - (9 : Int32) / 32 * 32)), (8, .int ((9 : Int32) / 32)), (7, .int 9), (0, .ref b), (1, .ref (ad 0)), (5, .int x5), (6, .int x6)]) dL_law_278 (by decide) rfl ?_
                    refine oz_aload_n X dL_law_280 rfl 6 rfl ?_
                    refine oz_iconst X (v := 4) dL_law_281 (by decide) ?_
                    refine oz_iload X dL_law_282 3 rfl ?_
                    refine oz_bipush X (v := 12) dL_law_284 (by decide) ?_
                    refine oz_irem X dL_law_286 (by decide) ?_
                    refine oz_iconst X (v := 0) dL_law_287 (by decide) ?_
                    refine oz_callSX X rfl (As := [.ref (ad 0), .int 4, .int (((9 : Int32) / 32) - ((9 : Int32) / 32) / 12 * 12), .int 0]) (S := []) (mL_act l hst D cI cZ ad 4 (((9 : Int32) / 32) - ((9 : Int32) / 32) / 12 * 12) 0) gL_law_L_act rfl rfl rfl hL_act ⟨by decide, by decide⟩ rfl rfl (Nat.le_of_ble_eq_true rfl) dL_law_288 (by omega) (by decide) (by decide) (fun r11 s11 => ?_)
                    refine oz_iload X dL_law_291 0 rfl ?_
                    refine oz_icmp_ne X (tgt := 318) dL_law_293 (by decide) (fun q12 => ?_) (fun q12 => ?_)
                    · exact oz_none X
                    · refine oz_iload X dL_law_296 0 rfl ?_
                      refine oz_if_lt X (tgt := 314) dL_law_298 (by decide) (fun q13 => ?_) (fun q13 => ?_)
                      · refine oz_iconst X (v := 1) dL_law_314 (by decide) ?_
                        refine oz_goto X (tgt := 319) dL_law_315 (by decide) ?_
                        refine oz_istore X (L2 := [(5, .int 1), (11, .int (-1213)), (10, .int (((9 : Int32) / 32) - ((9 : Int32) / 32) / 5 * 5)), (9, .int ((9 : Int32) - (9 : Int32) / 32 * 32)), (8, .int ((9 : Int32) / 32)), (7, .int 9), (0, .ref b), (1, .ref (ad 0)), (6, .int x6)]) dL_law_319 (by decide) rfl ?_
                        refine oz_goto X (tgt := 566) dL_law_321 (by decide) ?_
                        refine oz_iload X dL_law_566 0 rfl ?_
                        refine oz_if_eq X (tgt := 608) dL_law_568 (by decide) (fun q14 => ?_) (fun q14 => ?_)
                        · exact oz_none X
                        · refine oz_iload X dL_law_571 8 rfl ?_
                          refine oz_iconst X (v := 2) dL_law_573 (by decide) ?_
                          refine oz_irem X dL_law_574 (by decide) ?_
                          refine oz_if_gt X (tgt := 585) dL_law_575 (by decide) (fun q15 => ?_) (fun q15 => ?_)
                          · refine oz_iload X dL_law_585 8 rfl ?_
                            refine oz_bipush X (v := 22) dL_law_587 (by decide) ?_
                            refine oz_irem X dL_law_589 (by decide) ?_
                            refine oz_if_gt X (tgt := 604) dL_law_590 (by decide) (fun q16 => ?_) (fun q16 => ?_)
                            · refine oz_iconst X (v := 1) dL_law_604 (by decide) ?_
                              refine oz_goto X (tgt := 609) dL_law_605 (by decide) ?_
                              refine oz_istore X (L2 := [(5, .int 1), (11, .int (-1213)), (10, .int (((9 : Int32) / 32) - ((9 : Int32) / 32) / 5 * 5)), (9, .int ((9 : Int32) - (9 : Int32) / 32 * 32)), (8, .int ((9 : Int32) / 32)), (7, .int 9), (0, .ref b), (1, .ref (ad 0)), (6, .int x6)]) dL_law_609 (by decide) rfl ?_
                              refine oz_iinc X (q := 8) (v := x6 + 1) (L2 := [(6, .int (x6 + 1)), (5, .int 1), (11, .int (-1213)), (10, .int (((9 : Int32) / 32) - ((9 : Int32) / 32) / 5 * 5)), (9, .int ((9 : Int32) - (9 : Int32) / 32 * 32)), (8, .int ((9 : Int32) / 32)), (7, .int 9), (0, .ref b), (1, .ref (ad 0))]) dL_law_611 rfl rfl (by decide) rfl ?_
                              refine oz_goto X (tgt := 56) dL_law_614 (by decide) ?_
                              exact oz_sub X [7, 8, 1, 0] (L2 := [(0, .ref b), (1, .ref (ad 0)), (5, .int 1), (6, .int (x6 + 1))]) rfl (ih _ (by omega) 1 (x6 + 1) s11)
                            · refine oz_aload_n X dL_law_593 rfl 7 rfl ?_
                              refine oz_iload X dL_law_594 5 rfl ?_
                              refine oz_iconst X (v := 3) dL_law_596 (by decide) ?_
                              refine oz_idiv X dL_law_597 (by decide) ?_
                              refine oz_callS X rfl (As := [.ref (ad 0), .int ((9 : Int32) / 3)]) (S := []) (mL_isRefused l hst D cI cZ ad ((9 : Int32) / 3)) gL_law_L_isRefused rfl rfl rfl hL_isRefused ⟨by decide, by decide⟩ rfl rfl (Nat.le_of_ble_eq_true rfl) dL_law_598 (by omega) (by decide) (by decide) (fun r17 s17 => ?_)
                              refine oz_if_eq X (tgt := 608) dL_law_601 (by decide) (fun q18 => ?_) (fun q18 => ?_)
                              · exact oz_none X
                              · refine oz_iconst X (v := 1) dL_law_604 (by decide) ?_
                                refine oz_goto X (tgt := 609) dL_law_605 (by decide) ?_
                                refine oz_istore X (L2 := [(5, .int 1), (11, .int (-1213)), (10, .int (((9 : Int32) / 32) - ((9 : Int32) / 32) / 5 * 5)), (9, .int ((9 : Int32) - (9 : Int32) / 32 * 32)), (8, .int ((9 : Int32) / 32)), (7, .int 9), (0, .ref b), (1, .ref (ad 0)), (6, .int x6)]) dL_law_609 (by decide) rfl ?_
                                refine oz_iinc X (q := 8) (v := x6 + 1) (L2 := [(6, .int (x6 + 1)), (5, .int 1), (11, .int (-1213)), (10, .int (((9 : Int32) / 32) - ((9 : Int32) / 32) / 5 * 5)), (9, .int ((9 : Int32) - (9 : Int32) / 32 * 32)), (8, .int ((9 : Int32) / 32)), (7, .int 9), (0, .ref b), (1, .ref (ad 0))]) dL_law_611 rfl rfl (by decide) rfl ?_
                                refine oz_goto X (tgt := 56) dL_law_614 (by decide) ?_
                                exact oz_sub X [7, 8, 1, 0] (L2 := [(0, .ref b), (1, .ref (ad 0)), (5, .int 1), (6, .int (x6 + 1))]) rfl (ih _ (by omega) 1 (x6 + 1) s17)
                          · refine oz_aload_n X dL_law_578 rfl 7 rfl ?_
                            refine oz_callS X rfl (As := [.ref (ad 0)]) (S := []) (mL_areFrames l hst D cI cZ ad) gL_law_L_areFrames rfl rfl rfl hL_areFrames ⟨by decide, by decide⟩ rfl rfl (Nat.le_of_ble_eq_true rfl) dL_law_579 (by omega) (by decide) (by decide) (fun r19 s19 => ?_)
                            refine oz_if_eq X (tgt := 608) dL_law_582 (by decide) (fun q20 => ?_) (fun q20 => ?_)
                            · exact oz_none X
                            · refine oz_iload X dL_law_585 8 rfl ?_
                              refine oz_bipush X (v := 22) dL_law_587 (by decide) ?_
                              refine oz_irem X dL_law_589 (by decide) ?_
                              refine oz_if_gt X (tgt := 604) dL_law_590 (by decide) (fun q21 => ?_) (fun q21 => ?_)
                              · refine oz_iconst X (v := 1) dL_law_604 (by decide) ?_
                                refine oz_goto X (tgt := 609) dL_law_605 (by decide) ?_
                                refine oz_istore X (L2 := [(5, .int 1), (11, .int (-1213)), (10, .int (((9 : Int32) / 32) - ((9 : Int32) / 32) / 5 * 5)), (9, .int ((9 : Int32) - (9 : Int32) / 32 * 32)), (8, .int ((9 : Int32) / 32)), (7, .int 9), (0, .ref b), (1, .ref (ad 0)), (6, .int x6)]) dL_law_609 (by decide) rfl ?_
                                refine oz_iinc X (q := 8) (v := x6 + 1) (L2 := [(6, .int (x6 + 1)), (5, .int 1), (11, .int (-1213)), (10, .int (((9 : Int32) / 32) - ((9 : Int32) / 32) / 5 * 5)), (9, .int ((9 : Int32) - (9 : Int32) / 32 * 32)), (8, .int ((9 : Int32) / 32)), (7, .int 9), (0, .ref b), (1, .ref (ad 0))]) dL_law_611 rfl rfl (by decide) rfl ?_
                                refine oz_goto X (tgt := 56) dL_law_614 (by decide) ?_
                                exact oz_sub X [7, 8, 1, 0] (L2 := [(0, .ref b), (1, .ref (ad 0)), (5, .int 1), (6, .int (x6 + 1))]) rfl (ih _ (by omega) 1 (x6 + 1) s19)
                              · refine oz_aload_n X dL_law_593 rfl 7 rfl ?_
                                refine oz_iload X dL_law_594 5 rfl ?_
                                refine oz_iconst X (v := 3) dL_law_596 (by decide) ?_
                                refine oz_idiv X dL_law_597 (by decide) ?_
                                refine oz_callS X rfl (As := [.ref (ad 0), .int ((9 : Int32) / 3)]) (S := []) (mL_isRefused l hst D cI cZ ad ((9 : Int32) / 3)) gL_law_L_isRefused rfl rfl rfl hL_isRefused ⟨by decide, by decide⟩ rfl rfl (Nat.le_of_ble_eq_true rfl) dL_law_598 (by omega) (by decide) (by decide) (fun r22 s22 => ?_)
                                refine oz_if_eq X (tgt := 608) dL_law_601 (by decide) (fun q23 => ?_) (fun q23 => ?_)
                                · exact oz_none X
                                · refine oz_iconst X (v := 1) dL_law_604 (by decide) ?_
                                  refine oz_goto X (tgt := 609) dL_law_605 (by decide) ?_
                                  refine oz_istore X (L2 := [(5, .int 1), (11, .int (-1213)), (10, .int (((9 : Int32) / 32) - ((9 : Int32) / 32) / 5 * 5)), (9, .int ((9 : Int32) - (9 : Int32) / 32 * 32)), (8, .int ((9 : Int32) / 32)), (7, .int 9), (0, .ref b), (1, .ref (ad 0)), (6, .int x6)]) dL_law_609 (by decide) rfl ?_
                                  refine oz_iinc X (q := 8) (v := x6 + 1) (L2 := [(6, .int (x6 + 1)), (5, .int 1), (11, .int (-1213)), (10, .int (((9 : Int32) / 32) - ((9 : Int32) / 32) / 5 * 5)), (9, .int ((9 : Int32) - (9 : Int32) / 32 * 32)), (8, .int ((9 : Int32) / 32)), (7, .int 9), (0, .ref b), (1, .ref (ad 0))]) dL_law_611 rfl rfl (by decide) rfl ?_
                                  refine oz_goto X (tgt := 56) dL_law_614 (by decide) ?_
                                  exact oz_sub X [7, 8, 1, 0] (L2 := [(0, .ref b), (1, .ref (ad 0)), (5, .int 1), (6, .int (x6 + 1))]) rfl (ih _ (by omega) 1 (x6 + 1) s22)
                      · exact oz_none X
              · exact oz_none X
            · exact oz_none X
          · exact oz_none X
  unfold FL_law
  refine oz_aload_n X dL_law_21 rfl 0 rfl ?_
  refine oz_iconst X (v := 0) dL_law_22 (by decide) ?_
  refine oz_callS X rfl (As := [.ref (ad 0), .int 0]) (S := []) (mL_isRefused l hst D cI cZ ad 0) gL_law_L_isRefused rfl rfl rfl hL_isRefused ⟨by decide, by decide⟩ rfl rfl (Nat.le_of_ble_eq_true rfl) dL_law_23 (by omega) (by decide) (by decide) (fun r24 s24 => ?_)
  refine oz_if_eq X (tgt := 50) dL_law_26 (by decide) (fun q25 => ?_) (fun q25 => ?_)
  · exact oz_none X
  · refine oz_aload_n X dL_law_29 rfl 0 rfl ?_
    refine oz_iconst X (v := 1) dL_law_30 (by decide) ?_
    refine oz_callS X rfl (As := [.ref (ad 0), .int 1]) (S := []) (mL_isRefused l hst D cI cZ ad 1) gL_law_L_isRefused rfl rfl rfl hL_isRefused ⟨by decide, by decide⟩ rfl rfl (Nat.le_of_ble_eq_true rfl) dL_law_31 (by omega) (by decide) (by decide) (fun r26 s26 => ?_)
    refine oz_if_eq X (tgt := 50) dL_law_34 (by decide) (fun q27 => ?_) (fun q27 => ?_)
    · exact oz_none X
    · refine oz_aload_n X dL_law_37 rfl 0 rfl ?_
      refine oz_callV X rfl (As := []) (S := []) (mX0_freeN l hst D cI cZ ad) gL_law_X0_free rfl rfl rfl hX0_freeN ⟨by decide, by decide⟩ rfl rfl (Nat.le_of_ble_eq_true rfl) dL_law_38 (by omega) (by decide) (by decide) (fun r28 s28 => ?_)
      refine oz_bipush X (v := 12) dL_law_41 (by decide) ?_
      refine oz_icmp_ne X (tgt := 50) dL_law_43 (by decide) (fun q29 => ?_) (fun q29 => ?_)
      · exact oz_none X
      · refine oz_iconst X (v := 1) dL_law_46 (by decide) ?_
        refine oz_goto X (tgt := 51) dL_law_47 (by decide) ?_
        refine oz_istore X (L2 := [(5, .int 1), (1, .ref (ad 0)), (0, .ref b)]) dL_law_51 (by decide) rfl ?_
        refine oz_iconst X (v := 0) dL_law_53 (by decide) ?_
        refine oz_istore X (L2 := [(6, .int 0), (5, .int 1), (1, .ref (ad 0)), (0, .ref b)]) dL_law_54 (by decide) rfl ?_
        exact oz_sub X [3, 2, 1, 0] (L2 := [(0, .ref b), (1, .ref (ad 0)), (5, .int 1), (6, .int 0)]) rfl (hc56 111 _ (by omega) 1 0 s28)
end
section
/-! THE CONSTRUCTOR -/
theorem ok_same {D : va_G} {cl : List vw_C} {tys : List (ClassId × FieldType)} {U : State} (h : va_K D cl tys U) {i j : Nat} {a b : ClassId} {ty : FieldType} (hi : tys[i]? = some (a, ty)) (hj : tys[j]? = some (b, ty)) (hty : ∀ C, ty ≠ .object C) : a = b := by
  have h1 := (h.2 i _ hi).2
  have h2 := (h.2 j _ hj).2
  cases ty with
  | object C => exact absurd rfl (hty C)
  | _ => exact Option.some.inj (h1.symm.trans h2)
theorem ok_set {A : Nat → Prop} {D : va_G} {cl : List vw_C} {ws : va_W} {q a : Nat} {e0 e : va_E} {H H1 : Heap} (hD : va_D A ws) (hP : va_P D cl ws H) (hq : ws[q]? = some (a, e0)) (hk : ∀ x : Nat, x < H.size → ¬ va_A [(a, e0)] H.size x → H1[x]? = H[x]?) (h1 : va_P D cl [(a, e)] H1) : va_P D cl (ws.set q (a, e)) H1 := by
  intro k x hx
  by_cases hkq : k = q
  · subst hkq
    have hlt := (List.getElem?_eq_some_iff.mp hq).1
    rw [List.getElem?_set_self hlt] at hx
    cases hx
    exact h1 0 _ rfl
  · rw [List.getElem?_set_ne (fun h => hkq h.symm)] at hx
    refine (hP k x hx).kept (hk x.1 (vx_lt hP hx) (fun h => ?_))
    rcases h with ⟨j, e2, hj⟩ | h
    · have hj0 : j = 0 := by have := (List.getElem?_eq_some_iff.mp hj).1; simp at this; omega
      subst hj0
      cases hj
      exact hkq (hD.1 k q x (x.1, e0) hx hq rfl)
    · have := vx_lt hP hx
      omega
def ok_fill (n : Nat) (v : Int32) (f : Nat → Int32) : Nat → Int32 := fun i => if i < n then v else f i
theorem ok_fill_succ (k : Nat) (v : Int32) (f : Nat → Int32) : upd (ok_fill k v f) k v = ok_fill (k + 1) v f := by
  funext i
  simp only [upd, ok_fill]
  by_cases h : i = k
  · subst h; simp
  · rw [if_neg h]
    by_cases h2 : i < k
    · rw [if_pos h2, if_pos (by omega)]
    · rw [if_neg h2, if_neg (by omega)]
theorem ok_fill_0 (v : Int32) (f : Nat → Int32) : ok_fill 0 v f = f := by funext i; simp [ok_fill]
set_option maxHeartbeats 4000000 in
set_option maxRecDepth 100000 in
/-- Arrays.fill: all numbers of the row are v -/
theorem ok_mfill (l : Launch) (D : va_G) (cI : ClassId) (a n sz : Nat) (f : Nat → Int32) (v : Int32) (hn : n < 1000) : Met l yJ7_fill_53178 wsJ7_fill_53178 { frames := 0, cells := 0, slots := 0, locals := 0 } (va_Pc [.ref a, .int v] (fun U => U.heap.size = sz ∧ va_P D vwCl [(a, .inl (cI, n, .inl f))] U.heap ∧ va_K D vwCl [(cI, .int)] U ∧ va_D (fun _ => True) [(a, .inl (cI, n, .inl f))])) (va_Qv (fun _ : Unit => True) (fun _ t => va_P D vwCl [(a, .inl (cI, n, .inl (ok_fill n v f)))] t.heap) (va_A [(a, .inl (cI, n, .inl f))] sz)) 0 0 (va_A [(a, .inl (cI, n, .inl f))] sz) := by
  refine Met.ofW (cc := cJ7_fill_53178) (maxL := 4) (ret := none) (by decide) rfl ?_
  intro p e s m args below meth c s₁ B hml hv
  obtain ⟨rfl, hsz, hP, hK, hD0⟩ := hv
  have hx := B.exec
  have hb := B.bytes
  have hr := B.returns
  have hts := atoms_spec (ws := wsJ7_fill_53178) B.pre
  have hlocks := B.notSynchronized
  subst hsz
  have hD := hD0.self (sz := s.heap.size)
  generalize hAe : va_A [(a, Sum.inl (cI, n, Sum.inl f))] s.heap.size = A at hD ⊢
  have hS : va_S A s.heap s.heap [] := va_S.rf
  have hl := lv_entry ([.ref a, .int v]) (n := 4) (Nat.le_of_ble_eq_true rfl)
  rw [lg_entry_eq]
  generalize (lg_sl ([.ref a, .int v]) ++ List.replicate (4 - (lg_sl ([.ref a, .int v])).length) Slot.unset).toArray = ls at hl ⊢
  have hl : lv_has ls 4 [(0, .ref a), (1, .int v)] := hl
  have loop : ∀ (fuel k : Nat) (H : Heap) (locs : List Loc) (ls : Array Slot), k ≤ n → n - k < fuel → va_P D vwCl [(a, .inl (cI, n, .inl (ok_fill k v f)))] H → va_D A [(a, .inl (cI, n, .inl (ok_fill k v f)))] → va_S A s.heap H locs → lv_has ls 4 [(0, .ref a), (1, .int v), (2, .int (nI k)), (3, .int (nI n))] → W p l e (headSpec wsJ7_fill_53178 { frames := 0, cells := 0, slots := 0, locals := 0 }).room s m #[Value.ref a, .int v] below meth c H locs 0 0 (MQ below (va_Qv (fun _ : Unit => True) (fun _ t => va_P D vwCl [(a, .inl (cI, n, .inl (ok_fill n v f)))] t.heap) A) #[Value.ref a, .int v] s 0 0 A) (F0 m 5 ls []) := by
    intro fuel
    induction fuel with
    | zero => intro k H locs ls h1 h2; omega
    | succ fuel ih =>
      intro k H locs ls hkn hf hP hD hS hl
      refine lv_iload_n hx hb dJ7_fill_53178_5 rfl (lv_at hl 2 rfl) ?_
      refine lv_iload_n hx hb dJ7_fill_53178_6 rfl (lv_at hl 3 rfl) ?_
      refine lv_icmp_ge (tgt := 20) hx hb dJ7_fill_53178_7 (by decide) (fun q1 => ?_) (fun q1 => ?_)
      · have hk : k = n := by
          have := (nI_leI (a := n) (b := k) (by omega) (by omega)).mp q1
          omega
        subst hk
        exact W.vret hx hb hr (fun t ht hW => ⟨⟨(), rfl, trivial, by rw [← ht] at hP; exact hP⟩, hS.F ht⟩) hS.2.2 dJ7_fill_53178_20 hlocks
      · have hk : k < n := by
          rcases Nat.lt_or_ge k n with h | h
          · exact h
          · exact absurd (nI_le h (by omega)) q1
        refine lv_aload_n hx hb dJ7_fill_53178_10 rfl (lv_at hl 0 rfl) ?_
        refine lv_iload_n hx hb dJ7_fill_53178_11 rfl (lv_at hl 2 rfl) ?_
        refine lv_iload_n hx hb dJ7_fill_53178_12 rfl (lv_at hl 1 rfl) ?_
        refine va_iast hx hb hK hP hD hS 0 0 rfl rfl (vp_in_nI hk (by omega)) dJ7_fill_53178_13 (fun H1 locs1 hP1 hD1 hS1 => ?_)
        have e1 : ([(a, Sum.inl (cI, n, Sum.inl (ok_fill k v f)))] : va_W).set 0 (a, Sum.inl (cI, n, Sum.inl (upd (ok_fill k v f) (nI k).toNatClampNeg v))) = [(a, Sum.inl (cI, n, Sum.inl (ok_fill (k + 1) v f)))] := by rw [nI_clamp (by omega), ok_fill_succ]; rfl
        rw [e1] at hP1 hD1
        refine lv_iinc (k := 2) (v := nI (k + 1)) (lv' := [(2, .int (nI (k + 1))), (0, .ref a), (1, .int v), (3, .int (nI n))]) hx hb dJ7_fill_53178_14 hl rfl (nI_1 k) (by decide) rfl (fun ls2 hl2 => ?_)
        refine lv_goto (tgt := 5) hx hb dJ7_fill_53178_17 (by decide) ?_
        exact ih (k + 1) H1 locs1 ls2 hk (by omega) hP1 hD1 hS1 (lv_sub hl2 [1, 2, 0, 3] rfl)
  refine lv_iconst (v := 0) hx hb dJ7_fill_53178_0 (by decide) ?_
  refine lv_istore_n (lv' := [(2, .int 0), (0, .ref a), (1, .int v)]) hx hb dJ7_fill_53178_1 rfl hl (by decide) rfl (fun ls hl => ?_)
  refine lv_aload_n hx hb dJ7_fill_53178_2 rfl (lv_at hl 1 rfl) ?_
  refine va_alen (v := nI n) hx hb hK hP 0 0 rfl rfl rfl dJ7_fill_53178_3 ?_
  refine lv_istore_n (lv' := [(3, .int (nI n)), (2, .int 0), (0, .ref a), (1, .int v)]) hx hb dJ7_fill_53178_4 rfl hl (by decide) rfl (fun ls hl => ?_)
  refine loop (n + 1) 0 s.heap [] ls (Nat.zero_le n) (by omega) (by rw [ok_fill_0]; exact hP) (by rw [ok_fill_0]; exact hD) hS (lv_sub hl [2, 3, 1, 0] rfl)
section OKF
variable {p : Program} {l : Launch} {e : Env} {R : Room} {s : State} {m : MethodId} {args : Array Value} {below : List Frame} {meth : Method} {c : Code} {H : Heap} {locs : List Loc} {cells slots : Nat} {Q : State → Prop}
variable {cc : ByteArray} {pc nL : Nat} {ls : Array Slot} {rest : List Value} {Ts : List Cond} {own : String} {D : va_G} {cI cZ : ClassId} {ci : Nat} {T : u_T} {N : Nat} {ly : LY} {ad : Nat → Nat} {A : Nat → Prop} {st : ST}
/-- a row of the object is filled -/
theorem ok_callfill (hx : p.tables.exec = Jvm.exec) (hb : c.code = cc) (hml : c.maxLocals = nL) (hown : s.vm.findClass own = some m.cls) (hts : ∀ w ∈ Ts, w.before args s = true) (hK : va_K D vwCl [(cI, .int), (cZ, .boolean)] s) (hP : va_P D vwCl (oz_wd ci cI cZ ad ly st) H) (hD : va_D A (oz_wd ci cI cZ ad ly st)) (hA : ∀ q, s.heap.size ≤ q → A q) (hS : va_S A s.heap H locs) (hlz : ls.size = nL)
    {j n index : Nat} {v : Int32} (hj : ly[j]? = some (n, false)) (hn0 : 0 < n) (hn : n < 1000) (g : GoodIn Ts (va_wsS own index yJ7_fill_53178 wsJ7_fill_53178)) (hR : 0 + 1 ≤ R.frames ∧ 8 + (4 + 11) + 0 ≤ R.locals) (hW : (rest.map fun v => v.category).sum ≤ 8) (d : decode cc pc = .ok (.invokestatic index, 3)) (hf : cells + 0 ≤ R.cells ∧ slots + 0 ≤ R.slots)
    (kk : ∀ (H1 : Heap) (locs1 : List Loc), va_P D vwCl (oz_wd ci cI cZ ad ly (oz_us st (j + 1) (ok_fill n v (st (j + 1))))) H1 → va_D A (oz_wd ci cI cZ ad ly (oz_us st (j + 1) (ok_fill n v (st (j + 1))))) → va_S A s.heap H1 locs1 → W p l e R s m args below meth c H1 locs1 cells slots Q (F0 m (pc + 3) ls rest)) : W p l e R s m args below meth c H locs cells slots Q (F0 m pc ls (.int v :: .ref (ad (j + 1)) :: rest)) := by
  obtain ⟨n0, rfl⟩ : ∃ n0, n = n0 + 1 := ⟨n - 1, by omega⟩
  obtain ⟨q, hq, -⟩ := oz_wd_get ci cI cZ ad ly st hj
  obtain ⟨q2, hq2, hset⟩ := oz_al_get cI cZ ad st ly 0 j hj
  have hq9 : (oz_wd ci cI cZ ad ly st)[q2 + 1]? = some (ad (j + 1), .inl (cI, n0 + 1, .inl (st (j + 1)))) := by
    rw [Nat.zero_add] at hq2
    exact hq2
  have hset9 : (oz_wd ci cI cZ ad ly st).set (q2 + 1) (ad (j + 1), .inl (cI, n0 + 1, .inl (ok_fill (n0 + 1) v (st (j + 1))))) = oz_wd ci cI cZ ad ly (oz_us st (j + 1) (ok_fill (n0 + 1) v (st (j + 1)))) := by
    have h := hset (ok_fill (n0 + 1) v (st (j + 1)))
    rw [Nat.zero_add] at h
    unfold oz_wd
    rw [List.set_cons_succ]
    have h2 : (oz_al cI cZ ad st 0 ly).set q2 (ad (j + 1), .inl (cI, n0 + 1, .inl (ok_fill (n0 + 1) v (st (j + 1))))) = oz_al cI cZ ad (oz_us st (j + 1) (ok_fill (n0 + 1) v (st (j + 1)))) 0 ly := h
    rw [h2, oz_fl_cong ad (st := st) (st2 := oz_us st (j + 1) (ok_fill (n0 + 1) v (st (j + 1)))) ly 0 (fun a _ => by rw [oz_us_ne st _ (by omega)])]
  have hP1 : va_P D vwCl [(ad (j + 1), .inl (cI, n0 + 1, .inl (st (j + 1))))] H := by
    intro k x hx
    have hk0 : k = 0 := by have := (List.getElem?_eq_some_iff.mp hx).1; simp at this; omega
    subst hk0
    cases hx
    exact hP _ _ hq9
  have hD1 : va_D A [(ad (j + 1), Sum.inl (cI, n0 + 1, Sum.inl (st (j + 1))))] := by
    refine ⟨fun i k x y hi hk hxy => ?_, fun k x hx => ?_⟩
    · have h1 := (List.getElem?_eq_some_iff.mp hi).1
      have h2 := (List.getElem?_eq_some_iff.mp hk).1
      simp at h1 h2
      omega
    · have hk0 : k = 0 := by have := (List.getElem?_eq_some_iff.mp hx).1; simp at this; omega
      subst hk0
      cases hx
      exact hD.2 _ _ hq9
  have hAA : ∀ x, va_A [(ad (j + 1), Sum.inl (cI, n0 + 1, Sum.inl (st (j + 1))))] H.size x → A x := fun x h => h.elim (fun ⟨k, e1, hk⟩ => hD1.2 k _ hk) (fun h => hA x (Nat.le_trans hS.1 h))
  refine va_callv (va_runS (As := [.ref (ad (j + 1)), .int v]) (rest := rest) ⟨hx, hb, hml, hown, hts⟩ (ok_mfill l D cI (ad (j + 1)) (n0 + 1) H.size (st (j + 1)) v hn) (va_cwS 2 hts g rfl rfl rfl (by decide +kernel) hR) ⟨fun a U g mk q => ?_, fun U hU hW2 => ⟨rfl, by rw [hU], by rw [hU]; exact hP1, va_K.moved hW2.alike (hK.sub [0] rfl), hD1.weaken (fun _ _ _ _ => trivial)⟩⟩ rfl rfl hlz rfl (lv_room hW) d hf) hS (fun x _ h => hAA x h) hAA (fun u t H1 locs1 ht hvm hp hB hz hkeep hS1 => ?_)
  · obtain ⟨q0, q1, qP, qK, qD⟩ := q
    exact ⟨q0, q1, qP, va_K.moved (u := U) (U := U.calling g mk a) (Vm.Alike.refl U.vm) qK, qD⟩
  · rw [ht] at hB
    have h9 := ok_set hD hP hq9 hkeep hB
    rw [hset9] at h9
    exact kk H1 locs1 h9 (oz_D_cong (oz_wd_fst ci cI cZ ad ly st _) hD) hS1
/-- a field of the object that points to a row -/
theorem ok_getA (hx : p.tables.exec = Jvm.exec) (hb : c.code = cc) (hts : ∀ w ∈ Ts, w.before args s = true) (hin : ∀ w ∈ u_ws own T N, w ∈ Ts) (hown : s.vm.findClass own = some m.cls) (hC : oz_C own ci T N ly) (hK : va_K D vwCl [(cI, .int), (cZ, .boolean)] s) (hP : va_P D vwCl (oz_wd ci cI cZ ad ly st) H) {j n index : Nat} {b : Bool} (hj : ly[j]? = some (n + 1, b)) (hlink : Cond.fieldLink own index own (T j).2.1 (T j).2.2.1 ∈ Ts) (d : decode cc pc = .ok (.getfield index, 3))
    (kk : W p l e R s m args below meth c H locs cells slots Q (F0 m (pc + 3) ls (.ref (ad (j + 1)) :: rest))) : W p l e R s m args below meth c H locs cells slots Q (F0 m pc ls (.ref (ad 0) :: rest)) := by
  have hjN : j < N := by rw [← hC.2.1]; exact (List.getElem?_eq_some_iff.mp hj).1
  refine va_get (ref := own) hx hb hts hin hown hK hP 0 (oz_wd_obj ci cI cZ ad ly st) hC.1 j hjN (hts _ hlink) (fun x h => by rw [hC.2.2.1 j hjN] at h; exact h) (v := .ref (ad (j + 1))) ?_ d kk
  rw [oz_fl_ref ad st ly 0 j hj, Nat.zero_add]
theorem ok_iast (hx : p.tables.exec = Jvm.exec) (hb : c.code = cc) (hK : va_K D vwCl [(cI, .int), (cZ, .boolean)] s) (hP : va_P D vwCl (oz_wd ci cI cZ ad ly st) H) (hD : va_D A (oz_wd ci cI cZ ad ly st)) (hS : va_S A s.heap H locs) {j n : Nat} {i v : Int32} (hj : ly[j]? = some (n, false)) (hn : 0 < n) (hi : vp_in i n) (d : decode cc pc = .ok (.iastore, 1))
    (kk : ∀ (H1 : Heap) (locs1 : List Loc), va_P D vwCl (oz_wd ci cI cZ ad ly (oz_se st (j + 1) i.toNatClampNeg v)) H1 → va_D A (oz_wd ci cI cZ ad ly (oz_se st (j + 1) i.toNatClampNeg v)) → va_S A s.heap H1 locs1 → W p l e R s m args below meth c H1 locs1 cells slots Q (F0 m (pc + 1) ls rest)) : W p l e R s m args below meth c H locs cells slots Q (F0 m pc ls (.int v :: .int i :: .ref (ad (j + 1)) :: rest)) := by
  obtain ⟨n0, rfl⟩ : ∃ n0, n = n0 + 1 := ⟨n - 1, by omega⟩
  obtain ⟨q, hq, hset⟩ := oz_wd_get ci cI cZ ad ly st hj
  refine va_iast hx hb hK hP hD hS q 0 hq rfl hi d (fun H1 locs1 hP1 hD1 hS1 => ?_)
  have e := hset i.toNatClampNeg v
  rw [e] at hP1 hD1
  exact kk H1 locs1 hP1 hD1 hS1
end OKF
def rmX0_init : Room := { frames := 1, cells := 14, slots := 380, locals := 23 }
abbrev ok_fsX0 : List Value := [.null, .null, .null, .null, .null, .null, .null, .null, .null, .null, .null, .null, .null, .null, .int 0, .int 0, .int 0, .int 0, .int 0]
def ok_sX0 : ST := fun a b => if a = 0 then (if b = 18 then (-1) else if b = 15 then 1 else 0) else 0
def ok_stX0 : ST := (oz_us (oz_us (oz_us (oz_us (oz_us ok_sX0 2 (ok_fill 5 20 (ok_sX0 2))) 3 (ok_fill 5 0 ((oz_us ok_sX0 2 (ok_fill 5 20 (ok_sX0 2))) 3))) 5 (ok_fill 12 (-1) ((oz_us (oz_us ok_sX0 2 (ok_fill 5 20 (ok_sX0 2))) 3 (ok_fill 5 0 ((oz_us ok_sX0 2 (ok_fill 5 20 (ok_sX0 2))) 3))) 5))) 6 (ok_fill 12 (-1) ((oz_us (oz_us (oz_us ok_sX0 2 (ok_fill 5 20 (ok_sX0 2))) 3 (ok_fill 5 0 ((oz_us ok_sX0 2 (ok_fill 5 20 (ok_sX0 2))) 3))) 5 (ok_fill 12 (-1) ((oz_us (oz_us ok_sX0 2 (ok_fill 5 20 (ok_sX0 2))) 3 (ok_fill 5 0 ((oz_us ok_sX0 2 (ok_fill 5 20 (ok_sX0 2))) 3))) 5))) 6))) 7 (ok_fill 12 (-1) ((oz_us (oz_us (oz_us (oz_us ok_sX0 2 (ok_fill 5 20 (ok_sX0 2))) 3 (ok_fill 5 0 ((oz_us ok_sX0 2 (ok_fill 5 20 (ok_sX0 2))) 3))) 5 (ok_fill 12 (-1) ((oz_us (oz_us ok_sX0 2 (ok_fill 5 20 (ok_sX0 2))) 3 (ok_fill 5 0 ((oz_us ok_sX0 2 (ok_fill 5 20 (ok_sX0 2))) 3))) 5))) 6 (ok_fill 12 (-1) ((oz_us (oz_us (oz_us ok_sX0 2 (ok_fill 5 20 (ok_sX0 2))) 3 (ok_fill 5 0 ((oz_us ok_sX0 2 (ok_fill 5 20 (ok_sX0 2))) 3))) 5 (ok_fill 12 (-1) ((oz_us (oz_us ok_sX0 2 (ok_fill 5 20 (ok_sX0 2))) 3 (ok_fill 5 0 ((oz_us ok_sX0 2 (ok_fill 5 20 (ok_sX0 2))) 3))) 5))) 6))) 7)))
set_option maxHeartbeats 4000000 in
set_option maxRecDepth 100000 in
theorem iX0 (l : Launch) (D : va_G) (cI cZ : ClassId) (h0 sz : Nat) : Met l yX0_init wsX0_init rmX0_init (va_Pc [.ref h0] (fun U => U.heap.size = sz ∧ va_P D vwCl [(h0, .inr (0, ok_fsX0))] U.heap ∧ va_K D vwCl [(cI, .int), (cZ, .boolean)] U ∧ va_D (fun _ => True) [(h0, .inr (0, ok_fsX0))])) (va_Qv (fun ad : Nat → Nat => ad 0 = h0) (fun ad t => va_P D vwCl (oz_wd 0 cI cZ ad oz_lyX0 ok_stX0) t.heap ∧ va_D (va_A [(h0, .inr (0, ok_fsX0))] sz) (oz_wd 0 cI cZ ad oz_lyX0 ok_stX0)) (va_A [(h0, .inr (0, ok_fsX0))] sz)) 14 380 (va_A [(h0, .inr (0, ok_fsX0))] sz) := by
  refine Met.ofW (cc := cX0_init) (maxL := 1) (ret := none) (by decide) rfl ?_
  intro p e s m args below meth c s₁ B hml hv
  obtain ⟨rfl, hsz, hP, hK, hD0⟩ := hv
  have hx := B.exec
  have hb := B.bytes
  have hr := B.returns
  have hts := atoms_spec (ws := wsX0_init) B.pre
  have hown : s.vm.findClass RX0 = some m.cls := findClass_of_methodNamed B.named
  have hlocks := B.notSynchronized
  have hin : meth.name = "<init>" := (name_of_methodNamed B.named B.method).1
  have hinw : ∀ w ∈ u_ws RX0 TX0 19, w ∈ wsX0_init := by decide +kernel
  subst hsz
  have hD := hD0.self (sz := s.heap.size)
  generalize hAe : va_A [(h0, .inr (0, ok_fsX0))] s.heap.size = A at hD ⊢
  have hA : ∀ q : Nat, s.heap.size ≤ q → A q := fun q h => by rw [← hAe]; exact Or.inr h
  have hS : va_S A s.heap s.heap [] := va_S.rf
  have hl := lv_entry ([.ref h0]) (n := 1) (Nat.le_of_ble_eq_true rfl)
  rw [lg_entry_eq]
  generalize (lg_sl ([.ref h0]) ++ List.replicate (1 - (lg_sl ([.ref h0])).length) Slot.unset).toArray = ls at hl ⊢
  have hl : lv_has ls 1 [(0, .ref h0)] := hl
  refine lv_aload_n hx hb dX0_init_0 rfl (lv_at hl 0 rfl) ?_
  refine W.objInit hx hb hown (hts (.methodLink RX0 3 objectInit) (by decide +kernel)) (hts (.instanceMethod objectInit) (by decide +kernel)) (hts (.code objectInit ⟨#[0xb1]⟩ 1 none) (by decide +kernel)) rfl (by rw [hml]; exact hl.1) rfl dX0_init_1 (Nat.le_of_ble_eq_true rfl) (Nat.le_of_ble_eq_true rfl) ?_
  refine W.eq (g2 := F0 m 4 ls []) rfl ?_
  refine lv_aload_n hx hb dX0_init_4 rfl (lv_at hl 0 rfl) ?_
  refine lv_iconst (v := 5) hx hb dX0_init_5 (by decide) ?_
  refine va_newa (atype := .int) (ty := .int) (N' := 5) (a0 := (5, .inl (fun _ => 0))) hx hb (hts (.arrayClass .int) (by decide +kernel)) rfl hK hP hD hS hA (fun _ => rfl) (by decide) rfl (Nat.le_of_ble_eq_true rfl) (by decide) (by decide) dX0_init_6 (fun q1 c1 H hK1 hP hD hS => ?_)
  obtain rfl := ok_same (i := 0) (j := 2) hK1 rfl rfl (fun _ h => by cases h)
  have hP : va_P D vwCl [(h0, .inr (0, [.null, .null, .null, .null, .null, .null, .null, .null, .null, .null, .null, .null, .null, .null, .int 0, .int 0, .int 0, .int 0, .int 0])), (q1, .inl (cI, 5, .inl (fun _ => 0)))] H := hP
  have hD : va_D A [(h0, .inr (0, [.null, .null, .null, .null, .null, .null, .null, .null, .null, .null, .null, .null, .null, .null, .int 0, .int 0, .int 0, .int 0, .int 0])), (q1, .inl (cI, 5, .inl (fun _ => 0)))] := hD
  refine va_putF (ci := 0) (v := .ref q1) (ty := .array .int) (C := RX0) (T := TX0) (N := 19) hx hb hts hinw tyX0 tyX0_ok nmX0 hown hK hP hD hS 0 rfl rfl 0 (by decide) (hts (.fieldLink RX0 9 "AlmsKernel" "wages" "[I") (by decide +kernel)) (fun _ h9 => h9) rfl hin rfl (by decide +kernel) rfl rfl (Nat.le_of_ble_eq_true rfl) dX0_init_8 (fun H locs hP hD hS => ?_)
  have hP : va_P D vwCl [(h0, .inr (0, [.ref q1, .null, .null, .null, .null, .null, .null, .null, .null, .null, .null, .null, .null, .null, .int 0, .int 0, .int 0, .int 0, .int 0])), (q1, .inl (cI, 5, .inl (fun _ => 0)))] H := hP
  have hD : va_D A [(h0, .inr (0, [.ref q1, .null, .null, .null, .null, .null, .null, .null, .null, .null, .null, .null, .null, .null, .int 0, .int 0, .int 0, .int 0, .int 0])), (q1, .inl (cI, 5, .inl (fun _ => 0)))] := hD
  refine lv_aload_n hx hb dX0_init_11 rfl (lv_at hl 0 rfl) ?_
  refine lv_iconst (v := 5) hx hb dX0_init_12 (by decide) ?_
  refine va_newa (atype := .int) (ty := .int) (N' := 5) (a0 := (5, .inl (fun _ => 0))) hx hb (hts (.arrayClass .int) (by decide +kernel)) rfl hK hP hD hS hA (fun _ => rfl) (by decide) rfl (Nat.le_of_ble_eq_true rfl) (by decide) (by decide) dX0_init_13 (fun q2 c2 H hK1 hP hD hS => ?_)
  obtain rfl := ok_same (i := 0) (j := 2) hK1 rfl rfl (fun _ h => by cases h)
  have hP : va_P D vwCl [(h0, .inr (0, [.ref q1, .null, .null, .null, .null, .null, .null, .null, .null, .null, .null, .null, .null, .null, .int 0, .int 0, .int 0, .int 0, .int 0])), (q1, .inl (cI, 5, .inl (fun _ => 0))), (q2, .inl (cI, 5, .inl (fun _ => 0)))] H := hP
  have hD : va_D A [(h0, .inr (0, [.ref q1, .null, .null, .null, .null, .null, .null, .null, .null, .null, .null, .null, .null, .null, .int 0, .int 0, .int 0, .int 0, .int 0])), (q1, .inl (cI, 5, .inl (fun _ => 0))), (q2, .inl (cI, 5, .inl (fun _ => 0)))] := hD
  refine va_putF (ci := 0) (v := .ref q2) (ty := .array .int) (C := RX0) (T := TX0) (N := 19) hx hb hts hinw tyX0 tyX0_ok nmX0 hown hK hP hD hS 0 rfl rfl 1 (by decide) (hts (.fieldLink RX0 13 "AlmsKernel" "purses" "[I") (by decide +kernel)) (fun _ h9 => h9) rfl hin rfl (by decide +kernel) rfl rfl (Nat.le_of_ble_eq_true rfl) dX0_init_15 (fun H locs hP hD hS => ?_)
  have hP : va_P D vwCl [(h0, .inr (0, [.ref q1, .ref q2, .null, .null, .null, .null, .null, .null, .null, .null, .null, .null, .null, .null, .int 0, .int 0, .int 0, .int 0, .int 0])), (q1, .inl (cI, 5, .inl (fun _ => 0))), (q2, .inl (cI, 5, .inl (fun _ => 0)))] H := hP
  have hD : va_D A [(h0, .inr (0, [.ref q1, .ref q2, .null, .null, .null, .null, .null, .null, .null, .null, .null, .null, .null, .null, .int 0, .int 0, .int 0, .int 0, .int 0])), (q1, .inl (cI, 5, .inl (fun _ => 0))), (q2, .inl (cI, 5, .inl (fun _ => 0)))] := hD
  refine lv_aload_n hx hb dX0_init_18 rfl (lv_at hl 0 rfl) ?_
  refine lv_iconst (v := 5) hx hb dX0_init_19 (by decide) ?_
  refine va_newa (atype := .int) (ty := .int) (N' := 5) (a0 := (5, .inl (fun _ => 0))) hx hb (hts (.arrayClass .int) (by decide +kernel)) rfl hK hP hD hS hA (fun _ => rfl) (by decide) rfl (Nat.le_of_ble_eq_true rfl) (by decide) (by decide) dX0_init_20 (fun q3 c3 H hK1 hP hD hS => ?_)
  obtain rfl := ok_same (i := 0) (j := 2) hK1 rfl rfl (fun _ h => by cases h)
  have hP : va_P D vwCl [(h0, .inr (0, [.ref q1, .ref q2, .null, .null, .null, .null, .null, .null, .null, .null, .null, .null, .null, .null, .int 0, .int 0, .int 0, .int 0, .int 0])), (q1, .inl (cI, 5, .inl (fun _ => 0))), (q2, .inl (cI, 5, .inl (fun _ => 0))), (q3, .inl (cI, 5, .inl (fun _ => 0)))] H := hP
  have hD : va_D A [(h0, .inr (0, [.ref q1, .ref q2, .null, .null, .null, .null, .null, .null, .null, .null, .null, .null, .null, .null, .int 0, .int 0, .int 0, .int 0, .int 0])), (q1, .inl (cI, 5, .inl (fun _ => 0))), (q2, .inl (cI, 5, .inl (fun _ => 0))), (q3, .inl (cI, 5, .inl (fun _ => 0)))] := hD
  refine va_putF (ci := 0) (v := .ref q3) (ty := .array .int) (C := RX0) (T := TX0) (N := 19) hx hb hts hinw tyX0 tyX0_ok nmX0 hown hK hP hD hS 0 rfl rfl 2 (by decide) (hts (.fieldLink RX0 16 "AlmsKernel" "states" "[I") (by decide +kernel)) (fun _ h9 => h9) rfl hin rfl (by decide +kernel) rfl rfl (Nat.le_of_ble_eq_true rfl) dX0_init_22 (fun H locs hP hD hS => ?_)
  have hP : va_P D vwCl [(h0, .inr (0, [.ref q1, .ref q2, .ref q3, .null, .null, .null, .null, .null, .null, .null, .null, .null, .null, .null, .int 0, .int 0, .int 0, .int 0, .int 0])), (q1, .inl (cI, 5, .inl (fun _ => 0))), (q2, .inl (cI, 5, .inl (fun _ => 0))), (q3, .inl (cI, 5, .inl (fun _ => 0)))] H := hP
  have hD : va_D A [(h0, .inr (0, [.ref q1, .ref q2, .ref q3, .null, .null, .null, .null, .null, .null, .null, .null, .null, .null, .null, .int 0, .int 0, .int 0, .int 0, .int 0])), (q1, .inl (cI, 5, .inl (fun _ => 0))), (q2, .inl (cI, 5, .inl (fun _ => 0))), (q3, .inl (cI, 5, .inl (fun _ => 0)))] := hD
  refine lv_aload_n hx hb dX0_init_25 rfl (lv_at hl 0 rfl) ?_
  refine lv_iconst (v := 5) hx hb dX0_init_26 (by decide) ?_
  refine va_newa (atype := .int) (ty := .int) (N' := 5) (a0 := (5, .inl (fun _ => 0))) hx hb (hts (.arrayClass .int) (by decide +kernel)) rfl hK hP hD hS hA (fun _ => rfl) (by decide) rfl (Nat.le_of_ble_eq_true rfl) (by decide) (by decide) dX0_init_27 (fun q4 c4 H hK1 hP hD hS => ?_)
  obtain rfl := ok_same (i := 0) (j := 2) hK1 rfl rfl (fun _ h => by cases h)
  have hP : va_P D vwCl [(h0, .inr (0, [.ref q1, .ref q2, .ref q3, .null, .null, .null, .null, .null, .null, .null, .null, .null, .null, .null, .int 0, .int 0, .int 0, .int 0, .int 0])), (q1, .inl (cI, 5, .inl (fun _ => 0))), (q2, .inl (cI, 5, .inl (fun _ => 0))), (q3, .inl (cI, 5, .inl (fun _ => 0))), (q4, .inl (cI, 5, .inl (fun _ => 0)))] H := hP
  have hD : va_D A [(h0, .inr (0, [.ref q1, .ref q2, .ref q3, .null, .null, .null, .null, .null, .null, .null, .null, .null, .null, .null, .int 0, .int 0, .int 0, .int 0, .int 0])), (q1, .inl (cI, 5, .inl (fun _ => 0))), (q2, .inl (cI, 5, .inl (fun _ => 0))), (q3, .inl (cI, 5, .inl (fun _ => 0))), (q4, .inl (cI, 5, .inl (fun _ => 0)))] := hD
  refine va_putF (ci := 0) (v := .ref q4) (ty := .array .int) (C := RX0) (T := TX0) (N := 19) hx hb hts hinw tyX0 tyX0_ok nmX0 hown hK hP hD hS 0 rfl rfl 3 (by decide) (hts (.fieldLink RX0 19 "AlmsKernel" "faultCounts" "[I") (by decide +kernel)) (fun _ h9 => h9) rfl hin rfl (by decide +kernel) rfl rfl (Nat.le_of_ble_eq_true rfl) dX0_init_29 (fun H locs hP hD hS => ?_)
  have hP : va_P D vwCl [(h0, .inr (0, [.ref q1, .ref q2, .ref q3, .ref q4, .null, .null, .null, .null, .null, .null, .null, .null, .null, .null, .int 0, .int 0, .int 0, .int 0, .int 0])), (q1, .inl (cI, 5, .inl (fun _ => 0))), (q2, .inl (cI, 5, .inl (fun _ => 0))), (q3, .inl (cI, 5, .inl (fun _ => 0))), (q4, .inl (cI, 5, .inl (fun _ => 0)))] H := hP
  have hD : va_D A [(h0, .inr (0, [.ref q1, .ref q2, .ref q3, .ref q4, .null, .null, .null, .null, .null, .null, .null, .null, .null, .null, .int 0, .int 0, .int 0, .int 0, .int 0])), (q1, .inl (cI, 5, .inl (fun _ => 0))), (q2, .inl (cI, 5, .inl (fun _ => 0))), (q3, .inl (cI, 5, .inl (fun _ => 0))), (q4, .inl (cI, 5, .inl (fun _ => 0)))] := hD
  refine lv_aload_n hx hb dX0_init_32 rfl (lv_at hl 0 rfl) ?_
  refine lv_bipush (v := 12) hx hb dX0_init_33 (by decide) ?_
  refine va_newa (atype := .int) (ty := .int) (N' := 12) (a0 := (12, .inl (fun _ => 0))) hx hb (hts (.arrayClass .int) (by decide +kernel)) rfl hK hP hD hS hA (fun _ => rfl) (by decide) rfl (Nat.le_of_ble_eq_true rfl) (by decide) (by decide) dX0_init_35 (fun q5 c5 H hK1 hP hD hS => ?_)
  obtain rfl := ok_same (i := 0) (j := 2) hK1 rfl rfl (fun _ h => by cases h)
  have hP : va_P D vwCl [(h0, .inr (0, [.ref q1, .ref q2, .ref q3, .ref q4, .null, .null, .null, .null, .null, .null, .null, .null, .null, .null, .int 0, .int 0, .int 0, .int 0, .int 0])), (q1, .inl (cI, 5, .inl (fun _ => 0))), (q2, .inl (cI, 5, .inl (fun _ => 0))), (q3, .inl (cI, 5, .inl (fun _ => 0))), (q4, .inl (cI, 5, .inl (fun _ => 0))), (q5, .inl (cI, 12, .inl (fun _ => 0)))] H := hP
  have hD : va_D A [(h0, .inr (0, [.ref q1, .ref q2, .ref q3, .ref q4, .null, .null, .null, .null, .null, .null, .null, .null, .null, .null, .int 0, .int 0, .int 0, .int 0, .int 0])), (q1, .inl (cI, 5, .inl (fun _ => 0))), (q2, .inl (cI, 5, .inl (fun _ => 0))), (q3, .inl (cI, 5, .inl (fun _ => 0))), (q4, .inl (cI, 5, .inl (fun _ => 0))), (q5, .inl (cI, 12, .inl (fun _ => 0)))] := hD
  refine va_putF (ci := 0) (v := .ref q5) (ty := .array .int) (C := RX0) (T := TX0) (N := 19) hx hb hts hinw tyX0 tyX0_ok nmX0 hown hK hP hD hS 0 rfl rfl 4 (by decide) (hts (.fieldLink RX0 22 "AlmsKernel" "owners" "[I") (by decide +kernel)) (fun _ h9 => h9) rfl hin rfl (by decide +kernel) rfl rfl (Nat.le_of_ble_eq_true rfl) dX0_init_37 (fun H locs hP hD hS => ?_)
  have hP : va_P D vwCl [(h0, .inr (0, [.ref q1, .ref q2, .ref q3, .ref q4, .ref q5, .null, .null, .null, .null, .null, .null, .null, .null, .null, .int 0, .int 0, .int 0, .int 0, .int 0])), (q1, .inl (cI, 5, .inl (fun _ => 0))), (q2, .inl (cI, 5, .inl (fun _ => 0))), (q3, .inl (cI, 5, .inl (fun _ => 0))), (q4, .inl (cI, 5, .inl (fun _ => 0))), (q5, .inl (cI, 12, .inl (fun _ => 0)))] H := hP
  have hD : va_D A [(h0, .inr (0, [.ref q1, .ref q2, .ref q3, .ref q4, .ref q5, .null, .null, .null, .null, .null, .null, .null, .null, .null, .int 0, .int 0, .int 0, .int 0, .int 0])), (q1, .inl (cI, 5, .inl (fun _ => 0))), (q2, .inl (cI, 5, .inl (fun _ => 0))), (q3, .inl (cI, 5, .inl (fun _ => 0))), (q4, .inl (cI, 5, .inl (fun _ => 0))), (q5, .inl (cI, 12, .inl (fun _ => 0)))] := hD
  refine lv_aload_n hx hb dX0_init_40 rfl (lv_at hl 0 rfl) ?_
  refine lv_bipush (v := 12) hx hb dX0_init_41 (by decide) ?_
  refine va_newa (atype := .int) (ty := .int) (N' := 12) (a0 := (12, .inl (fun _ => 0))) hx hb (hts (.arrayClass .int) (by decide +kernel)) rfl hK hP hD hS hA (fun _ => rfl) (by decide) rfl (Nat.le_of_ble_eq_true rfl) (by decide) (by decide) dX0_init_43 (fun q6 c6 H hK1 hP hD hS => ?_)
  obtain rfl := ok_same (i := 0) (j := 2) hK1 rfl rfl (fun _ h => by cases h)
  have hP : va_P D vwCl [(h0, .inr (0, [.ref q1, .ref q2, .ref q3, .ref q4, .ref q5, .null, .null, .null, .null, .null, .null, .null, .null, .null, .int 0, .int 0, .int 0, .int 0, .int 0])), (q1, .inl (cI, 5, .inl (fun _ => 0))), (q2, .inl (cI, 5, .inl (fun _ => 0))), (q3, .inl (cI, 5, .inl (fun _ => 0))), (q4, .inl (cI, 5, .inl (fun _ => 0))), (q5, .inl (cI, 12, .inl (fun _ => 0))), (q6, .inl (cI, 12, .inl (fun _ => 0)))] H := hP
  have hD : va_D A [(h0, .inr (0, [.ref q1, .ref q2, .ref q3, .ref q4, .ref q5, .null, .null, .null, .null, .null, .null, .null, .null, .null, .int 0, .int 0, .int 0, .int 0, .int 0])), (q1, .inl (cI, 5, .inl (fun _ => 0))), (q2, .inl (cI, 5, .inl (fun _ => 0))), (q3, .inl (cI, 5, .inl (fun _ => 0))), (q4, .inl (cI, 5, .inl (fun _ => 0))), (q5, .inl (cI, 12, .inl (fun _ => 0))), (q6, .inl (cI, 12, .inl (fun _ => 0)))] := hD
  refine va_putF (ci := 0) (v := .ref q6) (ty := .array .int) (C := RX0) (T := TX0) (N := 19) hx hb hts hinw tyX0 tyX0_ok nmX0 hown hK hP hD hS 0 rfl rfl 5 (by decide) (hts (.fieldLink RX0 25 "AlmsKernel" "holders" "[I") (by decide +kernel)) (fun _ h9 => h9) rfl hin rfl (by decide +kernel) rfl rfl (Nat.le_of_ble_eq_true rfl) dX0_init_45 (fun H locs hP hD hS => ?_)
  have hP : va_P D vwCl [(h0, .inr (0, [.ref q1, .ref q2, .ref q3, .ref q4, .ref q5, .ref q6, .null, .null, .null, .null, .null, .null, .null, .null, .int 0, .int 0, .int 0, .int 0, .int 0])), (q1, .inl (cI, 5, .inl (fun _ => 0))), (q2, .inl (cI, 5, .inl (fun _ => 0))), (q3, .inl (cI, 5, .inl (fun _ => 0))), (q4, .inl (cI, 5, .inl (fun _ => 0))), (q5, .inl (cI, 12, .inl (fun _ => 0))), (q6, .inl (cI, 12, .inl (fun _ => 0)))] H := hP
  have hD : va_D A [(h0, .inr (0, [.ref q1, .ref q2, .ref q3, .ref q4, .ref q5, .ref q6, .null, .null, .null, .null, .null, .null, .null, .null, .int 0, .int 0, .int 0, .int 0, .int 0])), (q1, .inl (cI, 5, .inl (fun _ => 0))), (q2, .inl (cI, 5, .inl (fun _ => 0))), (q3, .inl (cI, 5, .inl (fun _ => 0))), (q4, .inl (cI, 5, .inl (fun _ => 0))), (q5, .inl (cI, 12, .inl (fun _ => 0))), (q6, .inl (cI, 12, .inl (fun _ => 0)))] := hD
  refine lv_aload_n hx hb dX0_init_48 rfl (lv_at hl 0 rfl) ?_
  refine lv_bipush (v := 12) hx hb dX0_init_49 (by decide) ?_
  refine va_newa (atype := .int) (ty := .int) (N' := 12) (a0 := (12, .inl (fun _ => 0))) hx hb (hts (.arrayClass .int) (by decide +kernel)) rfl hK hP hD hS hA (fun _ => rfl) (by decide) rfl (Nat.le_of_ble_eq_true rfl) (by decide) (by decide) dX0_init_51 (fun q7 c7 H hK1 hP hD hS => ?_)
  obtain rfl := ok_same (i := 0) (j := 2) hK1 rfl rfl (fun _ h => by cases h)
  have hP : va_P D vwCl [(h0, .inr (0, [.ref q1, .ref q2, .ref q3, .ref q4, .ref q5, .ref q6, .null, .null, .null, .null, .null, .null, .null, .null, .int 0, .int 0, .int 0, .int 0, .int 0])), (q1, .inl (cI, 5, .inl (fun _ => 0))), (q2, .inl (cI, 5, .inl (fun _ => 0))), (q3, .inl (cI, 5, .inl (fun _ => 0))), (q4, .inl (cI, 5, .inl (fun _ => 0))), (q5, .inl (cI, 12, .inl (fun _ => 0))), (q6, .inl (cI, 12, .inl (fun _ => 0))), (q7, .inl (cI, 12, .inl (fun _ => 0)))] H := hP
  have hD : va_D A [(h0, .inr (0, [.ref q1, .ref q2, .ref q3, .ref q4, .ref q5, .ref q6, .null, .null, .null, .null, .null, .null, .null, .null, .int 0, .int 0, .int 0, .int 0, .int 0])), (q1, .inl (cI, 5, .inl (fun _ => 0))), (q2, .inl (cI, 5, .inl (fun _ => 0))), (q3, .inl (cI, 5, .inl (fun _ => 0))), (q4, .inl (cI, 5, .inl (fun _ => 0))), (q5, .inl (cI, 12, .inl (fun _ => 0))), (q6, .inl (cI, 12, .inl (fun _ => 0))), (q7, .inl (cI, 12, .inl (fun _ => 0)))] := hD
  refine va_putF (ci := 0) (v := .ref q7) (ty := .array .int) (C := RX0) (T := TX0) (N := 19) hx hb hts hinw tyX0 tyX0_ok nmX0 hown hK hP hD hS 0 rfl rfl 6 (by decide) (hts (.fieldLink RX0 28 "AlmsKernel" "pages" "[I") (by decide +kernel)) (fun _ h9 => h9) rfl hin rfl (by decide +kernel) rfl rfl (Nat.le_of_ble_eq_true rfl) dX0_init_53 (fun H locs hP hD hS => ?_)
  have hP : va_P D vwCl [(h0, .inr (0, [.ref q1, .ref q2, .ref q3, .ref q4, .ref q5, .ref q6, .ref q7, .null, .null, .null, .null, .null, .null, .null, .int 0, .int 0, .int 0, .int 0, .int 0])), (q1, .inl (cI, 5, .inl (fun _ => 0))), (q2, .inl (cI, 5, .inl (fun _ => 0))), (q3, .inl (cI, 5, .inl (fun _ => 0))), (q4, .inl (cI, 5, .inl (fun _ => 0))), (q5, .inl (cI, 12, .inl (fun _ => 0))), (q6, .inl (cI, 12, .inl (fun _ => 0))), (q7, .inl (cI, 12, .inl (fun _ => 0)))] H := hP
  have hD : va_D A [(h0, .inr (0, [.ref q1, .ref q2, .ref q3, .ref q4, .ref q5, .ref q6, .ref q7, .null, .null, .null, .null, .null, .null, .null, .int 0, .int 0, .int 0, .int 0, .int 0])), (q1, .inl (cI, 5, .inl (fun _ => 0))), (q2, .inl (cI, 5, .inl (fun _ => 0))), (q3, .inl (cI, 5, .inl (fun _ => 0))), (q4, .inl (cI, 5, .inl (fun _ => 0))), (q5, .inl (cI, 12, .inl (fun _ => 0))), (q6, .inl (cI, 12, .inl (fun _ => 0))), (q7, .inl (cI, 12, .inl (fun _ => 0)))] := hD
  refine lv_aload_n hx hb dX0_init_56 rfl (lv_at hl 0 rfl) ?_
  refine lv_bipush (v := 12) hx hb dX0_init_57 (by decide) ?_
  refine va_newa (atype := .boolean) (ty := .boolean) (N' := 12) (a0 := (12, .inl (fun _ => 0))) hx hb (hts (.arrayClass .boolean) (by decide +kernel)) rfl hK hP hD hS hA (fun _ => rfl) (by decide) rfl (Nat.le_of_ble_eq_true rfl) (by decide) (by decide) dX0_init_59 (fun q8 c8 H hK1 hP hD hS => ?_)
  obtain rfl := ok_same (i := 1) (j := 2) hK1 rfl rfl (fun _ h => by cases h)
  have hP : va_P D vwCl [(h0, .inr (0, [.ref q1, .ref q2, .ref q3, .ref q4, .ref q5, .ref q6, .ref q7, .null, .null, .null, .null, .null, .null, .null, .int 0, .int 0, .int 0, .int 0, .int 0])), (q1, .inl (cI, 5, .inl (fun _ => 0))), (q2, .inl (cI, 5, .inl (fun _ => 0))), (q3, .inl (cI, 5, .inl (fun _ => 0))), (q4, .inl (cI, 5, .inl (fun _ => 0))), (q5, .inl (cI, 12, .inl (fun _ => 0))), (q6, .inl (cI, 12, .inl (fun _ => 0))), (q7, .inl (cI, 12, .inl (fun _ => 0))), (q8, .inl (cZ, 12, .inl (fun _ => 0)))] H := hP
  have hD : va_D A [(h0, .inr (0, [.ref q1, .ref q2, .ref q3, .ref q4, .ref q5, .ref q6, .ref q7, .null, .null, .null, .null, .null, .null, .null, .int 0, .int 0, .int 0, .int 0, .int 0])), (q1, .inl (cI, 5, .inl (fun _ => 0))), (q2, .inl (cI, 5, .inl (fun _ => 0))), (q3, .inl (cI, 5, .inl (fun _ => 0))), (q4, .inl (cI, 5, .inl (fun _ => 0))), (q5, .inl (cI, 12, .inl (fun _ => 0))), (q6, .inl (cI, 12, .inl (fun _ => 0))), (q7, .inl (cI, 12, .inl (fun _ => 0))), (q8, .inl (cZ, 12, .inl (fun _ => 0)))] := hD
  refine va_putF (ci := 0) (v := .ref q8) (ty := .array .boolean) (C := RX0) (T := TX0) (N := 19) hx hb hts hinw tyX0 tyX0_ok nmX0 hown hK hP hD hS 0 rfl rfl 7 (by decide) (hts (.fieldLink RX0 31 "AlmsKernel" "there" "[Z") (by decide +kernel)) (fun _ h9 => h9) rfl hin rfl (by decide +kernel) rfl rfl (Nat.le_of_ble_eq_true rfl) dX0_init_61 (fun H locs hP hD hS => ?_)
  have hP : va_P D vwCl [(h0, .inr (0, [.ref q1, .ref q2, .ref q3, .ref q4, .ref q5, .ref q6, .ref q7, .ref q8, .null, .null, .null, .null, .null, .null, .int 0, .int 0, .int 0, .int 0, .int 0])), (q1, .inl (cI, 5, .inl (fun _ => 0))), (q2, .inl (cI, 5, .inl (fun _ => 0))), (q3, .inl (cI, 5, .inl (fun _ => 0))), (q4, .inl (cI, 5, .inl (fun _ => 0))), (q5, .inl (cI, 12, .inl (fun _ => 0))), (q6, .inl (cI, 12, .inl (fun _ => 0))), (q7, .inl (cI, 12, .inl (fun _ => 0))), (q8, .inl (cZ, 12, .inl (fun _ => 0)))] H := hP
  have hD : va_D A [(h0, .inr (0, [.ref q1, .ref q2, .ref q3, .ref q4, .ref q5, .ref q6, .ref q7, .ref q8, .null, .null, .null, .null, .null, .null, .int 0, .int 0, .int 0, .int 0, .int 0])), (q1, .inl (cI, 5, .inl (fun _ => 0))), (q2, .inl (cI, 5, .inl (fun _ => 0))), (q3, .inl (cI, 5, .inl (fun _ => 0))), (q4, .inl (cI, 5, .inl (fun _ => 0))), (q5, .inl (cI, 12, .inl (fun _ => 0))), (q6, .inl (cI, 12, .inl (fun _ => 0))), (q7, .inl (cI, 12, .inl (fun _ => 0))), (q8, .inl (cZ, 12, .inl (fun _ => 0)))] := hD
  refine lv_aload_n hx hb dX0_init_64 rfl (lv_at hl 0 rfl) ?_
  refine lv_bipush (v := 12) hx hb dX0_init_65 (by decide) ?_
  refine va_newa (atype := .int) (ty := .int) (N' := 12) (a0 := (12, .inl (fun _ => 0))) hx hb (hts (.arrayClass .int) (by decide +kernel)) rfl hK hP hD hS hA (fun _ => rfl) (by decide) rfl (Nat.le_of_ble_eq_true rfl) (by decide) (by decide) dX0_init_67 (fun q9 c9 H hK1 hP hD hS => ?_)
  obtain rfl := ok_same (i := 0) (j := 2) hK1 rfl rfl (fun _ h => by cases h)
  have hP : va_P D vwCl [(h0, .inr (0, [.ref q1, .ref q2, .ref q3, .ref q4, .ref q5, .ref q6, .ref q7, .ref q8, .null, .null, .null, .null, .null, .null, .int 0, .int 0, .int 0, .int 0, .int 0])), (q1, .inl (cI, 5, .inl (fun _ => 0))), (q2, .inl (cI, 5, .inl (fun _ => 0))), (q3, .inl (cI, 5, .inl (fun _ => 0))), (q4, .inl (cI, 5, .inl (fun _ => 0))), (q5, .inl (cI, 12, .inl (fun _ => 0))), (q6, .inl (cI, 12, .inl (fun _ => 0))), (q7, .inl (cI, 12, .inl (fun _ => 0))), (q8, .inl (cZ, 12, .inl (fun _ => 0))), (q9, .inl (cI, 12, .inl (fun _ => 0)))] H := hP
  have hD : va_D A [(h0, .inr (0, [.ref q1, .ref q2, .ref q3, .ref q4, .ref q5, .ref q6, .ref q7, .ref q8, .null, .null, .null, .null, .null, .null, .int 0, .int 0, .int 0, .int 0, .int 0])), (q1, .inl (cI, 5, .inl (fun _ => 0))), (q2, .inl (cI, 5, .inl (fun _ => 0))), (q3, .inl (cI, 5, .inl (fun _ => 0))), (q4, .inl (cI, 5, .inl (fun _ => 0))), (q5, .inl (cI, 12, .inl (fun _ => 0))), (q6, .inl (cI, 12, .inl (fun _ => 0))), (q7, .inl (cI, 12, .inl (fun _ => 0))), (q8, .inl (cZ, 12, .inl (fun _ => 0))), (q9, .inl (cI, 12, .inl (fun _ => 0)))] := hD
  refine va_putF (ci := 0) (v := .ref q9) (ty := .array .int) (C := RX0) (T := TX0) (N := 19) hx hb hts hinw tyX0 tyX0_ok nmX0 hown hK hP hD hS 0 rfl rfl 8 (by decide) (hts (.fieldLink RX0 35 "AlmsKernel" "touchTicks" "[I") (by decide +kernel)) (fun _ h9 => h9) rfl hin rfl (by decide +kernel) rfl rfl (Nat.le_of_ble_eq_true rfl) dX0_init_69 (fun H locs hP hD hS => ?_)
  have hP : va_P D vwCl [(h0, .inr (0, [.ref q1, .ref q2, .ref q3, .ref q4, .ref q5, .ref q6, .ref q7, .ref q8, .ref q9, .null, .null, .null, .null, .null, .int 0, .int 0, .int 0, .int 0, .int 0])), (q1, .inl (cI, 5, .inl (fun _ => 0))), (q2, .inl (cI, 5, .inl (fun _ => 0))), (q3, .inl (cI, 5, .inl (fun _ => 0))), (q4, .inl (cI, 5, .inl (fun _ => 0))), (q5, .inl (cI, 12, .inl (fun _ => 0))), (q6, .inl (cI, 12, .inl (fun _ => 0))), (q7, .inl (cI, 12, .inl (fun _ => 0))), (q8, .inl (cZ, 12, .inl (fun _ => 0))), (q9, .inl (cI, 12, .inl (fun _ => 0)))] H := hP
  have hD : va_D A [(h0, .inr (0, [.ref q1, .ref q2, .ref q3, .ref q4, .ref q5, .ref q6, .ref q7, .ref q8, .ref q9, .null, .null, .null, .null, .null, .int 0, .int 0, .int 0, .int 0, .int 0])), (q1, .inl (cI, 5, .inl (fun _ => 0))), (q2, .inl (cI, 5, .inl (fun _ => 0))), (q3, .inl (cI, 5, .inl (fun _ => 0))), (q4, .inl (cI, 5, .inl (fun _ => 0))), (q5, .inl (cI, 12, .inl (fun _ => 0))), (q6, .inl (cI, 12, .inl (fun _ => 0))), (q7, .inl (cI, 12, .inl (fun _ => 0))), (q8, .inl (cZ, 12, .inl (fun _ => 0))), (q9, .inl (cI, 12, .inl (fun _ => 0)))] := hD
  refine lv_aload_n hx hb dX0_init_72 rfl (lv_at hl 0 rfl) ?_
  refine lv_bipush (v := 60) hx hb dX0_init_73 (by decide) ?_
  refine va_newa (atype := .int) (ty := .int) (N' := 60) (a0 := (60, .inl (fun _ => 0))) hx hb (hts (.arrayClass .int) (by decide +kernel)) rfl hK hP hD hS hA (fun _ => rfl) (by decide) rfl (Nat.le_of_ble_eq_true rfl) (by decide) (by decide) dX0_init_75 (fun q10 c10 H hK1 hP hD hS => ?_)
  obtain rfl := ok_same (i := 0) (j := 2) hK1 rfl rfl (fun _ h => by cases h)
  have hP : va_P D vwCl [(h0, .inr (0, [.ref q1, .ref q2, .ref q3, .ref q4, .ref q5, .ref q6, .ref q7, .ref q8, .ref q9, .null, .null, .null, .null, .null, .int 0, .int 0, .int 0, .int 0, .int 0])), (q1, .inl (cI, 5, .inl (fun _ => 0))), (q2, .inl (cI, 5, .inl (fun _ => 0))), (q3, .inl (cI, 5, .inl (fun _ => 0))), (q4, .inl (cI, 5, .inl (fun _ => 0))), (q5, .inl (cI, 12, .inl (fun _ => 0))), (q6, .inl (cI, 12, .inl (fun _ => 0))), (q7, .inl (cI, 12, .inl (fun _ => 0))), (q8, .inl (cZ, 12, .inl (fun _ => 0))), (q9, .inl (cI, 12, .inl (fun _ => 0))), (q10, .inl (cI, 60, .inl (fun _ => 0)))] H := hP
  have hD : va_D A [(h0, .inr (0, [.ref q1, .ref q2, .ref q3, .ref q4, .ref q5, .ref q6, .ref q7, .ref q8, .ref q9, .null, .null, .null, .null, .null, .int 0, .int 0, .int 0, .int 0, .int 0])), (q1, .inl (cI, 5, .inl (fun _ => 0))), (q2, .inl (cI, 5, .inl (fun _ => 0))), (q3, .inl (cI, 5, .inl (fun _ => 0))), (q4, .inl (cI, 5, .inl (fun _ => 0))), (q5, .inl (cI, 12, .inl (fun _ => 0))), (q6, .inl (cI, 12, .inl (fun _ => 0))), (q7, .inl (cI, 12, .inl (fun _ => 0))), (q8, .inl (cZ, 12, .inl (fun _ => 0))), (q9, .inl (cI, 12, .inl (fun _ => 0))), (q10, .inl (cI, 60, .inl (fun _ => 0)))] := hD
  refine va_putF (ci := 0) (v := .ref q10) (ty := .array .int) (C := RX0) (T := TX0) (N := 19) hx hb hts hinw tyX0 tyX0_ok nmX0 hown hK hP hD hS 0 rfl rfl 9 (by decide) (hts (.fieldLink RX0 38 "AlmsKernel" "loanFrames" "[I") (by decide +kernel)) (fun _ h9 => h9) rfl hin rfl (by decide +kernel) rfl rfl (Nat.le_of_ble_eq_true rfl) dX0_init_77 (fun H locs hP hD hS => ?_)
  have hP : va_P D vwCl [(h0, .inr (0, [.ref q1, .ref q2, .ref q3, .ref q4, .ref q5, .ref q6, .ref q7, .ref q8, .ref q9, .ref q10, .null, .null, .null, .null, .int 0, .int 0, .int 0, .int 0, .int 0])), (q1, .inl (cI, 5, .inl (fun _ => 0))), (q2, .inl (cI, 5, .inl (fun _ => 0))), (q3, .inl (cI, 5, .inl (fun _ => 0))), (q4, .inl (cI, 5, .inl (fun _ => 0))), (q5, .inl (cI, 12, .inl (fun _ => 0))), (q6, .inl (cI, 12, .inl (fun _ => 0))), (q7, .inl (cI, 12, .inl (fun _ => 0))), (q8, .inl (cZ, 12, .inl (fun _ => 0))), (q9, .inl (cI, 12, .inl (fun _ => 0))), (q10, .inl (cI, 60, .inl (fun _ => 0)))] H := hP
  have hD : va_D A [(h0, .inr (0, [.ref q1, .ref q2, .ref q3, .ref q4, .ref q5, .ref q6, .ref q7, .ref q8, .ref q9, .ref q10, .null, .null, .null, .null, .int 0, .int 0, .int 0, .int 0, .int 0])), (q1, .inl (cI, 5, .inl (fun _ => 0))), (q2, .inl (cI, 5, .inl (fun _ => 0))), (q3, .inl (cI, 5, .inl (fun _ => 0))), (q4, .inl (cI, 5, .inl (fun _ => 0))), (q5, .inl (cI, 12, .inl (fun _ => 0))), (q6, .inl (cI, 12, .inl (fun _ => 0))), (q7, .inl (cI, 12, .inl (fun _ => 0))), (q8, .inl (cZ, 12, .inl (fun _ => 0))), (q9, .inl (cI, 12, .inl (fun _ => 0))), (q10, .inl (cI, 60, .inl (fun _ => 0)))] := hD
  refine lv_aload_n hx hb dX0_init_80 rfl (lv_at hl 0 rfl) ?_
  refine lv_bipush (v := 60) hx hb dX0_init_81 (by decide) ?_
  refine va_newa (atype := .int) (ty := .int) (N' := 60) (a0 := (60, .inl (fun _ => 0))) hx hb (hts (.arrayClass .int) (by decide +kernel)) rfl hK hP hD hS hA (fun _ => rfl) (by decide) rfl (Nat.le_of_ble_eq_true rfl) (by decide) (by decide) dX0_init_83 (fun q11 c11 H hK1 hP hD hS => ?_)
  obtain rfl := ok_same (i := 0) (j := 2) hK1 rfl rfl (fun _ h => by cases h)
  have hP : va_P D vwCl [(h0, .inr (0, [.ref q1, .ref q2, .ref q3, .ref q4, .ref q5, .ref q6, .ref q7, .ref q8, .ref q9, .ref q10, .null, .null, .null, .null, .int 0, .int 0, .int 0, .int 0, .int 0])), (q1, .inl (cI, 5, .inl (fun _ => 0))), (q2, .inl (cI, 5, .inl (fun _ => 0))), (q3, .inl (cI, 5, .inl (fun _ => 0))), (q4, .inl (cI, 5, .inl (fun _ => 0))), (q5, .inl (cI, 12, .inl (fun _ => 0))), (q6, .inl (cI, 12, .inl (fun _ => 0))), (q7, .inl (cI, 12, .inl (fun _ => 0))), (q8, .inl (cZ, 12, .inl (fun _ => 0))), (q9, .inl (cI, 12, .inl (fun _ => 0))), (q10, .inl (cI, 60, .inl (fun _ => 0))), (q11, .inl (cI, 60, .inl (fun _ => 0)))] H := hP
  have hD : va_D A [(h0, .inr (0, [.ref q1, .ref q2, .ref q3, .ref q4, .ref q5, .ref q6, .ref q7, .ref q8, .ref q9, .ref q10, .null, .null, .null, .null, .int 0, .int 0, .int 0, .int 0, .int 0])), (q1, .inl (cI, 5, .inl (fun _ => 0))), (q2, .inl (cI, 5, .inl (fun _ => 0))), (q3, .inl (cI, 5, .inl (fun _ => 0))), (q4, .inl (cI, 5, .inl (fun _ => 0))), (q5, .inl (cI, 12, .inl (fun _ => 0))), (q6, .inl (cI, 12, .inl (fun _ => 0))), (q7, .inl (cI, 12, .inl (fun _ => 0))), (q8, .inl (cZ, 12, .inl (fun _ => 0))), (q9, .inl (cI, 12, .inl (fun _ => 0))), (q10, .inl (cI, 60, .inl (fun _ => 0))), (q11, .inl (cI, 60, .inl (fun _ => 0)))] := hD
  refine va_putF (ci := 0) (v := .ref q11) (ty := .array .int) (C := RX0) (T := TX0) (N := 19) hx hb hts hinw tyX0 tyX0_ok nmX0 hown hK hP hD hS 0 rfl rfl 10 (by decide) (hts (.fieldLink RX0 41 "AlmsKernel" "lenders" "[I") (by decide +kernel)) (fun _ h9 => h9) rfl hin rfl (by decide +kernel) rfl rfl (Nat.le_of_ble_eq_true rfl) dX0_init_85 (fun H locs hP hD hS => ?_)
  have hP : va_P D vwCl [(h0, .inr (0, [.ref q1, .ref q2, .ref q3, .ref q4, .ref q5, .ref q6, .ref q7, .ref q8, .ref q9, .ref q10, .ref q11, .null, .null, .null, .int 0, .int 0, .int 0, .int 0, .int 0])), (q1, .inl (cI, 5, .inl (fun _ => 0))), (q2, .inl (cI, 5, .inl (fun _ => 0))), (q3, .inl (cI, 5, .inl (fun _ => 0))), (q4, .inl (cI, 5, .inl (fun _ => 0))), (q5, .inl (cI, 12, .inl (fun _ => 0))), (q6, .inl (cI, 12, .inl (fun _ => 0))), (q7, .inl (cI, 12, .inl (fun _ => 0))), (q8, .inl (cZ, 12, .inl (fun _ => 0))), (q9, .inl (cI, 12, .inl (fun _ => 0))), (q10, .inl (cI, 60, .inl (fun _ => 0))), (q11, .inl (cI, 60, .inl (fun _ => 0)))] H := hP
  have hD : va_D A [(h0, .inr (0, [.ref q1, .ref q2, .ref q3, .ref q4, .ref q5, .ref q6, .ref q7, .ref q8, .ref q9, .ref q10, .ref q11, .null, .null, .null, .int 0, .int 0, .int 0, .int 0, .int 0])), (q1, .inl (cI, 5, .inl (fun _ => 0))), (q2, .inl (cI, 5, .inl (fun _ => 0))), (q3, .inl (cI, 5, .inl (fun _ => 0))), (q4, .inl (cI, 5, .inl (fun _ => 0))), (q5, .inl (cI, 12, .inl (fun _ => 0))), (q6, .inl (cI, 12, .inl (fun _ => 0))), (q7, .inl (cI, 12, .inl (fun _ => 0))), (q8, .inl (cZ, 12, .inl (fun _ => 0))), (q9, .inl (cI, 12, .inl (fun _ => 0))), (q10, .inl (cI, 60, .inl (fun _ => 0))), (q11, .inl (cI, 60, .inl (fun _ => 0)))] := hD
  refine lv_aload_n hx hb dX0_init_88 rfl (lv_at hl 0 rfl) ?_
  refine lv_bipush (v := 60) hx hb dX0_init_89 (by decide) ?_
  refine va_newa (atype := .int) (ty := .int) (N' := 60) (a0 := (60, .inl (fun _ => 0))) hx hb (hts (.arrayClass .int) (by decide +kernel)) rfl hK hP hD hS hA (fun _ => rfl) (by decide) rfl (Nat.le_of_ble_eq_true rfl) (by decide) (by decide) dX0_init_91 (fun q12 c12 H hK1 hP hD hS => ?_)
  obtain rfl := ok_same (i := 0) (j := 2) hK1 rfl rfl (fun _ h => by cases h)
  have hP : va_P D vwCl [(h0, .inr (0, [.ref q1, .ref q2, .ref q3, .ref q4, .ref q5, .ref q6, .ref q7, .ref q8, .ref q9, .ref q10, .ref q11, .null, .null, .null, .int 0, .int 0, .int 0, .int 0, .int 0])), (q1, .inl (cI, 5, .inl (fun _ => 0))), (q2, .inl (cI, 5, .inl (fun _ => 0))), (q3, .inl (cI, 5, .inl (fun _ => 0))), (q4, .inl (cI, 5, .inl (fun _ => 0))), (q5, .inl (cI, 12, .inl (fun _ => 0))), (q6, .inl (cI, 12, .inl (fun _ => 0))), (q7, .inl (cI, 12, .inl (fun _ => 0))), (q8, .inl (cZ, 12, .inl (fun _ => 0))), (q9, .inl (cI, 12, .inl (fun _ => 0))), (q10, .inl (cI, 60, .inl (fun _ => 0))), (q11, .inl (cI, 60, .inl (fun _ => 0))), (q12, .inl (cI, 60, .inl (fun _ => 0)))] H := hP
  have hD : va_D A [(h0, .inr (0, [.ref q1, .ref q2, .ref q3, .ref q4, .ref q5, .ref q6, .ref q7, .ref q8, .ref q9, .ref q10, .ref q11, .null, .null, .null, .int 0, .int 0, .int 0, .int 0, .int 0])), (q1, .inl (cI, 5, .inl (fun _ => 0))), (q2, .inl (cI, 5, .inl (fun _ => 0))), (q3, .inl (cI, 5, .inl (fun _ => 0))), (q4, .inl (cI, 5, .inl (fun _ => 0))), (q5, .inl (cI, 12, .inl (fun _ => 0))), (q6, .inl (cI, 12, .inl (fun _ => 0))), (q7, .inl (cI, 12, .inl (fun _ => 0))), (q8, .inl (cZ, 12, .inl (fun _ => 0))), (q9, .inl (cI, 12, .inl (fun _ => 0))), (q10, .inl (cI, 60, .inl (fun _ => 0))), (q11, .inl (cI, 60, .inl (fun _ => 0))), (q12, .inl (cI, 60, .inl (fun _ => 0)))] := hD
  refine va_putF (ci := 0) (v := .ref q12) (ty := .array .int) (C := RX0) (T := TX0) (N := 19) hx hb hts hinw tyX0 tyX0_ok nmX0 hown hK hP hD hS 0 rfl rfl 11 (by decide) (hts (.fieldLink RX0 44 "AlmsKernel" "borrowers" "[I") (by decide +kernel)) (fun _ h9 => h9) rfl hin rfl (by decide +kernel) rfl rfl (Nat.le_of_ble_eq_true rfl) dX0_init_93 (fun H locs hP hD hS => ?_)
  have hP : va_P D vwCl [(h0, .inr (0, [.ref q1, .ref q2, .ref q3, .ref q4, .ref q5, .ref q6, .ref q7, .ref q8, .ref q9, .ref q10, .ref q11, .ref q12, .null, .null, .int 0, .int 0, .int 0, .int 0, .int 0])), (q1, .inl (cI, 5, .inl (fun _ => 0))), (q2, .inl (cI, 5, .inl (fun _ => 0))), (q3, .inl (cI, 5, .inl (fun _ => 0))), (q4, .inl (cI, 5, .inl (fun _ => 0))), (q5, .inl (cI, 12, .inl (fun _ => 0))), (q6, .inl (cI, 12, .inl (fun _ => 0))), (q7, .inl (cI, 12, .inl (fun _ => 0))), (q8, .inl (cZ, 12, .inl (fun _ => 0))), (q9, .inl (cI, 12, .inl (fun _ => 0))), (q10, .inl (cI, 60, .inl (fun _ => 0))), (q11, .inl (cI, 60, .inl (fun _ => 0))), (q12, .inl (cI, 60, .inl (fun _ => 0)))] H := hP
  have hD : va_D A [(h0, .inr (0, [.ref q1, .ref q2, .ref q3, .ref q4, .ref q5, .ref q6, .ref q7, .ref q8, .ref q9, .ref q10, .ref q11, .ref q12, .null, .null, .int 0, .int 0, .int 0, .int 0, .int 0])), (q1, .inl (cI, 5, .inl (fun _ => 0))), (q2, .inl (cI, 5, .inl (fun _ => 0))), (q3, .inl (cI, 5, .inl (fun _ => 0))), (q4, .inl (cI, 5, .inl (fun _ => 0))), (q5, .inl (cI, 12, .inl (fun _ => 0))), (q6, .inl (cI, 12, .inl (fun _ => 0))), (q7, .inl (cI, 12, .inl (fun _ => 0))), (q8, .inl (cZ, 12, .inl (fun _ => 0))), (q9, .inl (cI, 12, .inl (fun _ => 0))), (q10, .inl (cI, 60, .inl (fun _ => 0))), (q11, .inl (cI, 60, .inl (fun _ => 0))), (q12, .inl (cI, 60, .inl (fun _ => 0)))] := hD
  refine lv_aload_n hx hb dX0_init_96 rfl (lv_at hl 0 rfl) ?_
  refine lv_bipush (v := 60) hx hb dX0_init_97 (by decide) ?_
  refine va_newa (atype := .boolean) (ty := .boolean) (N' := 60) (a0 := (60, .inl (fun _ => 0))) hx hb (hts (.arrayClass .boolean) (by decide +kernel)) rfl hK hP hD hS hA (fun _ => rfl) (by decide) rfl (Nat.le_of_ble_eq_true rfl) (by decide) (by decide) dX0_init_99 (fun q13 c13 H hK1 hP hD hS => ?_)
  obtain rfl := ok_same (i := 1) (j := 2) hK1 rfl rfl (fun _ h => by cases h)
  have hP : va_P D vwCl [(h0, .inr (0, [.ref q1, .ref q2, .ref q3, .ref q4, .ref q5, .ref q6, .ref q7, .ref q8, .ref q9, .ref q10, .ref q11, .ref q12, .null, .null, .int 0, .int 0, .int 0, .int 0, .int 0])), (q1, .inl (cI, 5, .inl (fun _ => 0))), (q2, .inl (cI, 5, .inl (fun _ => 0))), (q3, .inl (cI, 5, .inl (fun _ => 0))), (q4, .inl (cI, 5, .inl (fun _ => 0))), (q5, .inl (cI, 12, .inl (fun _ => 0))), (q6, .inl (cI, 12, .inl (fun _ => 0))), (q7, .inl (cI, 12, .inl (fun _ => 0))), (q8, .inl (cZ, 12, .inl (fun _ => 0))), (q9, .inl (cI, 12, .inl (fun _ => 0))), (q10, .inl (cI, 60, .inl (fun _ => 0))), (q11, .inl (cI, 60, .inl (fun _ => 0))), (q12, .inl (cI, 60, .inl (fun _ => 0))), (q13, .inl (cZ, 60, .inl (fun _ => 0)))] H := hP
  have hD : va_D A [(h0, .inr (0, [.ref q1, .ref q2, .ref q3, .ref q4, .ref q5, .ref q6, .ref q7, .ref q8, .ref q9, .ref q10, .ref q11, .ref q12, .null, .null, .int 0, .int 0, .int 0, .int 0, .int 0])), (q1, .inl (cI, 5, .inl (fun _ => 0))), (q2, .inl (cI, 5, .inl (fun _ => 0))), (q3, .inl (cI, 5, .inl (fun _ => 0))), (q4, .inl (cI, 5, .inl (fun _ => 0))), (q5, .inl (cI, 12, .inl (fun _ => 0))), (q6, .inl (cI, 12, .inl (fun _ => 0))), (q7, .inl (cI, 12, .inl (fun _ => 0))), (q8, .inl (cZ, 12, .inl (fun _ => 0))), (q9, .inl (cI, 12, .inl (fun _ => 0))), (q10, .inl (cI, 60, .inl (fun _ => 0))), (q11, .inl (cI, 60, .inl (fun _ => 0))), (q12, .inl (cI, 60, .inl (fun _ => 0))), (q13, .inl (cZ, 60, .inl (fun _ => 0)))] := hD
  refine va_putF (ci := 0) (v := .ref q13) (ty := .array .boolean) (C := RX0) (T := TX0) (N := 19) hx hb hts hinw tyX0 tyX0_ok nmX0 hown hK hP hD hS 0 rfl rfl 12 (by decide) (hts (.fieldLink RX0 47 "AlmsKernel" "lasting" "[Z") (by decide +kernel)) (fun _ h9 => h9) rfl hin rfl (by decide +kernel) rfl rfl (Nat.le_of_ble_eq_true rfl) dX0_init_101 (fun H locs hP hD hS => ?_)
  have hP : va_P D vwCl [(h0, .inr (0, [.ref q1, .ref q2, .ref q3, .ref q4, .ref q5, .ref q6, .ref q7, .ref q8, .ref q9, .ref q10, .ref q11, .ref q12, .ref q13, .null, .int 0, .int 0, .int 0, .int 0, .int 0])), (q1, .inl (cI, 5, .inl (fun _ => 0))), (q2, .inl (cI, 5, .inl (fun _ => 0))), (q3, .inl (cI, 5, .inl (fun _ => 0))), (q4, .inl (cI, 5, .inl (fun _ => 0))), (q5, .inl (cI, 12, .inl (fun _ => 0))), (q6, .inl (cI, 12, .inl (fun _ => 0))), (q7, .inl (cI, 12, .inl (fun _ => 0))), (q8, .inl (cZ, 12, .inl (fun _ => 0))), (q9, .inl (cI, 12, .inl (fun _ => 0))), (q10, .inl (cI, 60, .inl (fun _ => 0))), (q11, .inl (cI, 60, .inl (fun _ => 0))), (q12, .inl (cI, 60, .inl (fun _ => 0))), (q13, .inl (cZ, 60, .inl (fun _ => 0)))] H := hP
  have hD : va_D A [(h0, .inr (0, [.ref q1, .ref q2, .ref q3, .ref q4, .ref q5, .ref q6, .ref q7, .ref q8, .ref q9, .ref q10, .ref q11, .ref q12, .ref q13, .null, .int 0, .int 0, .int 0, .int 0, .int 0])), (q1, .inl (cI, 5, .inl (fun _ => 0))), (q2, .inl (cI, 5, .inl (fun _ => 0))), (q3, .inl (cI, 5, .inl (fun _ => 0))), (q4, .inl (cI, 5, .inl (fun _ => 0))), (q5, .inl (cI, 12, .inl (fun _ => 0))), (q6, .inl (cI, 12, .inl (fun _ => 0))), (q7, .inl (cI, 12, .inl (fun _ => 0))), (q8, .inl (cZ, 12, .inl (fun _ => 0))), (q9, .inl (cI, 12, .inl (fun _ => 0))), (q10, .inl (cI, 60, .inl (fun _ => 0))), (q11, .inl (cI, 60, .inl (fun _ => 0))), (q12, .inl (cI, 60, .inl (fun _ => 0))), (q13, .inl (cZ, 60, .inl (fun _ => 0)))] := hD
  refine lv_aload_n hx hb dX0_init_104 rfl (lv_at hl 0 rfl) ?_
  refine lv_bipush (v := 60) hx hb dX0_init_105 (by decide) ?_
  refine va_newa (atype := .int) (ty := .int) (N' := 60) (a0 := (60, .inl (fun _ => 0))) hx hb (hts (.arrayClass .int) (by decide +kernel)) rfl hK hP hD hS hA (fun _ => rfl) (by decide) rfl (Nat.le_of_ble_eq_true rfl) (by decide) (by decide) dX0_init_107 (fun q14 c14 H hK1 hP hD hS => ?_)
  obtain rfl := ok_same (i := 0) (j := 2) hK1 rfl rfl (fun _ h => by cases h)
  have hP : va_P D vwCl [(h0, .inr (0, [.ref q1, .ref q2, .ref q3, .ref q4, .ref q5, .ref q6, .ref q7, .ref q8, .ref q9, .ref q10, .ref q11, .ref q12, .ref q13, .null, .int 0, .int 0, .int 0, .int 0, .int 0])), (q1, .inl (cI, 5, .inl (fun _ => 0))), (q2, .inl (cI, 5, .inl (fun _ => 0))), (q3, .inl (cI, 5, .inl (fun _ => 0))), (q4, .inl (cI, 5, .inl (fun _ => 0))), (q5, .inl (cI, 12, .inl (fun _ => 0))), (q6, .inl (cI, 12, .inl (fun _ => 0))), (q7, .inl (cI, 12, .inl (fun _ => 0))), (q8, .inl (cZ, 12, .inl (fun _ => 0))), (q9, .inl (cI, 12, .inl (fun _ => 0))), (q10, .inl (cI, 60, .inl (fun _ => 0))), (q11, .inl (cI, 60, .inl (fun _ => 0))), (q12, .inl (cI, 60, .inl (fun _ => 0))), (q13, .inl (cZ, 60, .inl (fun _ => 0))), (q14, .inl (cI, 60, .inl (fun _ => 0)))] H := hP
  have hD : va_D A [(h0, .inr (0, [.ref q1, .ref q2, .ref q3, .ref q4, .ref q5, .ref q6, .ref q7, .ref q8, .ref q9, .ref q10, .ref q11, .ref q12, .ref q13, .null, .int 0, .int 0, .int 0, .int 0, .int 0])), (q1, .inl (cI, 5, .inl (fun _ => 0))), (q2, .inl (cI, 5, .inl (fun _ => 0))), (q3, .inl (cI, 5, .inl (fun _ => 0))), (q4, .inl (cI, 5, .inl (fun _ => 0))), (q5, .inl (cI, 12, .inl (fun _ => 0))), (q6, .inl (cI, 12, .inl (fun _ => 0))), (q7, .inl (cI, 12, .inl (fun _ => 0))), (q8, .inl (cZ, 12, .inl (fun _ => 0))), (q9, .inl (cI, 12, .inl (fun _ => 0))), (q10, .inl (cI, 60, .inl (fun _ => 0))), (q11, .inl (cI, 60, .inl (fun _ => 0))), (q12, .inl (cI, 60, .inl (fun _ => 0))), (q13, .inl (cZ, 60, .inl (fun _ => 0))), (q14, .inl (cI, 60, .inl (fun _ => 0)))] := hD
  refine va_putF (ci := 0) (v := .ref q14) (ty := .array .int) (C := RX0) (T := TX0) (N := 19) hx hb hts hinw tyX0 tyX0_ok nmX0 hown hK hP hD hS 0 rfl rfl 13 (by decide) (hts (.fieldLink RX0 50 "AlmsKernel" "interests" "[I") (by decide +kernel)) (fun _ h9 => h9) rfl hin rfl (by decide +kernel) rfl rfl (Nat.le_of_ble_eq_true rfl) dX0_init_109 (fun H locs hP hD hS => ?_)
  have hP : va_P D vwCl [(h0, .inr (0, [.ref q1, .ref q2, .ref q3, .ref q4, .ref q5, .ref q6, .ref q7, .ref q8, .ref q9, .ref q10, .ref q11, .ref q12, .ref q13, .ref q14, .int 0, .int 0, .int 0, .int 0, .int 0])), (q1, .inl (cI, 5, .inl (fun _ => 0))), (q2, .inl (cI, 5, .inl (fun _ => 0))), (q3, .inl (cI, 5, .inl (fun _ => 0))), (q4, .inl (cI, 5, .inl (fun _ => 0))), (q5, .inl (cI, 12, .inl (fun _ => 0))), (q6, .inl (cI, 12, .inl (fun _ => 0))), (q7, .inl (cI, 12, .inl (fun _ => 0))), (q8, .inl (cZ, 12, .inl (fun _ => 0))), (q9, .inl (cI, 12, .inl (fun _ => 0))), (q10, .inl (cI, 60, .inl (fun _ => 0))), (q11, .inl (cI, 60, .inl (fun _ => 0))), (q12, .inl (cI, 60, .inl (fun _ => 0))), (q13, .inl (cZ, 60, .inl (fun _ => 0))), (q14, .inl (cI, 60, .inl (fun _ => 0)))] H := hP
  have hD : va_D A [(h0, .inr (0, [.ref q1, .ref q2, .ref q3, .ref q4, .ref q5, .ref q6, .ref q7, .ref q8, .ref q9, .ref q10, .ref q11, .ref q12, .ref q13, .ref q14, .int 0, .int 0, .int 0, .int 0, .int 0])), (q1, .inl (cI, 5, .inl (fun _ => 0))), (q2, .inl (cI, 5, .inl (fun _ => 0))), (q3, .inl (cI, 5, .inl (fun _ => 0))), (q4, .inl (cI, 5, .inl (fun _ => 0))), (q5, .inl (cI, 12, .inl (fun _ => 0))), (q6, .inl (cI, 12, .inl (fun _ => 0))), (q7, .inl (cI, 12, .inl (fun _ => 0))), (q8, .inl (cZ, 12, .inl (fun _ => 0))), (q9, .inl (cI, 12, .inl (fun _ => 0))), (q10, .inl (cI, 60, .inl (fun _ => 0))), (q11, .inl (cI, 60, .inl (fun _ => 0))), (q12, .inl (cI, 60, .inl (fun _ => 0))), (q13, .inl (cZ, 60, .inl (fun _ => 0))), (q14, .inl (cI, 60, .inl (fun _ => 0)))] := hD
  refine lv_aload_n hx hb dX0_init_112 rfl (lv_at hl 0 rfl) ?_
  refine lv_iconst (v := 0) hx hb dX0_init_113 (by decide) ?_
  refine va_put (ci := 0) (v := .int 0) (ty := .int) (C := RX0) (T := TX0) (N := 19) hx hb hts hinw tyX0 tyX0_ok nmX0 hown hK hP hD hS 0 rfl rfl 14 (by decide) (hts (.fieldLink RX0 53 "AlmsKernel" "loanCount" "I") (by decide +kernel)) (fun _ h9 => h9) rfl (by decide +kernel) rfl rfl (Nat.le_of_ble_eq_true rfl) dX0_init_114 (fun H locs hP hD hS => ?_)
  have hP : va_P D vwCl [(h0, .inr (0, [.ref q1, .ref q2, .ref q3, .ref q4, .ref q5, .ref q6, .ref q7, .ref q8, .ref q9, .ref q10, .ref q11, .ref q12, .ref q13, .ref q14, .int 0, .int 0, .int 0, .int 0, .int 0])), (q1, .inl (cI, 5, .inl (fun _ => 0))), (q2, .inl (cI, 5, .inl (fun _ => 0))), (q3, .inl (cI, 5, .inl (fun _ => 0))), (q4, .inl (cI, 5, .inl (fun _ => 0))), (q5, .inl (cI, 12, .inl (fun _ => 0))), (q6, .inl (cI, 12, .inl (fun _ => 0))), (q7, .inl (cI, 12, .inl (fun _ => 0))), (q8, .inl (cZ, 12, .inl (fun _ => 0))), (q9, .inl (cI, 12, .inl (fun _ => 0))), (q10, .inl (cI, 60, .inl (fun _ => 0))), (q11, .inl (cI, 60, .inl (fun _ => 0))), (q12, .inl (cI, 60, .inl (fun _ => 0))), (q13, .inl (cZ, 60, .inl (fun _ => 0))), (q14, .inl (cI, 60, .inl (fun _ => 0)))] H := hP
  have hD : va_D A [(h0, .inr (0, [.ref q1, .ref q2, .ref q3, .ref q4, .ref q5, .ref q6, .ref q7, .ref q8, .ref q9, .ref q10, .ref q11, .ref q12, .ref q13, .ref q14, .int 0, .int 0, .int 0, .int 0, .int 0])), (q1, .inl (cI, 5, .inl (fun _ => 0))), (q2, .inl (cI, 5, .inl (fun _ => 0))), (q3, .inl (cI, 5, .inl (fun _ => 0))), (q4, .inl (cI, 5, .inl (fun _ => 0))), (q5, .inl (cI, 12, .inl (fun _ => 0))), (q6, .inl (cI, 12, .inl (fun _ => 0))), (q7, .inl (cI, 12, .inl (fun _ => 0))), (q8, .inl (cZ, 12, .inl (fun _ => 0))), (q9, .inl (cI, 12, .inl (fun _ => 0))), (q10, .inl (cI, 60, .inl (fun _ => 0))), (q11, .inl (cI, 60, .inl (fun _ => 0))), (q12, .inl (cI, 60, .inl (fun _ => 0))), (q13, .inl (cZ, 60, .inl (fun _ => 0))), (q14, .inl (cI, 60, .inl (fun _ => 0)))] := hD
  refine lv_aload_n hx hb dX0_init_117 rfl (lv_at hl 0 rfl) ?_
  refine lv_iconst (v := 1) hx hb dX0_init_118 (by decide) ?_
  refine va_put (ci := 0) (v := .int 1) (ty := .int) (C := RX0) (T := TX0) (N := 19) hx hb hts hinw tyX0 tyX0_ok nmX0 hown hK hP hD hS 0 rfl rfl 15 (by decide) (hts (.fieldLink RX0 57 "AlmsKernel" "rate" "I") (by decide +kernel)) (fun _ h9 => h9) rfl (by decide +kernel) rfl rfl (Nat.le_of_ble_eq_true rfl) dX0_init_119 (fun H locs hP hD hS => ?_)
  have hP : va_P D vwCl [(h0, .inr (0, [.ref q1, .ref q2, .ref q3, .ref q4, .ref q5, .ref q6, .ref q7, .ref q8, .ref q9, .ref q10, .ref q11, .ref q12, .ref q13, .ref q14, .int 0, .int 1, .int 0, .int 0, .int 0])), (q1, .inl (cI, 5, .inl (fun _ => 0))), (q2, .inl (cI, 5, .inl (fun _ => 0))), (q3, .inl (cI, 5, .inl (fun _ => 0))), (q4, .inl (cI, 5, .inl (fun _ => 0))), (q5, .inl (cI, 12, .inl (fun _ => 0))), (q6, .inl (cI, 12, .inl (fun _ => 0))), (q7, .inl (cI, 12, .inl (fun _ => 0))), (q8, .inl (cZ, 12, .inl (fun _ => 0))), (q9, .inl (cI, 12, .inl (fun _ => 0))), (q10, .inl (cI, 60, .inl (fun _ => 0))), (q11, .inl (cI, 60, .inl (fun _ => 0))), (q12, .inl (cI, 60, .inl (fun _ => 0))), (q13, .inl (cZ, 60, .inl (fun _ => 0))), (q14, .inl (cI, 60, .inl (fun _ => 0)))] H := hP
  have hD : va_D A [(h0, .inr (0, [.ref q1, .ref q2, .ref q3, .ref q4, .ref q5, .ref q6, .ref q7, .ref q8, .ref q9, .ref q10, .ref q11, .ref q12, .ref q13, .ref q14, .int 0, .int 1, .int 0, .int 0, .int 0])), (q1, .inl (cI, 5, .inl (fun _ => 0))), (q2, .inl (cI, 5, .inl (fun _ => 0))), (q3, .inl (cI, 5, .inl (fun _ => 0))), (q4, .inl (cI, 5, .inl (fun _ => 0))), (q5, .inl (cI, 12, .inl (fun _ => 0))), (q6, .inl (cI, 12, .inl (fun _ => 0))), (q7, .inl (cI, 12, .inl (fun _ => 0))), (q8, .inl (cZ, 12, .inl (fun _ => 0))), (q9, .inl (cI, 12, .inl (fun _ => 0))), (q10, .inl (cI, 60, .inl (fun _ => 0))), (q11, .inl (cI, 60, .inl (fun _ => 0))), (q12, .inl (cI, 60, .inl (fun _ => 0))), (q13, .inl (cZ, 60, .inl (fun _ => 0))), (q14, .inl (cI, 60, .inl (fun _ => 0)))] := hD
  refine lv_aload_n hx hb dX0_init_122 rfl (lv_at hl 0 rfl) ?_
  refine lv_iconst (v := 0) hx hb dX0_init_123 (by decide) ?_
  refine va_put (ci := 0) (v := .int 0) (ty := .int) (C := RX0) (T := TX0) (N := 19) hx hb hts hinw tyX0 tyX0_ok nmX0 hown hK hP hD hS 0 rfl rfl 16 (by decide) (hts (.fieldLink RX0 60 "AlmsKernel" "now" "I") (by decide +kernel)) (fun _ h9 => h9) rfl (by decide +kernel) rfl rfl (Nat.le_of_ble_eq_true rfl) dX0_init_124 (fun H locs hP hD hS => ?_)
  have hP : va_P D vwCl [(h0, .inr (0, [.ref q1, .ref q2, .ref q3, .ref q4, .ref q5, .ref q6, .ref q7, .ref q8, .ref q9, .ref q10, .ref q11, .ref q12, .ref q13, .ref q14, .int 0, .int 1, .int 0, .int 0, .int 0])), (q1, .inl (cI, 5, .inl (fun _ => 0))), (q2, .inl (cI, 5, .inl (fun _ => 0))), (q3, .inl (cI, 5, .inl (fun _ => 0))), (q4, .inl (cI, 5, .inl (fun _ => 0))), (q5, .inl (cI, 12, .inl (fun _ => 0))), (q6, .inl (cI, 12, .inl (fun _ => 0))), (q7, .inl (cI, 12, .inl (fun _ => 0))), (q8, .inl (cZ, 12, .inl (fun _ => 0))), (q9, .inl (cI, 12, .inl (fun _ => 0))), (q10, .inl (cI, 60, .inl (fun _ => 0))), (q11, .inl (cI, 60, .inl (fun _ => 0))), (q12, .inl (cI, 60, .inl (fun _ => 0))), (q13, .inl (cZ, 60, .inl (fun _ => 0))), (q14, .inl (cI, 60, .inl (fun _ => 0)))] H := hP
  have hD : va_D A [(h0, .inr (0, [.ref q1, .ref q2, .ref q3, .ref q4, .ref q5, .ref q6, .ref q7, .ref q8, .ref q9, .ref q10, .ref q11, .ref q12, .ref q13, .ref q14, .int 0, .int 1, .int 0, .int 0, .int 0])), (q1, .inl (cI, 5, .inl (fun _ => 0))), (q2, .inl (cI, 5, .inl (fun _ => 0))), (q3, .inl (cI, 5, .inl (fun _ => 0))), (q4, .inl (cI, 5, .inl (fun _ => 0))), (q5, .inl (cI, 12, .inl (fun _ => 0))), (q6, .inl (cI, 12, .inl (fun _ => 0))), (q7, .inl (cI, 12, .inl (fun _ => 0))), (q8, .inl (cZ, 12, .inl (fun _ => 0))), (q9, .inl (cI, 12, .inl (fun _ => 0))), (q10, .inl (cI, 60, .inl (fun _ => 0))), (q11, .inl (cI, 60, .inl (fun _ => 0))), (q12, .inl (cI, 60, .inl (fun _ => 0))), (q13, .inl (cZ, 60, .inl (fun _ => 0))), (q14, .inl (cI, 60, .inl (fun _ => 0)))] := hD
  refine lv_aload_n hx hb dX0_init_127 rfl (lv_at hl 0 rfl) ?_
  refine lv_iconst (v := 0) hx hb dX0_init_128 (by decide) ?_
  refine va_put (ci := 0) (v := .int 0) (ty := .int) (C := RX0) (T := TX0) (N := 19) hx hb hts hinw tyX0 tyX0_ok nmX0 hown hK hP hD hS 0 rfl rfl 17 (by decide) (hts (.fieldLink RX0 63 "AlmsKernel" "headTrack" "I") (by decide +kernel)) (fun _ h9 => h9) rfl (by decide +kernel) rfl rfl (Nat.le_of_ble_eq_true rfl) dX0_init_129 (fun H locs hP hD hS => ?_)
  have hP : va_P D vwCl [(h0, .inr (0, [.ref q1, .ref q2, .ref q3, .ref q4, .ref q5, .ref q6, .ref q7, .ref q8, .ref q9, .ref q10, .ref q11, .ref q12, .ref q13, .ref q14, .int 0, .int 1, .int 0, .int 0, .int 0])), (q1, .inl (cI, 5, .inl (fun _ => 0))), (q2, .inl (cI, 5, .inl (fun _ => 0))), (q3, .inl (cI, 5, .inl (fun _ => 0))), (q4, .inl (cI, 5, .inl (fun _ => 0))), (q5, .inl (cI, 12, .inl (fun _ => 0))), (q6, .inl (cI, 12, .inl (fun _ => 0))), (q7, .inl (cI, 12, .inl (fun _ => 0))), (q8, .inl (cZ, 12, .inl (fun _ => 0))), (q9, .inl (cI, 12, .inl (fun _ => 0))), (q10, .inl (cI, 60, .inl (fun _ => 0))), (q11, .inl (cI, 60, .inl (fun _ => 0))), (q12, .inl (cI, 60, .inl (fun _ => 0))), (q13, .inl (cZ, 60, .inl (fun _ => 0))), (q14, .inl (cI, 60, .inl (fun _ => 0)))] H := hP
  have hD : va_D A [(h0, .inr (0, [.ref q1, .ref q2, .ref q3, .ref q4, .ref q5, .ref q6, .ref q7, .ref q8, .ref q9, .ref q10, .ref q11, .ref q12, .ref q13, .ref q14, .int 0, .int 1, .int 0, .int 0, .int 0])), (q1, .inl (cI, 5, .inl (fun _ => 0))), (q2, .inl (cI, 5, .inl (fun _ => 0))), (q3, .inl (cI, 5, .inl (fun _ => 0))), (q4, .inl (cI, 5, .inl (fun _ => 0))), (q5, .inl (cI, 12, .inl (fun _ => 0))), (q6, .inl (cI, 12, .inl (fun _ => 0))), (q7, .inl (cI, 12, .inl (fun _ => 0))), (q8, .inl (cZ, 12, .inl (fun _ => 0))), (q9, .inl (cI, 12, .inl (fun _ => 0))), (q10, .inl (cI, 60, .inl (fun _ => 0))), (q11, .inl (cI, 60, .inl (fun _ => 0))), (q12, .inl (cI, 60, .inl (fun _ => 0))), (q13, .inl (cZ, 60, .inl (fun _ => 0))), (q14, .inl (cI, 60, .inl (fun _ => 0)))] := hD
  refine lv_aload_n hx hb dX0_init_132 rfl (lv_at hl 0 rfl) ?_
  refine lv_iconst (v := (-1)) hx hb dX0_init_133 (by decide) ?_
  refine va_put (ci := 0) (v := .int (-1)) (ty := .int) (C := RX0) (T := TX0) (N := 19) hx hb hts hinw tyX0 tyX0_ok nmX0 hown hK hP hD hS 0 rfl rfl 18 (by decide) (hts (.fieldLink RX0 66 "AlmsKernel" "chosenFrame" "I") (by decide +kernel)) (fun _ h9 => h9) rfl (by decide +kernel) rfl rfl (Nat.le_of_ble_eq_true rfl) dX0_init_134 (fun H locs hP hD hS => ?_)
  have hP : va_P D vwCl [(h0, .inr (0, [.ref q1, .ref q2, .ref q3, .ref q4, .ref q5, .ref q6, .ref q7, .ref q8, .ref q9, .ref q10, .ref q11, .ref q12, .ref q13, .ref q14, .int 0, .int 1, .int 0, .int 0, .int (-1)])), (q1, .inl (cI, 5, .inl (fun _ => 0))), (q2, .inl (cI, 5, .inl (fun _ => 0))), (q3, .inl (cI, 5, .inl (fun _ => 0))), (q4, .inl (cI, 5, .inl (fun _ => 0))), (q5, .inl (cI, 12, .inl (fun _ => 0))), (q6, .inl (cI, 12, .inl (fun _ => 0))), (q7, .inl (cI, 12, .inl (fun _ => 0))), (q8, .inl (cZ, 12, .inl (fun _ => 0))), (q9, .inl (cI, 12, .inl (fun _ => 0))), (q10, .inl (cI, 60, .inl (fun _ => 0))), (q11, .inl (cI, 60, .inl (fun _ => 0))), (q12, .inl (cI, 60, .inl (fun _ => 0))), (q13, .inl (cZ, 60, .inl (fun _ => 0))), (q14, .inl (cI, 60, .inl (fun _ => 0)))] H := hP
  have hD : va_D A [(h0, .inr (0, [.ref q1, .ref q2, .ref q3, .ref q4, .ref q5, .ref q6, .ref q7, .ref q8, .ref q9, .ref q10, .ref q11, .ref q12, .ref q13, .ref q14, .int 0, .int 1, .int 0, .int 0, .int (-1)])), (q1, .inl (cI, 5, .inl (fun _ => 0))), (q2, .inl (cI, 5, .inl (fun _ => 0))), (q3, .inl (cI, 5, .inl (fun _ => 0))), (q4, .inl (cI, 5, .inl (fun _ => 0))), (q5, .inl (cI, 12, .inl (fun _ => 0))), (q6, .inl (cI, 12, .inl (fun _ => 0))), (q7, .inl (cI, 12, .inl (fun _ => 0))), (q8, .inl (cZ, 12, .inl (fun _ => 0))), (q9, .inl (cI, 12, .inl (fun _ => 0))), (q10, .inl (cI, 60, .inl (fun _ => 0))), (q11, .inl (cI, 60, .inl (fun _ => 0))), (q12, .inl (cI, 60, .inl (fun _ => 0))), (q13, .inl (cZ, 60, .inl (fun _ => 0))), (q14, .inl (cI, 60, .inl (fun _ => 0)))] := hD
  obtain ⟨ad, had⟩ : ∃ ad : Nat → Nat, ad = fun k => [h0, q1, q2, q3, q4, q5, q6, q7, q8, q9, q10, q11, q12, q13, q14, 0, 0, 0, 0, 0].getD k 0 := ⟨_, rfl⟩
  have hP : va_P D vwCl (oz_wd 0 cI cZ ad oz_lyX0 ok_sX0) H := by subst had; exact hP
  have hD : va_D A (oz_wd 0 cI cZ ad oz_lyX0 ok_sX0) := by subst had; exact hD
  have h0e : h0 = ad 0 := by subst had; rfl
  clear had
  have hl : lv_has ls 1 [(0, .ref (ad 0))] := by rw [← h0e]; exact hl
  refine lv_aload_n hx hb dX0_init_137 rfl (lv_at hl 0 rfl) ?_
  refine ok_getA (T := TX0) (N := 19) (j := 1) hx hb hts hinw hown oz_CX0 hK hP rfl (by decide +kernel) dX0_init_138 ?_
  refine lv_bipush (v := 20) hx hb dX0_init_141 (by decide) ?_
  refine ok_callfill (j := 1) (n := 5) (v := 20) hx hb hml hown hts hK hP hD hA hS hl.1 rfl (by decide) (by decide) gX0_init_J7_fill_53178 ⟨by decide, by decide⟩ (Nat.le_of_ble_eq_true rfl) dX0_init_143 ⟨by decide, by decide⟩ (fun H locs hP hD hS => ?_)
  refine lv_aload_n hx hb dX0_init_146 rfl (lv_at hl 0 rfl) ?_
  refine ok_getA (T := TX0) (N := 19) (j := 2) hx hb hts hinw hown oz_CX0 hK hP rfl (by decide +kernel) dX0_init_147 ?_
  refine lv_iconst (v := 0) hx hb dX0_init_150 (by decide) ?_
  refine ok_callfill (j := 2) (n := 5) (v := 0) hx hb hml hown hts hK hP hD hA hS hl.1 rfl (by decide) (by decide) gX0_init_J7_fill_53178 ⟨by decide, by decide⟩ (Nat.le_of_ble_eq_true rfl) dX0_init_151 ⟨by decide, by decide⟩ (fun H locs hP hD hS => ?_)
  refine lv_aload_n hx hb dX0_init_154 rfl (lv_at hl 0 rfl) ?_
  refine ok_getA (T := TX0) (N := 19) (j := 4) hx hb hts hinw hown oz_CX0 hK hP rfl (by decide +kernel) dX0_init_155 ?_
  refine lv_iconst (v := (-1)) hx hb dX0_init_158 (by decide) ?_
  refine ok_callfill (j := 4) (n := 12) (v := (-1)) hx hb hml hown hts hK hP hD hA hS hl.1 rfl (by decide) (by decide) gX0_init_J7_fill_53178 ⟨by decide, by decide⟩ (Nat.le_of_ble_eq_true rfl) dX0_init_159 ⟨by decide, by decide⟩ (fun H locs hP hD hS => ?_)
  refine lv_aload_n hx hb dX0_init_162 rfl (lv_at hl 0 rfl) ?_
  refine ok_getA (T := TX0) (N := 19) (j := 5) hx hb hts hinw hown oz_CX0 hK hP rfl (by decide +kernel) dX0_init_163 ?_
  refine lv_iconst (v := (-1)) hx hb dX0_init_166 (by decide) ?_
  refine ok_callfill (j := 5) (n := 12) (v := (-1)) hx hb hml hown hts hK hP hD hA hS hl.1 rfl (by decide) (by decide) gX0_init_J7_fill_53178 ⟨by decide, by decide⟩ (Nat.le_of_ble_eq_true rfl) dX0_init_167 ⟨by decide, by decide⟩ (fun H locs hP hD hS => ?_)
  refine lv_aload_n hx hb dX0_init_170 rfl (lv_at hl 0 rfl) ?_
  refine ok_getA (T := TX0) (N := 19) (j := 6) hx hb hts hinw hown oz_CX0 hK hP rfl (by decide +kernel) dX0_init_171 ?_
  refine lv_iconst (v := (-1)) hx hb dX0_init_174 (by decide) ?_
  refine ok_callfill (j := 6) (n := 12) (v := (-1)) hx hb hml hown hts hK hP hD hA hS hl.1 rfl (by decide) (by decide) gX0_init_J7_fill_53178 ⟨by decide, by decide⟩ (Nat.le_of_ble_eq_true rfl) dX0_init_175 ⟨by decide, by decide⟩ (fun H locs hP hD hS => ?_)
  exact W.vret hx hb hr (fun t ht hW => ⟨⟨ad, rfl, h0e.symm, by rw [← ht] at hP; exact hP, hD⟩, hS.F ht⟩) hS.2.2 dX0_init_178 hlocks
end
section
/-! THE OBJECT AS THE CONSTRUCTOR MAKES IT, AND WHAT THE WALK COMES TO -/
theorem FX_eq : ok_stX0 = FX := by
  funext a
  match a with
  | 0 => rfl
  | 1 => rfl
  | 2 => rfl
  | 3 =>
    funext b
    show (if b < 5 then (0 : Int32) else 0) = 0
    split <;> rfl
  | 4 => rfl
  | 5 => rfl
  | 6 => rfl
  | 7 => rfl
  | n + 8 =>
    show ok_stX0 (n + 8) = fun _ => 0
    funext b
    simp [ok_stX0, oz_us, ok_sX0]
set_option maxHeartbeats 40000000 in
set_option maxRecDepth 100000 in
theorem ev_ref0 : FL_isRefused 0 0 = some (0, 1, 49) := by decide +kernel
set_option maxHeartbeats 40000000 in
set_option maxRecDepth 100000 in
theorem ev_fra : FL_areFrames 7 = some (0, 1, 7) := by decide +kernel
end
section
/-! THE LAW ON THE NINES: it answers 1, and 453 throwables are made -/
set_option maxHeartbeats 400000000 in
set_option maxRecDepth 1000000 in
theorem ev_law : FL_law 0 = some (0, 1, 453) := by decide +kernel
end
section
/-! THE LAW FROM ITS ENTRY, IN A ROOM THAT IS LARGE ENOUGH -/
theorem ok_arrI {args : Array Value} {s : State} (h : (Cond.arrayClass .int).before args s = true) : ∃ cA : ClassId, ArrOfT s cA .int ∧ va_RA s cA .int := by
  obtain ⟨cA, kA, comp, hfind, hk, hkind⟩ := Cond.arrayClass_spec h
  exact ⟨cA, fun n z => ⟨fun k h => (by cases h), kA, hk, comp, hkind⟩, hfind⟩
theorem ok_arrZ {args : Array Value} {s : State} (h : (Cond.arrayClass .boolean).before args s = true) : ∃ cA : ClassId, ArrOfT s cA .boolean ∧ va_RA s cA .boolean := by
  obtain ⟨cA, kA, comp, hfind, hk, hkind⟩ := Cond.arrayClass_spec h
  exact ⟨cA, fun n z => ⟨fun k h => (by cases h), kA, hk, comp, hkind⟩, hfind⟩
theorem st_tI : Cond.arrayClass .int ∈ lw_tbl := by decide +kernel
theorem st_tZ : Cond.arrayClass .boolean ∈ lw_tbl := by decide +kernel
theorem st_ks : ∀ q ∈ oz_KSX0, Cond.stringRef RX0 q.1 q.2 ∈ lw_tbl ∧ Cond.exactly (.string RX0 q.1) "java/lang/String" ∈ flatC (Jvm.Cond.and given_1 narrow_1) := by decide +kernel
theorem st_bx : ∀ w ∈ oz_BX, w ∈ lw_tbl := by decide +kernel
theorem st_nc1 : Cond.not (.castable "java/lang/IllegalStateException" "java/lang/IndexOutOfBoundsException") ∈ flatC (Jvm.Cond.and given_1 narrow_1) := by decide +kernel
theorem st_nc2 : Cond.not (.castable "java/lang/IllegalArgumentException" "java/lang/IndexOutOfBoundsException") ∈ flatC (Jvm.Cond.and given_1 narrow_1) := by decide +kernel
theorem st_nc3 : Cond.not (.castable "java/lang/IllegalStateException" "java/lang/IllegalArgumentException") ∈ flatC (Jvm.Cond.and given_1 narrow_1) := by decide +kernel
theorem st_r1 : Cond.isRef (.static Bundle.tN "UNASSIGNED_STACK" Bundle.steD) ∈ flatC (Jvm.Cond.and given_1 narrow_1) := by decide +kernel
theorem st_r2 : Cond.isRef (.static Bundle.tN "SUPPRESSED_SENTINEL" Bundle.listD) ∈ flatC (Jvm.Cond.and given_1 narrow_1) := by decide +kernel
theorem st_l1 : Cond.laysStatic Bundle.tN "UNASSIGNED_STACK" Bundle.steD ∈ lw_tbl := by decide +kernel
theorem st_l2 : Cond.laysStatic Bundle.tN "SUPPRESSED_SENTINEL" Bundle.listD ∈ lw_tbl := by decide +kernel
theorem st_i : Cond.initialized Bundle.tN ∈ lw_tbl := by decide +kernel
theorem st_k0 : Cond.instantiable RX0 19 ∈ lw_tbl := by decide +kernel
theorem st_z0 : Cond.initialized RX0 ∈ lw_tbl := by decide +kernel
theorem st_c0 : Cond.classLink RL 10 RX0 ∈ lw_tbl := by decide +kernel
theorem st_m0 : Cond.methodLink RL 151 yX0_init ∈ lw_tbl := by decide +kernel
theorem st_n0 : Cond.instanceMethod yX0_init ∈ lw_tbl := by decide +kernel
theorem oz_fl_ad {ad ad2 : Nat → Nat} (st : ST) : ∀ (ly : LY) (j : Nat), (∀ k, k ≤ j + ly.length → ad k = ad2 k) → oz_fl ad st j ly = oz_fl ad2 st j ly
  | [], _, _ => rfl
  | (0, _) :: r, j, h => by simp only [oz_fl]; rw [oz_fl_ad st r (j + 1) (fun k q => h k (by simp only [List.length_cons]; omega))]
  | (_ + 1, _) :: r, j, h => by
    simp only [oz_fl]
    rw [oz_fl_ad st r (j + 1) (fun k q => h k (by simp only [List.length_cons]; omega)), h (j + 1) (by simp only [List.length_cons]; omega)]
theorem oz_al_ad (cI cZ : ClassId) {ad ad2 : Nat → Nat} (st : ST) : ∀ (ly : LY) (j : Nat), (∀ k, k ≤ j + ly.length → ad k = ad2 k) → oz_al cI cZ ad st j ly = oz_al cI cZ ad2 st j ly
  | [], _, _ => rfl
  | (0, _) :: r, j, h => by simp only [oz_al]; exact oz_al_ad cI cZ st r (j + 1) (fun k q => h k (by simp only [List.length_cons]; omega))
  | (_ + 1, _) :: r, j, h => by
    simp only [oz_al]
    rw [oz_al_ad cI cZ st r (j + 1) (fun k q => h k (by simp only [List.length_cons]; omega)), h (j + 1) (by simp only [List.length_cons]; omega)]
theorem oz_wd_ad (ci : Nat) (cI cZ : ClassId) {ad ad2 : Nat → Nat} (ly : LY) (st : ST) (h : ∀ k, k ≤ ly.length → ad k = ad2 k) : oz_wd ci cI cZ ad ly st = oz_wd ci cI cZ ad2 ly st := by
  unfold oz_wd
  rw [oz_fl_ad st ly 0 (fun k q => h k (by omega)), oz_al_ad cI cZ st ly 0 (fun k q => h k (by omega)), h 0 (Nat.zero_le _)]
theorem ow_P_l {D : va_G} {cl : List vw_C} {a b : va_W} {H : Heap} (h : va_P D cl (a ++ b) H) : va_P D cl a H := fun k q hk => h k q (by rw [List.getElem?_append_left (List.getElem?_eq_some_iff.mp hk).1]; exact hk)
/-- what is come to: the law has ended, and the heap has 453 cells more at the least -/
def nl_Z (below : List Frame) (s : State) : State → Prop := fun t => ∃ o, t.status = .running ∧ Ended t below o ∧ s.heap.size + 453 ≤ t.heap.size
theorem nl_mono {p : Program} {l : Launch} {e : Env} {R : Room} {s : State} {m : MethodId} {args : Array Value} {below : List Frame} {meth : Method} {c : Code} {H : Heap} {locs : List Loc} {cells slots : Nat} {Q Q2 : State → Prop} {g : JFrame} (h : ∀ t, Q t → Q2 t) (k : W p l e R s m args below meth c H locs cells slots Q g) : W p l e R s m args below meth c H locs cells slots Q2 g := fun T hT X => (k T hT X).elim fun t q => ⟨t, q.1, h t q.2⟩
def nl_At (p : Program) (s : State) (m : MethodId) (meth : Method) (c : Code) (b L : Nat) (xs : Nat → Int32) : Prop :=
  p.tables.exec = Jvm.exec ∧ c.code = code ∧ meth.sig.returnType = ret ∧ c.maxLocals = 14 ∧ s.vm.findClass RL = some m.cls ∧ (∀ w ∈ lw_tbl, w.before #[Value.ref b] s = true) ∧ va_X b L xs s s.heap ∧ b < s.heap.size ∧ meth.locks = false ∧ (Jvm.Cond.and given_1 narrow_1).before #[Value.ref b] s = true ∧ (∀ x ∈ c.exceptionTable.toList, False)
set_option maxHeartbeats 4000000 in
set_option maxRecDepth 100000 in
theorem nl_start {p : Program} {e : Env} {s : State} {m : MethodId} {below : List Frame} {meth : Method} {c : Code} (l : Launch) (hflags : l.flags = flags0) {b : Nat} {xs : Nat → Int32} (hxs : ∀ i : Int32, oz_in i 110 = true → xs i.toNatClampNeg = 9) (C0 : nl_At p s m meth c b 110 xs) : W p l e lawR s m #[Value.ref b] below meth c s.heap [] 0 0 (nl_Z below s) (entryFrame m ([Value.ref b] : List Value).toArray 14) := by
  obtain ⟨hx, hb, hr, hml, hown, hts0, hX, hbl, hlocks, hgv, hex⟩ := id C0
  have htab : c.exceptionTable.toList = ([] : List (Nat × Nat × Nat × Nat)).map (fun h => { startPc := h.1, endPc := h.2.1, handlerPc := h.2.2.1, catchType := h.2.2.2 }) := List.eq_nil_iff_forall_not_mem.mpr (fun x h => hex x h)
  have hst9 : l.stackTraces = false := by unfold Launch.stackTraces; rw [hflags]; decide
  have hts : ∀ w ∈ wsL_law, w.before #[Value.ref b] s = true := fun w h => hts0 w (wsL_law_in w h)
  have hfl := flat_of_before _ hgv
  have hA : ∀ q : Nat, s.heap.size ≤ q → (fun q : Nat => s.heap.size ≤ q) q := fun _ h => h
  obtain ⟨c0, iS0, hKn0⟩ := u_known (C := RX0) (T := TX0) (N := 19) (n := 19) hts0 inX0 (hts0 _ st_k0)
  obtain ⟨cI, hI1, hI2⟩ := ok_arrI (hts0 _ st_tI)
  obtain ⟨cZ, hZ1, hZ2⟩ := ok_arrZ (hts0 _ st_tZ)
  obtain ⟨D, hKc⟩ : ∃ D : va_G, ∀ (k : Nat) (q : vw_C), vwCl[k]? = some q → u_Kn s q.1 q.2.1 q.2.2 (D.1 k) (D.2 k) := by
    refine ⟨(fun _ => c0, fun _ => iS0), ?_⟩
    intro k q hq
    match k, hq with
    | 0, hq => cases hq; exact hKn0
    | k + 1, hq => simp [vwCl] at hq
  have hK : va_K D vwCl [(cI, .int), (cZ, .boolean)] s := by
    refine ⟨hKc, fun k q h => ?_⟩
    match k, h with
    | 0, h => cases h; exact ⟨hI1, hI2⟩
    | 1, h => cases h; exact ⟨hZ1, hZ2⟩
    | k + 2, h => simp at h
  have hKS : ∀ q ∈ oz_KSX0, ∃ sa, vk_R RX0 q.1 q.2 sa s := by
    intro q hq
    obtain ⟨h1, h2⟩ := st_ks q hq
    obtain ⟨a, c, cell, k, q1, -⟩ := Cond.exactly_spec (hfl _ h2)
    exact ⟨a, vk_R.of (hts0 _ h1) q1⟩
  have hBX : ∀ w ∈ oz_BX, va_Nw w s := fun w h => va_Nw.of (oz_BX_on w h) (hts0 w (st_bx w h))
  have hNC : ow_NC s := ⟨va_Nc.of (hfl _ st_nc1), va_Nc.of (hfl _ st_nc2), va_Nc.of (hfl _ st_nc3)⟩
  have hU : vx_Zq Bundle.tN "UNASSIGNED_STACK" Bundle.steD (fun q : Nat => s.heap.size ≤ q) s s.heap := vx_Zqof (hts0 _ st_l1) (hts0 _ st_i) (hfl _ st_r1) (fun a h => Nat.not_le.mpr h)
  have hN : vx_Zq Bundle.tN "SUPPRESSED_SENTINEL" Bundle.listD (fun q : Nat => s.heap.size ≤ q) s s.heap := vx_Zqof (hts0 _ st_l2) (hts0 _ st_i) (hfl _ st_r2) (fun a h => Nat.not_le.mpr h)
  have hS : va_S (fun q : Nat => s.heap.size ≤ q) s.heap s.heap [] := va_S.rf
  have hP : va_P D vwCl [] s.heap := fun k q h => by simp at h
  have hD : va_D (fun q : Nat => s.heap.size ≤ q) [] := ⟨fun i j p q h => by simp at h, fun k q h => by simp at h⟩
  have hl := lv_entry ([.ref b]) (n := 14) (Nat.le_of_ble_eq_true rfl)
  rw [lg_entry_eq]
  generalize (lg_sl ([.ref b]) ++ List.replicate (14 - (lg_sl ([.ref b])).length) Slot.unset).toArray = ls at hl ⊢
  have hl : lv_has ls 14 [(0, .ref b)] := hl
  refine va_new (ci := 0) (fs := ok_fsX0) (C := RX0) (T := TX0) (N := 19) (cc := cL_law) hx hb hts0 inX0 tyX0 tyX0_ok hown (hts0 _ st_c0) (hts0 _ st_k0) (hts0 _ st_z0) hK hP hD hS hA rfl (fun j hj => by rcases (show j = 0 ∨ j = 1 ∨ j = 2 ∨ j = 3 ∨ j = 4 ∨ j = 5 ∨ j = 6 ∨ j = 7 ∨ j = 8 ∨ j = 9 ∨ j = 10 ∨ j = 11 ∨ j = 12 ∨ j = 13 ∨ j = 14 ∨ j = 15 ∨ j = 16 ∨ j = 17 ∨ j = 18 by omega) with rfl | rfl | rfl | rfl | rfl | rfl | rfl | rfl | rfl | rfl | rfl | rfl | rfl | rfl | rfl | rfl | rfl | rfl | rfl <;> rfl) (Nat.le_of_ble_eq_true rfl) (Nat.le_of_ble_eq_true rfl) dL_law_0 (fun h0 H hP hD hS => ?_)
  have hP : va_P D vwCl [(h0, .inr (0, ok_fsX0))] H := hP
  have hD : va_D (fun q : Nat => s.heap.size ≤ q) [(h0, .inr (0, ok_fsX0))] := hD
  refine lv_dup hx hb dL_law_3 rfl ?_
  have hAA : ∀ q, va_A [(h0, Sum.inr (0, ok_fsX0))] H.size q → s.heap.size ≤ q := fun q h => h.elim (fun ⟨j, e1, hj⟩ => hD.2 j _ hj) (fun h => Nat.le_trans hS.1 h)
  refine va_callv (va_runI (As := []) (rest := [.ref h0]) ⟨hx, hb, hml, hown, hts⟩ (iX0 l D cI cZ h0 H.size) (cwI 0 hts gL_law_X0_init rfl rfl rfl (hts0 _ st_z0) (hts0 _ st_m0) (hts0 _ st_n0) rfl (by decide +kernel) ⟨by decide, by decide⟩) ⟨fun a U g mk q => ?_, fun U hU2 hW2 => ⟨rfl, by rw [hU2], by rw [hU2]; exact hP, va_K.moved hW2.alike (hK.sub [0, 1] rfl), hD.weaken (fun _ _ _ _ => trivial)⟩⟩ rfl rfl hl.1 rfl (lv_room (Nat.le_of_ble_eq_true rfl)) dL_law_4 ⟨by decide, by decide⟩) hS (fun q _ h => hAA q h) hAA (fun ak t H1 locs1 ht hvm hw hB hz1 hk1 hS => ?_)
  · obtain ⟨q0, q1, qP, qK, qD⟩ := q
    exact ⟨q0, q1, qP, va_K.moved (u := U) (U := U.calling g mk a) (Vm.Alike.refl U.vm) qK, qD⟩
  obtain ⟨hPk, hDk⟩ := hB
  rw [ht] at hPk
  subst hw
  have hDk : va_D (fun q : Nat => s.heap.size ≤ q) (oz_wd 0 cI cZ ak oz_lyX0 ok_stX0) := hDk.weaken (fun k q _ h => hAA q.1 h)
  clear hP hD hAA
  refine lv_astore_n (lv' := [(1, .ref (ak 0)), (0, .ref b)]) hx hb dL_law_7 rfl hl (by decide) rfl (fun ls hl => ?_)
  refine lv_bipush (v := 48) hx hb dL_law_8 (by decide) ?_
  refine va_newa (atype := .int) (ty := .int) (N' := 48) (a0 := (48, .inl (fun _ => 0))) hx hb (hts0 _ st_tI) rfl hK hPk hDk hS hA (fun _ => rfl) (by decide) rfl (Nat.le_of_ble_eq_true rfl) (by decide) (by decide) dL_law_10 (fun aw cI2 H2 hK2 hP2 hD2 hS => ?_)
  have hPk2 := ow_P_l hP2
  refine lv_astore_n (lv' := [(2, .ref aw), (1, .ref (ak 0)), (0, .ref b)]) hx hb dL_law_12 rfl hl (by decide) rfl (fun ls hl => ?_)
  refine lv_bipush (v := 10) hx hb dL_law_13 (by decide) ?_
  refine va_newa (atype := .int) (ty := .int) (N' := 10) (a0 := (10, .inl (fun _ => 0))) hx hb (hts0 _ st_tI) rfl hK hPk2 hDk hS hA (fun _ => rfl) (by decide) rfl (Nat.le_of_ble_eq_true rfl) (by decide) (by decide) dL_law_15 (fun ag cI3 H3 hK3 hP3 hD3 hS => ?_)
  refine lv_astore_n (lv' := [(3, .ref ag), (2, .ref aw), (1, .ref (ak 0)), (0, .ref b)]) hx hb dL_law_17 rfl hl (by decide) rfl (fun ls hl => ?_)
  refine lv_iconst (v := 1) hx hb dL_law_18 (by decide) ?_
  refine lv_istore (lv' := [(4, .int 1), (3, .ref ag), (2, .ref aw), (1, .ref (ak 0)), (0, .ref b)]) hx hb dL_law_19 hl (by decide) rfl (fun ls hl => ?_)
  obtain ⟨ad, had⟩ : ∃ ad : Nat → Nat, ad = fun k => if k = 99 then s.heap.size else ak k := ⟨_, rfl⟩
  have h99 : ad 99 = s.heap.size := by rw [had]; rfl
  have h0 : ad 0 = ak 0 := by rw [had]; rfl
  have hwd : oz_wd 0 cI cZ ad oz_lyX0 FX = oz_wd 0 cI cZ ak oz_lyX0 ok_stX0 := by
    rw [← FX_eq]
    refine oz_wd_ad 0 cI cZ oz_lyX0 ok_stX0 (fun k hk => ?_)
    have hk2 : k ≤ 19 := hk
    rw [had]
    show (if k = 99 then s.heap.size else ak k) = ak k
    rw [if_neg (by omega)]
  have hPf : oz_P D cI cZ 0 ad oz_lyX0 0 H3 := by
    refine ⟨by rw [hwd]; exact ow_P_l hP3, ?_⟩
    show ad 99 + (0 : Int32).toNatClampNeg ≤ H3.size
    rw [h99]
    exact hS.1
  refine W.widen (k := 80) (n := 6 * 80) (by decide) (by decide) ?_
  refine nl_mono (Q := vx_MQ below (oz_Qi D cI cZ 0 ad oz_lyX0 (0, 1, 453) (fun q : Nat => s.heap.size ≤ q)) (oz_XC D cI cZ 0 ad oz_lyX0 (0, 1, 453) (fun q : Nat => s.heap.size ≤ q)) #[.ref b] s 6067 (6 * 6067) (fun q : Nat => s.heap.size ≤ q)) (fun t hq => ?_) ?_
  · obtain ⟨o, hrun, hend, hq⟩ := hq
    refine ⟨o, hrun, hend, ?_⟩
    rcases hq with ⟨⟨⟨r, u, -, hp, hB⟩, -⟩, -⟩ | ⟨q, -, E, ce, L, hx9, -⟩
    · have hu : u = 453 := by cases hp; rfl
      have h9 := hB.2
      rw [hu] at h9
      unfold gh at h9
      rw [h99] at h9
      exact h9
    · obtain ⟨u, ⟨hp1, hp2, -⟩, -⟩ := hx9
      exact absurd (congrArg (fun z => z.1) hp1) hp2
  · have X : oz_E p l e lawR s m #[.ref b] below meth c (vx_MQ below (oz_Qi D cI cZ 0 ad oz_lyX0 (0, 1, 453) (fun q : Nat => s.heap.size ≤ q)) (oz_XC D cI cZ 0 ad oz_lyX0 (0, 1, 453) (fun q : Nat => s.heap.size ≤ q)) #[.ref b] s 6067 (6 * 6067) (fun q : Nat => s.heap.size ≤ q)) cL_law 14 wsL_law RX0 RL D cI cZ 0 TX0 19 oz_KSX0 oz_lyX0 ad (fun q : Nat => s.heap.size ≤ q) (0, 1, 453) [] _ := ⟨rfl, ⟨hx, hb, hml, hown, hts⟩, hK, by rw [hwd]; exact hDk, hA, oz_CX0, hKS, hBX, hNC, hU, hN, hst9, hlocks, htab⟩
    have hscr : oz_scr s b xs (fun q : Nat => s.heap.size ≤ q) := ⟨hX, hbl, Nat.not_le.mpr hbl, hxs⟩
    have K := mL_lawG hst9 hr X hscr 0
    exact K ev_law H3 _ ls hPf hS (by rw [h0]; exact lv_sub hl [3, 4] rfl)
end
section
/-! THE CLAIM IS FALSE: on the script of 110 nines the law makes more cells than the claim's room has -/
def nl_nines : List Int32 := List.replicate 110 9
theorem nl_dice : ∀ i : Int32, oz_in i 110 = true → (fun j => nl_nines.getD j 0) i.toNatClampNeg = 9 := by
  intro i h
  have h1 := of_decide_eq_true h
  have h2 : i.toNatClampNeg < 110 := by
    show i.toInt.toNat < 110
    omega
  show (List.replicate 110 (9 : Int32)).getD i.toNatClampNeg 0 = 9
  rw [List.getD_eq_getElem?_getD, List.getElem?_replicate, if_pos h2]
  rfl
def nl_P (b : Addr) (args : Array Value) (s : State) : Prop := args = #[.ref b] ∧ s.IntsAt b nl_nines ∧ (Jvm.Cond.and given_1 narrow_1).before args s = true
set_option maxHeartbeats 4000000 in
theorem nl_walk (l : Launch) (hflags : l.flags = flags0) (b : Addr) : MetFree l x (headSpec (Jvm.Cond.code x code maxLocals ret :: tables_1) lawR) (nl_P b) (fun _ _ _ _ _ => True) (fun _ s _ t => s.heap.size + 453 ≤ t.heap.size) := by
  refine MetFree.of_bodyS (code := code) (maxLocals := maxLocals) (ret := ret) (by decide) ?_ ?_
  · intro args s m h hn
    obtain ⟨meth, c, h1, h2, h3, h4, h5, h6, -, -⟩ := Cond.code_spec hn (atoms_spec (ws := Jvm.Cond.code x code maxLocals ret :: tables_1) h _ List.mem_cons_self)
    exact ⟨meth, c, h1, h2, h3, h4, h5, h6⟩
  · intro p e s m args below meth c s₁ B hml0 hP _
    obtain ⟨rfl, hx, hgv⟩ := hP
    obtain ⟨scr, harrAt, hlist, hof, hsmall⟩ := hx
    obtain ⟨hcb, hkn, -, -⟩ := State.arrayAt?_spec harrAt
    have hown : s.vm.findClass RL = some m.cls := findClass_of_methodNamed B.named
    have hts0 : ∀ c ∈ (Jvm.Cond.code x code maxLocals ret :: tables_1), c.before #[Value.ref b] s = true := atoms_spec (ws := Jvm.Cond.code x code maxLocals ret :: tables_1) B.pre
    have hts : ∀ w ∈ lw_tbl, w.before #[Value.ref b] s = true := k2_hts_sels lw_privs (fun w hw => hts0 w (List.mem_cons_of_mem _ hw)) lw_privs_ok
    have hml : c.maxLocals = 14 := B.maxLocals_eq (hts0 _ List.mem_cons_self)
    have X₀ : Stand p l e lawR s m #[Value.ref b] below meth c s₁ [] 0 0 := Stand.of_body B
    have hh0 : s₁.heap = s.heap := by rw [B.state]; rfl
    have hsz : scr.slots.size = nl_nines.length := by rw [← Array.length_toList, hlist, List.length_map]
    have hval : ∀ j : Nat, j < nl_nines.length → scr.slots[j]? = some (.int (nl_nines.getD j 0)) := fun j hj => by
      rw [← Array.getElem?_toList, hlist]
      simp [hj]
    have hbl : b < s.heap.size := (Array.getElem?_eq_some_iff.mp hcb).1
    have hX : va_X b 110 (fun j => nl_nines.getD j 0) s s.heap := ⟨scr, hcb, hof, hkn, hsz, hval⟩
    have ht : ∀ x ∈ c.exceptionTable.toList, False := by
      obtain ⟨meth9, c9, h1, h2, -, -, -, -, h7, -⟩ := Cond.code_spec B.named (hts0 _ List.mem_cons_self)
      cases Option.some.inj (h1.symm.trans B.method)
      cases Option.some.inj (h2.symm.trans (Stand.of_body B).code)
      intro x hx
      rw [Array.isEmpty_iff.mp h7] at hx
      cases hx
    have K : W p l e lawR s m #[Value.ref b] below meth c s₁.heap [] 0 0 (nl_Z below s) (entryFrame m ([Value.ref b] : List Value).toArray 14) := by
      rw [hh0]
      exact nl_start l hflags nl_dice ⟨B.exec, B.bytes, B.returns, hml, hown, hts, hX, hbl, B.notSynchronized, hgv, ht⟩
    obtain ⟨t, a1, o, b1, b2, b3⟩ := K s₁ rfl X₀
    exact ⟨t, o, a1, b1, b2, b3⟩
/-- from a start that meets the Statement's premises, with the nines for its script, in a room that is large enough, the claim's first half doesn't hold -/
theorem nl_no {l : Launch} {p : Program} {e : Env} {s : State} {m : MethodId} {args : Array Value} {below : List Frame} {b : Addr} (hfl : l.flags = flags0)
    (hS : AtStart classFile x code maxLocals ret World_1 tables_1 room_1 Calls_1 rest_1 Pre_1 l p e s m args below) (hroom : s.hasRoom e.platform lawR = true) (hP : nl_P b args s) : ¬ Claimed_1_1 := by
  intro hC
  obtain ⟨hL, hW, had, -, hcas, hclk, hfr, hfit, hheap, happ, hcalls, hrest, hpre⟩ := hS
  obtain ⟨k, q, hin', -, hend', hpost⟩ := hC l hfl hL hW p e had hcas hclk s m args below hfr hfit hheap happ ⟨hcalls, hrest, hpre⟩
  obtain ⟨h1, h2, h3, h4, h5, h6, -, h8⟩ := (Spec.appliesLoose_iff hfr).mp ((Spec.applies_iff_loose hfr).mp happ).1
  obtain ⟨n, o, hin, -, hend, hgrow⟩ := nl_walk l hfl b p e had hcas hclk s m args below hfr ((Spec.appliesLoose_iff hfr).mpr ⟨h1, h2, h3, h4, h5, h6, hroom, h8⟩) hP trivial
  have hnk : n = k := by
    rcases Nat.lt_trichotomy n k with h | h | h
    · exact absurd (hin' n h) hend.not_within
    · exact h
    · exact absurd (hin k h) hend'.not_within
  subst hnk
  obtain ⟨-, -, -, hs⟩ := hpost
  have h9 : (stepsAlone p.tables e n s).heap.size ≤ s.heap.size + 223 := hs.2.2.1
  omega
/-- from a start that meets the Statement's premises, with the nines for its script, in a room that is large enough, its second half neither -/
theorem nl_no2 {l : Launch} {p : Program} {e : Env} {s : State} {m : MethodId} {args : Array Value} {below : List Frame} {b : Addr} (hfl : l.flags = flags0)
    (hS : AtStart classFile x code maxLocals ret World_1 tables_1 room_1 Calls_1 rest_1 Pre_1 l p e s m args below) (hroom : s.hasRoom e.platform lawR = true) (hP : nl_P b args s) : ¬ Claimed_1_2 := by
  intro hC
  obtain ⟨hL, hW, had, -, hcas, hclk, hfr, hfit, hheap, happ, hcalls, hrest, hpre⟩ := hS
  obtain ⟨k, q, hin', -, hend', hpost⟩ := hC l hfl hL hW p e had hcas hclk s m args below hfr hfit hheap happ ⟨hcalls, hrest, hpre⟩
  obtain ⟨h1, h2, h3, h4, h5, h6, -, h8⟩ := (Spec.appliesLoose_iff hfr).mp ((Spec.applies_iff_loose hfr).mp happ).1
  obtain ⟨n, o, hin, -, hend, hgrow⟩ := nl_walk l hfl b p e had hcas hclk s m args below hfr ((Spec.appliesLoose_iff hfr).mpr ⟨h1, h2, h3, h4, h5, h6, hroom, h8⟩) hP trivial
  have hnk : n = k := by
    rcases Nat.lt_trichotomy n k with h | h | h
    · exact absurd (hin' n h) hend.not_within
    · exact h
    · exact absurd (hin k h) hend'.not_within
  subst hnk
  obtain ⟨-, -, -, hs⟩ := hpost
  have h9 : (stepsAlone p.tables e n s).heap.size ≤ s.heap.size + 223 := hs.2.2.1
  omega
end
section
/-! A START OF THAT KIND: the printed start, with the nines for its script -/
def nl_cells : Array Value := (List.replicate 110 (Value.int 9)).toArray
def nl_about : State := start1.aboutOf nl_cells
set_option maxRecDepth 16384 in
theorem nl_others : ((Cond.code x code maxLocals ret :: tables_1).filter (fun c => !vx_ot c)).all (fun c => c.before start1.args0 nl_about) = true := by decide +kernel
theorem nl_words : ∀ c ∈ (Cond.code x code maxLocals ret :: tables_1), c.before start1.args0 nl_about = true := by
  intro c hc
  cases h : vx_ot c with
  | true => exact vx_ot_at (s := start1.about) (U := nl_about) (State.WarmedH.refl start1.about) rfl h (start1.words c hc)
  | false => exact List.all_eq_true.mp nl_others c (List.mem_filter.mpr ⟨hc, by rw [h]; rfl⟩)
set_option maxRecDepth 16384 in
theorem nl_given : (Cond.and given_1 narrow_1).before start1.args0 nl_about = true := by decide +kernel
set_option maxRecDepth 16384 in
theorem nl_rest : rest_1_c.before start1.args0 nl_about = true := by decide +kernel
set_option maxRecDepth 16384 in
theorem nl_atStart : AtStart classFile x code maxLocals ret World_1 tables_1 room_1 Calls_1 rest_1 Pre_1 launch0 start1.p0 start1.e0 nl_about ⟨0, 0⟩ start1.args0 Lib.HandBits.below0 :=
  ⟨lists_1, trivial, launch0.admits_env _ _ _, launch0.least_env, fairChoices_fair.cas, fairChoices_fair.clock, rfl, by decide +kernel, by decide +kernel,
    (Spec.applies_iff rfl).mpr ⟨rfl, rfl, rfl, by decide +kernel, by decide +kernel, by decide +kernel, launch0.hasRoom_least _ room_1 (by decide +kernel) (by decide +kernel) (by decide +kernel) (by decide +kernel) (by decide +kernel) (by decide +kernel), atoms_intro nl_words⟩,
    trivial, nl_rest, nl_given⟩
theorem nl_room : nl_about.hasRoom start1.e0.platform lawR = true := launch0.hasRoom_least _ lawR (by decide +kernel) (by decide +kernel) (by decide +kernel) (by decide +kernel) (by decide +kernel) (by decide +kernel)
theorem nl_inj : ∀ (n : Nat) (xs : List Int32), List.replicate n (Value.int 9) = xs.map Value.int → xs = List.replicate n 9
  | 0, xs, h => by
    have h1 : xs.map Value.int = [] := h.symm
    exact List.map_eq_nil_iff.mp h1
  | n + 1, [], h => by simp [List.replicate_succ] at h
  | n + 1, a :: r, h => by
    rw [List.replicate_succ, List.map_cons] at h
    injection h with h1 h2
    injection h1 with h1
    rw [List.replicate_succ, ← h1, nl_inj n r h2]
theorem nl_script : nl_P 0 start1.args0 nl_about := by
  refine ⟨rfl, ?_, nl_given⟩
  have hs := flat_of_before _ nl_given
  have hq := flat_of_before _ nl_rest
  have harr : (Cond.arrayOf (.arg 0) .int).before start1.args0 nl_about = true := hs _ (by decide +kernel)
  have hlen : (Cond.isInt (.length (.arg 0))).before start1.args0 nl_about = true := hq _ (by decide +kernel)
  have hall : (Cond.all (.arg 0) (.isInt (.elem (.arg 0) (.index 0)))).before start1.args0 nl_about = true := hq _ (by decide +kernel)
  obtain ⟨b, xs, hb, hx⟩ := State.ints_of_pre rfl harr hlen hall
  have hb0 : b = 0 := by
    have h1 : Value.ref 0 = Value.ref b := Option.some.inj (show some (Value.ref 0) = some (Value.ref b) from hb)
    exact (Value.ref.inj h1).symm
  subst hb0
  obtain ⟨scr, harrAt, hlist, hof, hsmall⟩ := id hx
  obtain ⟨hcb, hkn, -, -⟩ := State.arrayAt?_spec harrAt
  have hscr : scr.slots = nl_cells := by
    have h1 : nl_about.heap[0]? = some { cls := 14, slots := nl_cells, vm := .none } := rfl
    have h2 := Option.some.inj (hcb.symm.trans h1)
    rw [h2]
  have hxs : xs = nl_nines := by
    rw [hscr] at hlist
    exact nl_inj 110 xs hlist
  rw [← hxs]
  exact hx
/-- each half of the owed statement is false -/
theorem p31_first : ¬ Claimed_1_1 := nl_no rfl nl_atStart nl_room nl_script
theorem p31_second : ¬ Claimed_1_2 := nl_no2 rfl nl_atStart nl_room nl_script
/-- THE OWED STATEMENT IS FALSE -/
theorem p31_refuted : ¬ (Claimed_1_1 ∧ Claimed_1_2) := fun h => nl_no rfl nl_atStart nl_room nl_script h.1
end

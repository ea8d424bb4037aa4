/-! THE ROAD OF ONE METHOD: G k pc L S st o: at pc, with the locals L, the stack S and the object's numbers st, the method comes to its end as o says (if o is the answer res); k throwables were made. -/
def oz_exn (n : Nat) : String := if n = 1 then "java/lang/IndexOutOfBoundsException" else if n = 2 then "java/lang/IllegalStateException" else "java/lang/IllegalArgumentException"
def oz_in (i : Int32) (n : Nat) : Bool := decide (0 ≤ i.toInt ∧ i.toInt < n)
theorem oz_in_spec {i : Int32} {n : Nat} (h : oz_in i n = true) : vp_in i n := vp_in_iff.mpr (of_decide_eq_true h)
/-- an index is in range, or there is no answer -/
def gd (b : Bool) (o : Option Res) : Option Res := if b = true then o else none
/-- the state is x now -/
def stp (x : ST) (f : ST → Option Res) : Option Res := f x
/-- the answer of a call; what it throws is thrown on -/
def bnd (o : Option Res) (f : Int32 → ST → Option Res) : Option Res := match o with
  | none => none
  | some (e, v, st) => if e = 0 then f v st else some (e, 0, st)
def oz_names : List String := ["java/lang/RuntimeException", "java/lang/Exception"]
/-- what the class of a throwable must be declared to have, and what isn't a good word -/
def oz_BX : List Cond := [.declares (Bundle.initS "java/lang/RuntimeException"), .declares (Bundle.initS "java/lang/Exception"), .declares (Bundle.initS "java/lang/Throwable"), .castable "java/lang/IndexOutOfBoundsException" "java/lang/IndexOutOfBoundsException", .castable "java/lang/IllegalStateException" "java/lang/IllegalStateException", .castable "java/lang/IllegalArgumentException" "java/lang/IllegalArgumentException"]
theorem oz_BX_on : ∀ w ∈ oz_BX, w.onTables = true := by decide +kernel
theorem oz_BX_all {P : Cond → Prop} (h : P (.declares (Bundle.initS "java/lang/RuntimeException")) ∧ P (.declares (Bundle.initS "java/lang/Exception")) ∧ P (.declares (Bundle.initS "java/lang/Throwable")) ∧ P (.castable "java/lang/IndexOutOfBoundsException" "java/lang/IndexOutOfBoundsException") ∧ P (.castable "java/lang/IllegalStateException" "java/lang/IllegalStateException") ∧ P (.castable "java/lang/IllegalArgumentException" "java/lang/IllegalArgumentException")) : ∀ w ∈ oz_BX, P w := by
  intro w hw
  simp only [oz_BX, List.mem_cons, List.not_mem_nil, or_false] at hw
  obtain ⟨h1, h2, h3, h4, h5, h6⟩ := h
  rcases hw with rfl | rfl | rfl | rfl | rfl | rfl <;> assumption
theorem oz_BX_warm {s U : State} (hW : s.WarmedH U.vm) (h : ∀ w ∈ oz_BX, va_Nw w s) : ∀ w ∈ oz_BX, va_Nw w U := by
  have g : ∀ {w}, w ∈ oz_BX → va_Nw w s := fun hw => h _ hw
  refine oz_BX_all ⟨va_Nw.warmD hW (g ?_), va_Nw.warmD hW (g ?_), va_Nw.warmD hW (g ?_), va_Nw.warmC hW (g ?_), va_Nw.warmC hW (g ?_), va_Nw.warmC hW (g ?_)⟩ <;> simp [oz_BX]
abbrev KSt : Type := List (Nat × String)
/-- what a method's caller gives -/
def oz_Pre (D : va_G) (cI cZ : ClassId) (own : String) (ci : Nat) (KS : KSt) (ad : Nat → Nat) (ly : LY) (sz : Nat) (st : ST) (U : State) : Prop :=
  U.heap.size = sz ∧ va_P D vwCl (oz_wd ci cI cZ ad ly st) U.heap ∧ va_K D vwCl [(cI, .int), (cZ, .boolean)] U ∧ va_D (fun _ => True) (oz_wd ci cI cZ ad ly st) ∧ (∀ q ∈ KS, ∃ sa, vk_R own q.1 q.2 sa U) ∧ (∀ w ∈ oz_BX, va_Nw w U) ∧
  vx_Zq Bundle.tN "UNASSIGNED_STACK" Bundle.steD (va_A (oz_wd ci cI cZ ad ly st) sz) U U.heap ∧ vx_Zq Bundle.tN "SUPPRESSED_SENTINEL" Bundle.listD (va_A (oz_wd ci cI cZ ad ly st) sz) U U.heap
theorem oz_Pre_blind {D : va_G} {cI cZ : ClassId} {own : String} {ci : Nat} {KS : KSt} {ad : Nat → Nat} {ly : LY} {sz : Nat} {st : ST} {av : List Value} : FrameBlind (va_Pc av (oz_Pre D cI cZ own ci KS ad ly sz st)) := by
  intro a U g mk q
  obtain ⟨q0, q1, q2, q3, q4, q5, q6, q7, q8⟩ := q
  exact ⟨q0, q1, q2, va_K.moved (u := U) (U := U.calling g mk a) (Vm.Alike.refl U.vm) q3, q4, fun x hx => (q5 x hx).elim fun sa h => ⟨sa, vk_R.same (u := U) rfl h⟩, fun x hx => va_Nw.same (u := U) (U := U.calling g mk a) (oz_BX_on x hx) rfl (q6 x hx), vx_Zq.moved (u := U) (Vm.Alike.refl U.vm) q7, vx_Zq.moved (u := U) (Vm.Alike.refl U.vm) q8⟩
def oz_B (D : va_G) (cI cZ : ClassId) (ci : Nat) (ad : Nat → Nat) (ly : LY) (u : ST) (t : State) : Prop := va_P D vwCl (oz_wd ci cI cZ ad ly u) t.heap
def oz_XC (D : va_G) (cI cZ : ClassId) (ci : Nat) (ad : Nat → Nat) (ly : LY) (res : Res) (A : Nat → Prop) : String → State → State → Prop :=
  vx_X (fun u : Nat × ST => (u.1, 0, u.2) = res ∧ u.1 ≠ 0) (fun E u t => E = oz_exn u.1 ∧ oz_B D cI cZ ci ad ly u.2 t) A
def oz_Qi (D : va_G) (cI cZ : ClassId) (ci : Nat) (ad : Nat → Nat) (ly : LY) (res : Res) (A : Nat → Prop) : Array Value → State → Outcome → State → Prop :=
  va_Qi (fun r u => (0, r, u) = res) (oz_B D cI cZ ci ad ly) A
def oz_Qv (D : va_G) (cI cZ : ClassId) (ci : Nat) (ad : Nat → Nat) (ly : LY) (res : Res) (A : Nat → Prop) : Array Value → State → Outcome → State → Prop :=
  va_Qv (fun u => (0, 0, u) = res) (oz_B D cI cZ ci ad ly) A
/-- THE CONTRACT of a method with a number for an answer: what it answers, or throws, is o -/
def oz_MI (l : Launch) (y : MethodName) (ws : List Cond) (rm : Room) (D : va_G) (cI cZ : ClassId) (own : String) (ci : Nat) (KS : KSt) (ad : Nat → Nat) (ly : LY) (kc : Nat) (av : List Value) (o : ST → Option Res) : Prop :=
  ∀ (sz : Nat) (st : ST) (res : Res), o st = some res → vx_Met l y ws rm (va_Pc av (oz_Pre D cI cZ own ci KS ad ly sz st)) (oz_Qi D cI cZ ci ad ly res (va_A (oz_wd ci cI cZ ad ly st) sz)) (oz_XC D cI cZ ci ad ly res (va_A (oz_wd ci cI cZ ad ly st) sz)) kc (6 * kc) (va_A (oz_wd ci cI cZ ad ly st) sz)
/-- .. without an answer -/
def oz_MV (l : Launch) (y : MethodName) (ws : List Cond) (rm : Room) (D : va_G) (cI cZ : ClassId) (own : String) (ci : Nat) (KS : KSt) (ad : Nat → Nat) (ly : LY) (kc : Nat) (av : List Value) (o : ST → Option Res) : Prop :=
  ∀ (sz : Nat) (st : ST) (res : Res), o st = some res → vx_Met l y ws rm (va_Pc av (oz_Pre D cI cZ own ci KS ad ly sz st)) (oz_Qv D cI cZ ci ad ly res (va_A (oz_wd ci cI cZ ad ly st) sz)) (oz_XC D cI cZ ci ad ly res (va_A (oz_wd ci cI cZ ad ly st) sz)) kc (6 * kc) (va_A (oz_wd ci cI cZ ad ly st) sz)
/-- what is known of a class -/
def oz_C (own : String) (ci : Nat) (T : u_T) (N : Nat) (ly : LY) : Prop :=
  vwCl[ci]? = some (own, T, N) ∧ ly.length = N ∧ (∀ k, k < N → (T k).1 = own) ∧ (∃ ty0 : Nat → FieldType, (∀ k, k < N → parseFieldDescriptor (T k).2.2.1 = some (ty0 k)) ∧ ∀ k b, ly[k]? = some (0, b) → ty0 k = .int ∧ (T k).2.2.2 = false) ∧ ∀ a, a < N → ∀ b, b < N → a ≠ b → (T a).2.1 ≠ (T b).2.1
section OZ
variable {p : Program} {l : Launch} {e : Env} {R : Room} {s : State} {m : MethodId} {args : Array Value} {below : List Frame} {meth : Method} {c : Code} {Q : State → Prop}
variable {cc : ByteArray} {nL : Nat} {Ts : List Cond} {own : String} {D : va_G} {cI cZ : ClassId} {ci : Nat} {T : u_T} {N : Nat} {KS : KSt} {ly : LY} {ad : Nat → Nat} {A : Nat → Prop} {res : Res}
variable {G : Nat → Nat → List (Nat × Value) → List Value → ST → Option Res → Prop}
def oz_E (p : Program) (l : Launch) (e : Env) (R : Room) (s : State) (m : MethodId) (args : Array Value) (below : List Frame) (meth : Method) (c : Code) (Q : State → Prop) (cc : ByteArray) (nL : Nat) (Ts : List Cond) (own : String) (D : va_G) (cI cZ : ClassId) (ci : Nat) (T : u_T) (N : Nat) (KS : KSt) (ly : LY) (ad : Nat → Nat) (A : Nat → Prop) (res : Res) (G : Nat → Nat → List (Nat × Value) → List Value → ST → Option Res → Prop) : Prop :=
  (G = fun k pc L S st o => o = some res → ∀ (H : Heap) (locs : List Loc) (ls : Array Slot), va_P D vwCl (oz_wd ci cI cZ ad ly st) H → va_S A s.heap H locs → lv_has ls nL L → W p l e R s m args below meth c H locs k (6 * k) Q (F0 m pc ls S)) ∧
  CallFix p m c cc nL s args Ts own ∧ va_K D vwCl [(cI, .int), (cZ, .boolean)] s ∧ (∀ st, va_D A (oz_wd ci cI cZ ad ly st)) ∧ (∀ q, s.heap.size ≤ q → A q) ∧ oz_C own ci T N ly ∧
  (∀ q ∈ KS, ∃ sa, vk_R own q.1 q.2 sa s) ∧ (∀ w ∈ oz_BX, va_Nw w s) ∧ vx_Zq Bundle.tN "UNASSIGNED_STACK" Bundle.steD A s s.heap ∧ vx_Zq Bundle.tN "SUPPRESSED_SENTINEL" Bundle.listD A s s.heap ∧ l.stackTraces = false ∧ meth.locks = false ∧ (∀ x ∈ c.exceptionTable.toList, False)
variable {pc k : Nat} {L : List (Nat × Value)} {S : List Value} {st : ST} {o o1 o2 : Option Res}
theorem oz_E.hts (X : oz_E p l e R s m args below meth c Q cc nL Ts own D cI cZ ci T N KS ly ad A res G) : ∀ w ∈ Ts, w.before args s = true := X.2.1.2.2.2.2
/-- a shorter list of locals is enough -/
theorem oz_sub (X : oz_E p l e R s m args below meth c Q cc nL Ts own D cI cZ ci T N KS ly ad A res G) (ks : List Nat) {L2 : List (Nat × Value)} (h : lv_pick L ks = L2) (kk : G k pc L2 S st o) : G k pc L S st o := by
  obtain ⟨rfl, -⟩ := X
  intro ho H locs ls hP hS hl
  exact kk ho H locs ls hP hS (lv_sub hl ks h)
theorem oz_eq {o3 : Option Res} (h : o3 = o) (kk : G k pc L S st o) : G k pc L S st o3 := h ▸ kk

theorem oz_iconst (X : oz_E p l e R s m args below meth c Q cc nL Ts own D cI cZ ci T N KS ly ad A res G) {n : Int} {v : Int32} (d : decode cc pc = .ok (.iconst n, 1)) (hv : Int32.ofInt n = v) (kk : G k (pc + 1) L (.int v :: S) st o) : G k pc L (S) st o := by
  obtain ⟨rfl, ⟨hx, hb, -⟩, -⟩ := X
  intro ho H locs ls hP hS hl
  exact lv_iconst hx hb d hv (kk ho H locs ls hP hS hl)
theorem oz_bipush (X : oz_E p l e R s m args below meth c Q cc nL Ts own D cI cZ ci T N KS ly ad A res G) {n : Int} {v : Int32} (d : decode cc pc = .ok (.bipush n, 2)) (hv : (Int8.ofInt n).toInt32 = v) (kk : G k (pc + 2) L (.int v :: S) st o) : G k pc L (S) st o := by
  obtain ⟨rfl, ⟨hx, hb, -⟩, -⟩ := X
  intro ho H locs ls hP hS hl
  exact lv_bipush hx hb d hv (kk ho H locs ls hP hS hl)
theorem oz_sipush (X : oz_E p l e R s m args below meth c Q cc nL Ts own D cI cZ ci T N KS ly ad A res G) {n : Int} {v : Int32} (d : decode cc pc = .ok (.sipush n, 3)) (hv : (Int16.ofInt n).toInt32 = v) (kk : G k (pc + 3) L (.int v :: S) st o) : G k pc L (S) st o := by
  obtain ⟨rfl, ⟨hx, hb, -⟩, -⟩ := X
  intro ho H locs ls hP hS hl
  exact lv_sipush hx hb d hv (kk ho H locs ls hP hS hl)
theorem oz_iload_n (X : oz_E p l e R s m args below meth c Q cc nL Ts own D cI cZ ci T N KS ly ad A res G) {j : Fin 4} {i : Nat} {x : Int32} (d : decode cc pc = .ok (.iload_n j, 1)) (hi : (j : Nat) = i) (q : Nat) (hq : L[q]? = some (i, .int x)) (kk : G k (pc + 1) L (.int x :: S) st o) : G k pc L (S) st o := by
  obtain ⟨rfl, ⟨hx, hb, -⟩, -⟩ := X
  intro ho H locs ls hP hS hl
  exact lv_iload_n hx hb d hi (lv_at hl q hq) (kk ho H locs ls hP hS hl)
theorem oz_iload (X : oz_E p l e R s m args below meth c Q cc nL Ts own D cI cZ ci T N KS ly ad A res G) {i : Nat} {x : Int32} (d : decode cc pc = .ok (.iload i, 2)) (q : Nat) (hq : L[q]? = some (i, .int x)) (kk : G k (pc + 2) L (.int x :: S) st o) : G k pc L (S) st o := by
  obtain ⟨rfl, ⟨hx, hb, -⟩, -⟩ := X
  intro ho H locs ls hP hS hl
  exact lv_iload hx hb d (lv_at hl q hq) (kk ho H locs ls hP hS hl)
theorem oz_aload_n (X : oz_E p l e R s m args below meth c Q cc nL Ts own D cI cZ ci T N KS ly ad A res G) {j : Fin 4} {i x : Nat} (d : decode cc pc = .ok (.aload_n j, 1)) (hi : (j : Nat) = i) (q : Nat) (hq : L[q]? = some (i, .ref x)) (kk : G k (pc + 1) L (.ref x :: S) st o) : G k pc L (S) st o := by
  obtain ⟨rfl, ⟨hx, hb, -⟩, -⟩ := X
  intro ho H locs ls hP hS hl
  exact lv_aload_n hx hb d hi (lv_at hl q hq) (kk ho H locs ls hP hS hl)
theorem oz_iadd (X : oz_E p l e R s m args below meth c Q cc nL Ts own D cI cZ ci T N KS ly ad A res G) {x y : Int32} (d : decode cc pc = .ok (.iadd, 1)) (kk : G k (pc + 1) L (.int (x + y) :: S) st o) : G k pc L (.int y :: .int x :: S) st o := by
  obtain ⟨rfl, ⟨hx, hb, -⟩, -⟩ := X
  intro ho H locs ls hP hS hl
  exact lv_iadd hx hb d (kk ho H locs ls hP hS hl)
theorem oz_isub (X : oz_E p l e R s m args below meth c Q cc nL Ts own D cI cZ ci T N KS ly ad A res G) {x y : Int32} (d : decode cc pc = .ok (.isub, 1)) (kk : G k (pc + 1) L (.int (x - y) :: S) st o) : G k pc L (.int y :: .int x :: S) st o := by
  obtain ⟨rfl, ⟨hx, hb, -⟩, -⟩ := X
  intro ho H locs ls hP hS hl
  exact lv_isub hx hb d (kk ho H locs ls hP hS hl)
theorem oz_imul (X : oz_E p l e R s m args below meth c Q cc nL Ts own D cI cZ ci T N KS ly ad A res G) {x y : Int32} (d : decode cc pc = .ok (.imul, 1)) (kk : G k (pc + 1) L (.int (x * y) :: S) st o) : G k pc L (.int y :: .int x :: S) st o := by
  obtain ⟨rfl, ⟨hx, hb, -⟩, -⟩ := X
  intro ho H locs ls hP hS hl
  exact lv_imul hx hb d (kk ho H locs ls hP hS hl)
theorem oz_ineg (X : oz_E p l e R s m args below meth c Q cc nL Ts own D cI cZ ci T N KS ly ad A res G) {x : Int32} (d : decode cc pc = .ok (.ineg, 1)) (kk : G k (pc + 1) L (.int (-x) :: S) st o) : G k pc L (.int x :: S) st o := by
  obtain ⟨rfl, ⟨hx, hb, -⟩, -⟩ := X
  intro ho H locs ls hP hS hl
  exact lv_ineg hx hb d (kk ho H locs ls hP hS hl)
theorem oz_dup (X : oz_E p l e R s m args below meth c Q cc nL Ts own D cI cZ ci T N KS ly ad A res G) {a : Value} (d : decode cc pc = .ok (.dup, 1)) (ha : a.category = 1) (kk : G k (pc + 1) L (a :: a :: S) st o) : G k pc L (a :: S) st o := by
  obtain ⟨rfl, ⟨hx, hb, -⟩, -⟩ := X
  intro ho H locs ls hP hS hl
  exact lv_dup hx hb d ha (kk ho H locs ls hP hS hl)
theorem oz_pop (X : oz_E p l e R s m args below meth c Q cc nL Ts own D cI cZ ci T N KS ly ad A res G) {a : Value} (d : decode cc pc = .ok (.pop, 1)) (ha : a.category = 1) (kk : G k (pc + 1) L (S) st o) : G k pc L (a :: S) st o := by
  obtain ⟨rfl, ⟨hx, hb, -⟩, -⟩ := X
  intro ho H locs ls hP hS hl
  exact lv_pop hx hb d ha (kk ho H locs ls hP hS hl)
theorem oz_dup_x1 (X : oz_E p l e R s m args below meth c Q cc nL Ts own D cI cZ ci T N KS ly ad A res G) {a b : Value} (d : decode cc pc = .ok (.dup_x1, 1)) (ha : a.category = 1) (hb2 : b.category = 1) (kk : G k (pc + 1) L (a :: b :: a :: S) st o) : G k pc L (a :: b :: S) st o := by
  obtain ⟨rfl, ⟨hx, hb, -⟩, -⟩ := X
  intro ho H locs ls hP hS hl
  exact lv_dup_x1 hx hb d ha hb2 (kk ho H locs ls hP hS hl)
theorem oz_dup2 (X : oz_E p l e R s m args below meth c Q cc nL Ts own D cI cZ ci T N KS ly ad A res G) {a b : Value} (d : decode cc pc = .ok (.dup2, 1)) (ha : a.category = 1) (hb2 : b.category = 1) (kk : G k (pc + 1) L (a :: b :: a :: b :: S) st o) : G k pc L (a :: b :: S) st o := by
  obtain ⟨rfl, ⟨hx, hb, -⟩, -⟩ := X
  intro ho H locs ls hP hS hl
  exact lv_dup2_11 hx hb d ha hb2 (kk ho H locs ls hP hS hl)
theorem oz_ldc (X : oz_E p l e R s m args below meth c Q cc nL Ts own D cI cZ ci T N KS ly ad A res G) {index : Nat} {v : Int32} (hc : Cond.constant own index v ∈ Ts) (d : decode cc pc = .ok (.ldc index, 2)) (kk : G k (pc + 2) L (.int v :: S) st o) : G k pc L S st o := by
  obtain ⟨rfl, ⟨hx, hb, hml, hown, hts⟩, -⟩ := X
  intro ho H locs ls hP hS hl
  exact lv_ldc hx hb hown (hts _ hc) d (kk ho H locs ls hP hS hl)
theorem oz_istore_n (X : oz_E p l e R s m args below meth c Q cc nL Ts own D cI cZ ci T N KS ly ad A res G) {j : Fin 4} {i : Nat} {x : Int32} {L2 : List (Nat × Value)} (d : decode cc pc = .ok (.istore_n j, 1)) (hi : (j : Nat) = i) (hn : i < nL) (hL : (i, Value.int x) :: L.filter (fun q => !(q.1 == i) && !(q.1 + 1 == i && q.2.category == 2)) = L2) (kk : G k (pc + 1) L2 S st o) : G k pc L (.int x :: S) st o := by
  obtain ⟨rfl, ⟨hx, hb, -⟩, -⟩ := X
  intro ho H locs ls hP hS hl
  exact lv_istore_n hx hb d hi hl hn hL (fun ls2 hl2 => kk ho H locs ls2 hP hS hl2)
theorem oz_istore (X : oz_E p l e R s m args below meth c Q cc nL Ts own D cI cZ ci T N KS ly ad A res G)  {i : Nat} {x : Int32} {L2 : List (Nat × Value)} (d : decode cc pc = .ok (.istore i, 2))  (hn : i < nL) (hL : (i, Value.int x) :: L.filter (fun q => !(q.1 == i) && !(q.1 + 1 == i && q.2.category == 2)) = L2) (kk : G k (pc + 2) L2 S st o) : G k pc L (.int x :: S) st o := by
  obtain ⟨rfl, ⟨hx, hb, -⟩, -⟩ := X
  intro ho H locs ls hP hS hl
  exact lv_istore hx hb d hl hn hL (fun ls2 hl2 => kk ho H locs ls2 hP hS hl2)
theorem oz_iinc (X : oz_E p l e R s m args below meth c Q cc nL Ts own D cI cZ ci T N KS ly ad A res G) {i q : Nat} {n : Int} {x v : Int32} {L2 : List (Nat × Value)} (d : decode cc pc = .ok (.iinc i n, 3)) (hq : L[q]? = some (i, .int x)) (hv : x + Int32.ofInt n = v) (hn : i < nL) (hL : (i, Value.int v) :: L.filter (fun q => !(q.1 == i) && !(q.1 + 1 == i && q.2.category == 2)) = L2) (kk : G k (pc + 3) L2 S st o) : G k pc L S st o := by
  obtain ⟨rfl, ⟨hx, hb, -⟩, -⟩ := X
  intro ho H locs ls hP hS hl
  exact lv_iinc hx hb d hl hq hv hn hL (fun ls2 hl2 => kk ho H locs ls2 hP hS hl2)
theorem oz_if_eq (X : oz_E p l e R s m args below meth c Q cc nL Ts own D cI cZ ci T N KS ly ad A res G) {x : Int32} {off : Int} {tgt : Nat} (d : decode cc pc = .ok (.ifCond .eq off, 3)) (ht : (pc : Int) + off = (tgt : Int)) (k1 : x = 0 → G k tgt L S st o1) (k2 : ¬ x = 0 → G k (pc + 3) L S st o2) : G k pc L (.int x :: S) st (if x = 0 then o1 else o2) := by
  obtain ⟨rfl, ⟨hx, hb, -⟩, -⟩ := X
  intro ho H locs ls hP hS hl
  exact lv_if_eq hx hb d ht (fun h => (k1 h (by rw [if_pos h] at ho; exact ho) H locs ls hP hS hl)) (fun h => (k2 h (by rw [if_neg h] at ho; exact ho) H locs ls hP hS hl))
theorem oz_icmp_eq (X : oz_E p l e R s m args below meth c Q cc nL Ts own D cI cZ ci T N KS ly ad A res G) {x y : Int32} {off : Int} {tgt : Nat} (d : decode cc pc = .ok (.if_icmp .eq off, 3)) (ht : (pc : Int) + off = (tgt : Int)) (k1 : x = y → G k tgt L S st o1) (k2 : ¬ x = y → G k (pc + 3) L S st o2) : G k pc L (.int y :: .int x :: S) st (if x = y then o1 else o2) := by
  obtain ⟨rfl, ⟨hx, hb, -⟩, -⟩ := X
  intro ho H locs ls hP hS hl
  exact lv_icmp_eq hx hb d ht (fun h => (k1 h (by rw [if_pos h] at ho; exact ho) H locs ls hP hS hl)) (fun h => (k2 h (by rw [if_neg h] at ho; exact ho) H locs ls hP hS hl))
theorem oz_if_ne (X : oz_E p l e R s m args below meth c Q cc nL Ts own D cI cZ ci T N KS ly ad A res G) {x : Int32} {off : Int} {tgt : Nat} (d : decode cc pc = .ok (.ifCond .ne off, 3)) (ht : (pc : Int) + off = (tgt : Int)) (k1 : ¬ x = 0 → G k tgt L S st o1) (k2 : x = 0 → G k (pc + 3) L S st o2) : G k pc L (.int x :: S) st (if x = 0 then o2 else o1) := by
  obtain ⟨rfl, ⟨hx, hb, -⟩, -⟩ := X
  intro ho H locs ls hP hS hl
  exact lv_if_ne hx hb d ht (fun h => (k1 h (by rw [if_neg h] at ho; exact ho) H locs ls hP hS hl)) (fun h => (k2 h (by rw [if_pos h] at ho; exact ho) H locs ls hP hS hl))
theorem oz_icmp_ne (X : oz_E p l e R s m args below meth c Q cc nL Ts own D cI cZ ci T N KS ly ad A res G) {x y : Int32} {off : Int} {tgt : Nat} (d : decode cc pc = .ok (.if_icmp .ne off, 3)) (ht : (pc : Int) + off = (tgt : Int)) (k1 : ¬ x = y → G k tgt L S st o1) (k2 : x = y → G k (pc + 3) L S st o2) : G k pc L (.int y :: .int x :: S) st (if x = y then o2 else o1) := by
  obtain ⟨rfl, ⟨hx, hb, -⟩, -⟩ := X
  intro ho H locs ls hP hS hl
  exact lv_icmp_ne hx hb d ht (fun h => (k1 h (by rw [if_neg h] at ho; exact ho) H locs ls hP hS hl)) (fun h => (k2 h (by rw [if_pos h] at ho; exact ho) H locs ls hP hS hl))
theorem oz_if_lt (X : oz_E p l e R s m args below meth c Q cc nL Ts own D cI cZ ci T N KS ly ad A res G) {x : Int32} {off : Int} {tgt : Nat} (d : decode cc pc = .ok (.ifCond .lt off, 3)) (ht : (pc : Int) + off = (tgt : Int)) (k1 : x < 0 → G k tgt L S st o1) (k2 : ¬ x < 0 → G k (pc + 3) L S st o2) : G k pc L (.int x :: S) st (if x < 0 then o1 else o2) := by
  obtain ⟨rfl, ⟨hx, hb, -⟩, -⟩ := X
  intro ho H locs ls hP hS hl
  exact lv_if_lt hx hb d ht (fun h => (k1 h (by rw [if_pos h] at ho; exact ho) H locs ls hP hS hl)) (fun h => (k2 h (by rw [if_neg h] at ho; exact ho) H locs ls hP hS hl))
theorem oz_icmp_lt (X : oz_E p l e R s m args below meth c Q cc nL Ts own D cI cZ ci T N KS ly ad A res G) {x y : Int32} {off : Int} {tgt : Nat} (d : decode cc pc = .ok (.if_icmp .lt off, 3)) (ht : (pc : Int) + off = (tgt : Int)) (k1 : x < y → G k tgt L S st o1) (k2 : ¬ x < y → G k (pc + 3) L S st o2) : G k pc L (.int y :: .int x :: S) st (if x < y then o1 else o2) := by
  obtain ⟨rfl, ⟨hx, hb, -⟩, -⟩ := X
  intro ho H locs ls hP hS hl
  exact lv_icmp_lt hx hb d ht (fun h => (k1 h (by rw [if_pos h] at ho; exact ho) H locs ls hP hS hl)) (fun h => (k2 h (by rw [if_neg h] at ho; exact ho) H locs ls hP hS hl))
theorem oz_if_ge (X : oz_E p l e R s m args below meth c Q cc nL Ts own D cI cZ ci T N KS ly ad A res G) {x : Int32} {off : Int} {tgt : Nat} (d : decode cc pc = .ok (.ifCond .ge off, 3)) (ht : (pc : Int) + off = (tgt : Int)) (k1 : 0 ≤ x → G k tgt L S st o1) (k2 : ¬ 0 ≤ x → G k (pc + 3) L S st o2) : G k pc L (.int x :: S) st (if 0 ≤ x then o1 else o2) := by
  obtain ⟨rfl, ⟨hx, hb, -⟩, -⟩ := X
  intro ho H locs ls hP hS hl
  exact lv_if_ge hx hb d ht (fun h => (k1 h (by rw [if_pos h] at ho; exact ho) H locs ls hP hS hl)) (fun h => (k2 h (by rw [if_neg h] at ho; exact ho) H locs ls hP hS hl))
theorem oz_icmp_ge (X : oz_E p l e R s m args below meth c Q cc nL Ts own D cI cZ ci T N KS ly ad A res G) {x y : Int32} {off : Int} {tgt : Nat} (d : decode cc pc = .ok (.if_icmp .ge off, 3)) (ht : (pc : Int) + off = (tgt : Int)) (k1 : y ≤ x → G k tgt L S st o1) (k2 : ¬ y ≤ x → G k (pc + 3) L S st o2) : G k pc L (.int y :: .int x :: S) st (if y ≤ x then o1 else o2) := by
  obtain ⟨rfl, ⟨hx, hb, -⟩, -⟩ := X
  intro ho H locs ls hP hS hl
  exact lv_icmp_ge hx hb d ht (fun h => (k1 h (by rw [if_pos h] at ho; exact ho) H locs ls hP hS hl)) (fun h => (k2 h (by rw [if_neg h] at ho; exact ho) H locs ls hP hS hl))
theorem oz_if_gt (X : oz_E p l e R s m args below meth c Q cc nL Ts own D cI cZ ci T N KS ly ad A res G) {x : Int32} {off : Int} {tgt : Nat} (d : decode cc pc = .ok (.ifCond .gt off, 3)) (ht : (pc : Int) + off = (tgt : Int)) (k1 : 0 < x → G k tgt L S st o1) (k2 : ¬ 0 < x → G k (pc + 3) L S st o2) : G k pc L (.int x :: S) st (if 0 < x then o1 else o2) := by
  obtain ⟨rfl, ⟨hx, hb, -⟩, -⟩ := X
  intro ho H locs ls hP hS hl
  exact lv_if_gt hx hb d ht (fun h => (k1 h (by rw [if_pos h] at ho; exact ho) H locs ls hP hS hl)) (fun h => (k2 h (by rw [if_neg h] at ho; exact ho) H locs ls hP hS hl))
theorem oz_icmp_gt (X : oz_E p l e R s m args below meth c Q cc nL Ts own D cI cZ ci T N KS ly ad A res G) {x y : Int32} {off : Int} {tgt : Nat} (d : decode cc pc = .ok (.if_icmp .gt off, 3)) (ht : (pc : Int) + off = (tgt : Int)) (k1 : y < x → G k tgt L S st o1) (k2 : ¬ y < x → G k (pc + 3) L S st o2) : G k pc L (.int y :: .int x :: S) st (if y < x then o1 else o2) := by
  obtain ⟨rfl, ⟨hx, hb, -⟩, -⟩ := X
  intro ho H locs ls hP hS hl
  exact lv_icmp_gt hx hb d ht (fun h => (k1 h (by rw [if_pos h] at ho; exact ho) H locs ls hP hS hl)) (fun h => (k2 h (by rw [if_neg h] at ho; exact ho) H locs ls hP hS hl))
theorem oz_if_le (X : oz_E p l e R s m args below meth c Q cc nL Ts own D cI cZ ci T N KS ly ad A res G) {x : Int32} {off : Int} {tgt : Nat} (d : decode cc pc = .ok (.ifCond .le off, 3)) (ht : (pc : Int) + off = (tgt : Int)) (k1 : x ≤ 0 → G k tgt L S st o1) (k2 : ¬ x ≤ 0 → G k (pc + 3) L S st o2) : G k pc L (.int x :: S) st (if x ≤ 0 then o1 else o2) := by
  obtain ⟨rfl, ⟨hx, hb, -⟩, -⟩ := X
  intro ho H locs ls hP hS hl
  exact lv_if_le hx hb d ht (fun h => (k1 h (by rw [if_pos h] at ho; exact ho) H locs ls hP hS hl)) (fun h => (k2 h (by rw [if_neg h] at ho; exact ho) H locs ls hP hS hl))
theorem oz_icmp_le (X : oz_E p l e R s m args below meth c Q cc nL Ts own D cI cZ ci T N KS ly ad A res G) {x y : Int32} {off : Int} {tgt : Nat} (d : decode cc pc = .ok (.if_icmp .le off, 3)) (ht : (pc : Int) + off = (tgt : Int)) (k1 : x ≤ y → G k tgt L S st o1) (k2 : ¬ x ≤ y → G k (pc + 3) L S st o2) : G k pc L (.int y :: .int x :: S) st (if x ≤ y then o1 else o2) := by
  obtain ⟨rfl, ⟨hx, hb, -⟩, -⟩ := X
  intro ho H locs ls hP hS hl
  exact lv_icmp_le hx hb d ht (fun h => (k1 h (by rw [if_pos h] at ho; exact ho) H locs ls hP hS hl)) (fun h => (k2 h (by rw [if_neg h] at ho; exact ho) H locs ls hP hS hl))
theorem oz_goto (X : oz_E p l e R s m args below meth c Q cc nL Ts own D cI cZ ci T N KS ly ad A res G) {off : Int} {tgt : Nat} (d : decode cc pc = .ok (.goto off, 3)) (ht : (pc : Int) + off = (tgt : Int)) (kk : G k tgt L S st o) : G k pc L S st o := by
  obtain ⟨rfl, ⟨hx, hb, -⟩, -⟩ := X
  intro ho H locs ls hP hS hl
  exact lv_goto hx hb d ht (kk ho H locs ls hP hS hl)
theorem oz_getA (X : oz_E p l e R s m args below meth c Q cc nL Ts own D cI cZ ci T N KS ly ad A res G) (hin : ∀ w ∈ u_ws own T N, w ∈ Ts) {j n index : Nat} {b : Bool} (hj : ly[j]? = some (n + 1, b)) (hlink : Cond.fieldLink own index own (T j).2.1 (T j).2.2.1 ∈ Ts) (d : decode cc pc = .ok (.getfield index, 3)) (kk : G k (pc + 3) L (.ref (ad (j + 1)) :: S) st o) : G k pc L (.ref (ad 0) :: S) st o := by
  obtain ⟨rfl, ⟨hx, hb, hml, hown, hts⟩, hK, hD, hA, hC, -⟩ := X
  intro ho H locs ls hP hS hl
  have hjN : j < N := by rw [← hC.2.1]; exact (List.getElem?_eq_some_iff.mp hj).1
  refine va_get (ref := own) hx hb hts hin hown hK hP 0 (oz_wd_obj ci cI cZ ad ly st) hC.1 j hjN (hts _ hlink) (fun x h => by rw [hC.2.2.1 j hjN] at h; exact h) (v := .ref (ad (j + 1))) ?_ d (kk ho H locs ls hP hS hl)
  rw [oz_fl_ref ad st ly 0 j hj, Nat.zero_add]
theorem oz_getS (X : oz_E p l e R s m args below meth c Q cc nL Ts own D cI cZ ci T N KS ly ad A res G) (hin : ∀ w ∈ u_ws own T N, w ∈ Ts) {j index : Nat} {b : Bool} (hj : ly[j]? = some (0, b)) (hlink : Cond.fieldLink own index own (T j).2.1 (T j).2.2.1 ∈ Ts) (d : decode cc pc = .ok (.getfield index, 3)) (kk : G k (pc + 3) L (.int (st 0 j) :: S) st o) : G k pc L (.ref (ad 0) :: S) st o := by
  obtain ⟨rfl, ⟨hx, hb, hml, hown, hts⟩, hK, hD, hA, hC, -⟩ := X
  intro ho H locs ls hP hS hl
  have hjN : j < N := by rw [← hC.2.1]; exact (List.getElem?_eq_some_iff.mp hj).1
  refine va_get (ref := own) hx hb hts hin hown hK hP 0 (oz_wd_obj ci cI cZ ad ly st) hC.1 j hjN (hts _ hlink) (fun x h => by rw [hC.2.2.1 j hjN] at h; exact h) (v := .int (st 0 j)) ?_ d (kk ho H locs ls hP hS hl)
  rw [oz_fl_int ad st ly 0 j hj, Nat.zero_add]
theorem oz_putS (X : oz_E p l e R s m args below meth c Q cc nL Ts own D cI cZ ci T N KS ly ad A res G) (hin : ∀ w ∈ u_ws own T N, w ∈ Ts) {j index : Nat} {b : Bool} {v : Int32} {f : ST → Option Res} (hj : ly[j]? = some (0, b)) (hlink : Cond.fieldLink own index own (T j).2.1 (T j).2.2.1 ∈ Ts) (d : decode cc pc = .ok (.putfield index, 3)) (kk : ∀ st2, st2 = oz_se st 0 j v → G k (pc + 3) L S st2 (f st2)) : G k pc L (.int v :: .ref (ad 0) :: S) st (stp (oz_se st 0 j v) f) := by
  obtain ⟨rfl, ⟨hx, hb, hml, hown, hts⟩, hK, hD, hA, hC, -⟩ := X
  intro ho H locs ls hP hS hl
  have hjN : j < N := by rw [← hC.2.1]; exact (List.getElem?_eq_some_iff.mp hj).1
  obtain ⟨ty0, ht1, ht2⟩ := hC.2.2.2.1
  refine va_put (ref := own) hx hb hts hin ty0 ht1 hC.2.2.2.2 hown hK hP (hD st) hS 0 (oz_wd_obj ci cI cZ ad ly st) hC.1 j hjN (hts _ hlink) (fun x h => by rw [hC.2.2.1 j hjN] at h; exact h) (ht2 j b hj).2 (ty := .int) (v := .int v) (by rw [ht1 j hjN, (ht2 j b hj).1]) rfl rfl (by rw [oz_fl_len, hC.2.1]; exact hjN) d (fun H1 locs1 hP1 _ hS1 => ?_)
  rw [oz_wd_put ci cI cZ ad ly st hj v] at hP1
  exact kk _ rfl ho H1 locs1 ls hP1 hS1 hl
theorem oz_iald (X : oz_E p l e R s m args below meth c Q cc nL Ts own D cI cZ ci T N KS ly ad A res G) {j n : Nat} {i : Int32} (hj : ly[j]? = some (n, false)) (hn : 0 < n) (d : decode cc pc = .ok (.iaload, 1)) (kk : oz_in i n = true → G k (pc + 1) L (.int (st (j + 1) i.toNatClampNeg) :: S) st o) : G k pc L (.int i :: .ref (ad (j + 1)) :: S) st (gd (oz_in i n) o) := by
  obtain ⟨rfl, ⟨hx, hb, hml, hown, hts⟩, hK, hD, hA, hC, -⟩ := X
  intro ho H locs ls hP hS hl
  by_cases hi : oz_in i n = true
  · rw [gd, if_pos hi] at ho
    obtain ⟨n0, rfl⟩ : ∃ n0, n = n0 + 1 := ⟨n - 1, by omega⟩
    obtain ⟨q, hq, -⟩ := oz_wd_get ci cI cZ ad ly st hj
    exact va_iald hx hb hK hP q 0 hq rfl (oz_in_spec hi) d (kk hi ho H locs ls hP hS hl)
  · rw [gd, if_neg hi] at ho
    cases ho
theorem oz_zald (X : oz_E p l e R s m args below meth c Q cc nL Ts own D cI cZ ci T N KS ly ad A res G) {j n : Nat} {i : Int32} (hj : ly[j]? = some (n, true)) (hn : 0 < n) (d : decode cc pc = .ok (.baload, 1)) (kk : oz_in i n = true → G k (pc + 1) L (.int (st (j + 1) i.toNatClampNeg) :: S) st o) : G k pc L (.int i :: .ref (ad (j + 1)) :: S) st (gd (oz_in i n) o) := by
  obtain ⟨rfl, ⟨hx, hb, hml, hown, hts⟩, hK, hD, hA, hC, -⟩ := X
  intro ho H locs ls hP hS hl
  by_cases hi : oz_in i n = true
  · rw [gd, if_pos hi] at ho
    obtain ⟨n0, rfl⟩ : ∃ n0, n = n0 + 1 := ⟨n - 1, by omega⟩
    obtain ⟨q, hq, -⟩ := oz_wd_get ci cI cZ ad ly st hj
    exact va_zald hx hb hK hP q 1 hq rfl (oz_in_spec hi) d (kk hi ho H locs ls hP hS hl)
  · rw [gd, if_neg hi] at ho
    cases ho
theorem oz_iast (X : oz_E p l e R s m args below meth c Q cc nL Ts own D cI cZ ci T N KS ly ad A res G) {j n : Nat} {i v : Int32} {f : ST → Option Res} (hj : ly[j]? = some (n, false)) (hn : 0 < n) (d : decode cc pc = .ok (.iastore, 1)) (kk : ∀ st2, st2 = oz_se st (j + 1) i.toNatClampNeg v → oz_in i n = true → G k (pc + 1) L S st2 (f st2)) : G k pc L (.int v :: .int i :: .ref (ad (j + 1)) :: S) st (gd (oz_in i n) (stp (oz_se st (j + 1) i.toNatClampNeg v) f)) := by
  obtain ⟨rfl, ⟨hx, hb, hml, hown, hts⟩, hK, hD, hA, hC, -⟩ := X
  intro ho H locs ls hP hS hl
  by_cases hi : oz_in i n = true
  · rw [gd, if_pos hi] at ho
    obtain ⟨n0, rfl⟩ : ∃ n0, n = n0 + 1 := ⟨n - 1, by omega⟩
    obtain ⟨q, hq, hset⟩ := oz_wd_get ci cI cZ ad ly st hj
    refine va_iast hx hb hK hP (hD st) hS q 0 hq rfl (oz_in_spec hi) d (fun H1 locs1 hP1 _ hS1 => ?_)
    have e := hset i.toNatClampNeg v
    rw [e] at hP1
    exact kk _ rfl hi ho H1 locs1 ls hP1 hS1 hl
  · rw [gd, if_neg hi] at ho
    cases ho
theorem oz_zast (X : oz_E p l e R s m args below meth c Q cc nL Ts own D cI cZ ci T N KS ly ad A res G) {j n : Nat} {i v v2 : Int32} {f : ST → Option Res} (hj : ly[j]? = some (n, true)) (hn : 0 < n) (hv : vp_nar .boolean v = v2) (d : decode cc pc = .ok (.bastore, 1)) (kk : ∀ st2, st2 = oz_se st (j + 1) i.toNatClampNeg v2 → oz_in i n = true → G k (pc + 1) L S st2 (f st2)) : G k pc L (.int v :: .int i :: .ref (ad (j + 1)) :: S) st (gd (oz_in i n) (stp (oz_se st (j + 1) i.toNatClampNeg v2) f)) := by
  obtain ⟨rfl, ⟨hx, hb, hml, hown, hts⟩, hK, hD, hA, hC, -⟩ := X
  intro ho H locs ls hP hS hl
  subst hv
  by_cases hi : oz_in i n = true
  · rw [gd, if_pos hi] at ho
    obtain ⟨n0, rfl⟩ : ∃ n0, n = n0 + 1 := ⟨n - 1, by omega⟩
    obtain ⟨q, hq, hset⟩ := oz_wd_get ci cI cZ ad ly st hj
    refine va_zast hx hb hK hP (hD st) hS q 1 hq rfl (oz_in_spec hi) d (fun H1 locs1 hP1 _ hS1 => ?_)
    have e := hset i.toNatClampNeg (vp_nar .boolean v)
    rw [e] at hP1
    exact kk _ rfl hi ho H1 locs1 ls hP1 hS1 hl
  · rw [gd, if_neg hi] at ho
    cases ho

/-- the end with a number -/
theorem oz_iret (X : oz_E p l e R s m args below meth c Q cc nL Ts own D cI cZ ci T N KS ly ad A res G) {kc : Nat} (hQ : Q = vx_MQ below (oz_Qi D cI cZ ci ad ly res A) (oz_XC D cI cZ ci ad ly res A) args s kc (6 * kc) A) (hr : meth.sig.returnType = some .int) {v : Int32} (hk : k ≤ kc) (d : decode cc pc = .ok (.ireturn, 1)) : G k pc L [.int v] st (some (0, v, st)) := by
  obtain ⟨rfl, ⟨hx, hb, hml, hown, hts⟩, hK, hD, hA, hC, -, -, -, -, -, hlk, -⟩ := X
  intro ho H locs ls hP hS hl
  subst hQ
  refine W.widen (k := kc) (n := 6 * kc) hk (by omega) (vx_ret ?_)
  exact W.iret hx hb hr (fun t ht hW => ⟨⟨v, st, rfl, Option.some.inj ho, by unfold oz_B; rw [ht]; exact hP⟩, hS.F ht⟩) hS.2.2 d hlk
theorem oz_zret (X : oz_E p l e R s m args below meth c Q cc nL Ts own D cI cZ ci T N KS ly ad A res G) {kc : Nat} (hQ : Q = vx_MQ below (oz_Qi D cI cZ ci ad ly res A) (oz_XC D cI cZ ci ad ly res A) args s kc (6 * kc) A) (hr : meth.sig.returnType = some .boolean) {v : Int32} (hv : narrow .boolean (.int v) = .int v) (hk : k ≤ kc) (d : decode cc pc = .ok (.ireturn, 1)) : G k pc L [.int v] st (some (0, v, st)) := by
  obtain ⟨rfl, ⟨hx, hb, hml, hown, hts⟩, hK, hD, hA, hC, -, -, -, -, -, hlk, -⟩ := X
  intro ho H locs ls hP hS hl
  subst hQ
  refine W.widen (k := kc) (n := 6 * kc) hk (by omega) (vx_ret ?_)
  exact W.zret hx hb hr hv (fun t ht hW => ⟨⟨v, st, rfl, Option.some.inj ho, by unfold oz_B; rw [ht]; exact hP⟩, hS.F ht⟩) hS.2.2 d hlk
/-- a boolean out of a row: it is 0 or 1, or there is no answer -/
def oz_bit (v : Int32) : Bool := decide (v = 0 ∨ v = 1)
theorem oz_zretG (X : oz_E p l e R s m args below meth c Q cc nL Ts own D cI cZ ci T N KS ly ad A res G) {kc : Nat} (hQ : Q = vx_MQ below (oz_Qi D cI cZ ci ad ly res A) (oz_XC D cI cZ ci ad ly res A) args s kc (6 * kc) A) (hr : meth.sig.returnType = some .boolean) {v : Int32} (hk : k ≤ kc) (d : decode cc pc = .ok (.ireturn, 1)) : G k pc L [.int v] st (gd (oz_bit v) (some (0, v, st))) := by
  by_cases hb : oz_bit v = true
  · rw [gd, if_pos hb]
    refine oz_zret X hQ hr ?_ hk d
    rcases of_decide_eq_true hb with rfl | rfl <;> rfl
  · rw [gd, if_neg hb]
    obtain ⟨rfl, -⟩ := X
    intro ho
    cases ho
theorem oz_vret (X : oz_E p l e R s m args below meth c Q cc nL Ts own D cI cZ ci T N KS ly ad A res G) {kc : Nat} (hQ : Q = vx_MQ below (oz_Qv D cI cZ ci ad ly res A) (oz_XC D cI cZ ci ad ly res A) args s kc (6 * kc) A) (hr : meth.sig.returnType = none) (hk : k ≤ kc) (d : decode cc pc = .ok (.return_, 1)) : G k pc L [] st (some (0, 0, st)) := by
  obtain ⟨rfl, ⟨hx, hb, hml, hown, hts⟩, hK, hD, hA, hC, -, -, -, -, -, hlk, -⟩ := X
  intro ho H locs ls hP hS hl
  subst hQ
  refine W.widen (k := kc) (n := 6 * kc) hk (by omega) (vx_ret ?_)
  exact W.vret hx hb hr (fun t ht hW => ⟨⟨st, rfl, Option.some.inj ho, by unfold oz_B; rw [ht]; exact hP⟩, hS.F ht⟩) hS.2.2 d hlk
/-- no answer: nothing is owed -/
theorem oz_none (X : oz_E p l e R s m args below meth c Q cc nL Ts own D cI cZ ci T N KS ly ad A res G) : G k pc L S st none := by
  obtain ⟨rfl, -⟩ := X
  intro ho
  cases ho

/-- throw new E(text) -/
theorem oz_throw (X : oz_E p l e R s m args below meth c Q cc nL Ts own D cI cZ ci T N KS ly ad A res G) {kc : Nat} {Qc : Array Value → State → Outcome → State → Prop} (hQ : Q = vx_MQ below Qc (oz_XC D cI cZ ci ad ly res A) args s kc (6 * kc) A) (en : Nat) {text : String} {ik is ic : Nat} (he : en ≠ 0) (hstr : (is, text) ∈ KS) (hcls : Bundle.fit (oz_exn en) = true)
    (hk : Cond.classLink own ik (oz_exn en) ∈ Ts) (hini : Cond.initialized (oz_exn en) ∈ Ts) (hin1 : ∀ w ∈ (vx_atS own ic (oz_exn en) oz_names).filter goodWord, w ∈ Ts) (hin2 : ∀ w ∈ (vx_atS own ic (oz_exn en) oz_names).filter (fun w => !goodWord w), w ∈ oz_BX)
    (hgood : ∀ w ∈ Cond.classLink own ik (oz_exn en) :: Cond.initialized (oz_exn en) :: vx_atS own ic (oz_exn en) oz_names, vx_ot w = true)
    (d0 : decode cc pc = .ok (.new ik, 3)) (d3 : decode cc (pc + 3) = .ok (.dup, 1)) (d4 : decode cc (pc + 4) = .ok (.ldc is, 2)) (d6 : decode cc (pc + 6) = .ok (.invokespecial ic, 3)) (d9 : decode cc (pc + 9) = .ok (.athrow, 1))
    (hf : 5 < R.frames) (hl2 : (S.map fun v => v.category).sum + 82 ≤ R.locals) (hkc : k + 1 ≤ kc) (hkR : kc ≤ R.cells) (hkS : 6 * kc ≤ R.slots) : G k pc L S st (some (en, 0, st)) := by
  obtain ⟨rfl, ⟨hx, hb, hml, hown, hts⟩, hK, hD, hA, hC, hKS, hBX, hU, hN, hst, hlk, hex⟩ := X
  intro ho H locs ls hP hS hl
  subst hQ
  obtain ⟨sa, hsa⟩ := hKS _ hstr
  refine vx_throwS (cls := oz_exn en) (text := text) (names := oz_names) (mc := kc) (ms := 6 * kc) (sa := sa) (A := A) hx hb hst hown hcls (by decide +kernel) (hts _ hk) (hts _ hini) hsa (vx_hat (B := oz_BX) (fun w h => hts w (hin1 w h)) hin2 (fun w h => va_Nw.use (oz_BX_on w h) (hBX w h))) hgood hU hN hS (hl.1.trans hml.symm) d0 d3 d4 d6 d9 (fun x h => (hex x h).elim) (by show 2 + 3 < R.frames; omega) (by show _ + (13 * (2 + 1) + 43) ≤ R.locals; omega) (by omega) (by omega) hlk ?_ hS.2.2 (by omega) (by omega)
  intro t hvm hz hq
  refine ⟨(en, st), ⟨Option.some.inj ho, he⟩, ⟨rfl, ?_⟩, Nat.le_trans hS.1 hz, fun q h1 h2 => by rw [hq q (Nat.lt_of_lt_of_le h1 hS.1)]; exact hS.2.1 q h1 h2⟩
  exact fun j q hj => (hP j q hj).kept (hq q.1 (vx_lt hP hj))

theorem oz_callV (X : oz_E p l e R s m args below meth c Q cc nL Ts own D cI cZ ci T N KS ly ad A res G) {kc0 kc : Nat} {Qc : Array Value → State → Outcome → State → Prop} (hQ : Q = vx_MQ below Qc (oz_XC D cI cZ ci ad ly res A) args s kc0 (6 * kc0) A) {y : MethodName} {ws ws' : List Cond} {rm : Room} {bytes : ByteArray} {maxL index n : Nat} {ret : Option FieldType} {As : List Value} {fo : ST → Option Res} {S0 : List Value} {f : Int32 → ST → Option Res}
    (hM : oz_MI l y ws rm D cI cZ own ci KS ad ly kc (.ref (ad 0) :: As) fo) (g : GoodIn Ts (wsV own index own y ws)) (hw : ws = Cond.code y bytes maxL ret :: ws') (hrc : rm.cells = kc) (hrs : rm.slots = 6 * kc) (hd : y.cls = own ∧ y.cls ≠ "java/lang/invoke/MethodHandle" ∧ y.cls ≠ "java/lang/invoke/VarHandle" ∧ (parseMethodDescriptor y.desc).map (fun d => d.parameters.length) = some n) (hR : rm.frames + 1 ≤ R.frames ∧ 8 + (maxL + 11) + rm.locals ≤ R.locals)
    (hn : As.length = n) (hst : S0 = As.reverse ++ .ref (ad 0) :: S) (hW : (S.map fun v => v.category).sum ≤ 8) (d : decode cc pc = .ok (.invokevirtual index, 3)) (hkc : k + kc ≤ kc0) (hkR : kc0 ≤ R.cells) (hkS : 6 * kc0 ≤ R.slots) (kk : ∀ r st2, G (k + kc) (pc + 3) L (.int r :: S) st2 (f r st2)) : G k pc L S0 st (bnd (fo st) f) := by
  have hts := X.hts
  obtain ⟨rfl, ⟨hx, hb, hml, hown, -⟩, hK, hD, hA, hC, hKS, hBX, hUZ, hN, hstt, hlk, hex⟩ := X
  intro ho H locs ls hP hS hl
  subst hQ
  cases hfo : fo st with
  | none => rw [hfo] at ho; cases ho
  | some r0 =>
    obtain ⟨en, v, stv⟩ := r0
    have hAA : ∀ q, va_A (oz_wd ci cI cZ ad ly st) H.size q → A q := fun q h => h.elim (fun ⟨j, e1, hj⟩ => (hD st).2 j _ hj) (fun h => hA q (Nat.le_trans hS.1 h))
    have cw := cwV n hts g hw hrc hrs hd hR
    refine vx_calli (vx_runV (As := As) (rest := S) ⟨hx, hb, hml, hown, hts⟩ (hM H.size st _ hfo) cw ⟨oz_Pre_blind, va_recv hK hP (q0 := 0) hC.1 (oz_wd_obj ci cI cZ ad ly st), fun U hU hW => ?_⟩ rfl hn hl.1 hst (lv_room hW) d ⟨by omega, by omega⟩) hS (fun q _ h => hAA q h) hAA (fun q _ h => hAA q h) (fun E ce q9 u t H1 locs1 ht hvm hp hB hz hkeep hS1 hq9 hcv hcl => ?_) (fun r u t H1 locs1 ht hvm hp hB hz hkeep hS1 => ?_)
    · refine ⟨rfl, by rw [hU], by rw [hU]; exact hP, va_K.moved hW.alike hK, (hD st).weaken (fun _ _ _ _ => trivial), fun q hq => (hKS q hq).elim fun sa h => ⟨sa, vk_R.warm hW h⟩, oz_BX_warm hW hBX, ?_, ?_⟩
      · rw [hU]; exact ((vx_Zq.moved hW.alike hUZ).kept hS.2.1).narrow hAA
      · rw [hU]; exact ((vx_Zq.moved hW.alike hN).kept hS.2.1).narrow hAA
    · obtain ⟨hp1, hp2⟩ := hp
      obtain ⟨hE, hB⟩ := hB
      cases hp1
      rw [hfo] at ho
      have ho2 : some (u.1, (0 : Int32), u.2) = some res := by
        have h9 : bnd (some (u.1, (0 : Int32), u.2)) f = some (u.1, 0, u.2) := by simp [bnd, hp2]
        rw [← ho]; exact h9.symm
      refine vx_outP hown hlk (fun z hz2 => (hex z hz2).elim) hq9 hcv hcl (fun t2 ht2 hvm2 => ?_) hS1.2.2 hkc (by omega)
      refine ⟨u, ⟨Option.some.inj ho2, hp2⟩, ⟨hE, ?_⟩, ?_⟩
      · unfold oz_B at hB ⊢; rw [ht2, ← ht]; exact hB
      · exact hS1.F ht2
    · cases hp
      rw [hfo] at ho
      unfold oz_B at hB
      rw [ht] at hB
      rw [show 6 * k + 6 * kc = 6 * (k + kc) from (Nat.mul_add 6 k kc).symm]
      exact kk v stv (by simpa [bnd] using ho) H1 locs1 ls hB hS1 hl

theorem oz_callVv (X : oz_E p l e R s m args below meth c Q cc nL Ts own D cI cZ ci T N KS ly ad A res G) {kc0 kc : Nat} {Qc : Array Value → State → Outcome → State → Prop} (hQ : Q = vx_MQ below Qc (oz_XC D cI cZ ci ad ly res A) args s kc0 (6 * kc0) A) {y : MethodName} {ws ws' : List Cond} {rm : Room} {bytes : ByteArray} {maxL index n : Nat} {ret : Option FieldType} {As : List Value} {fo : ST → Option Res} {S0 : List Value} {f : Int32 → ST → Option Res}
    (hM : oz_MV l y ws rm D cI cZ own ci KS ad ly kc (.ref (ad 0) :: As) fo) (g : GoodIn Ts (wsV own index own y ws)) (hw : ws = Cond.code y bytes maxL ret :: ws') (hrc : rm.cells = kc) (hrs : rm.slots = 6 * kc) (hd : y.cls = own ∧ y.cls ≠ "java/lang/invoke/MethodHandle" ∧ y.cls ≠ "java/lang/invoke/VarHandle" ∧ (parseMethodDescriptor y.desc).map (fun d => d.parameters.length) = some n) (hR : rm.frames + 1 ≤ R.frames ∧ 8 + (maxL + 11) + rm.locals ≤ R.locals)
    (hn : As.length = n) (hst : S0 = As.reverse ++ .ref (ad 0) :: S) (hW : (S.map fun v => v.category).sum ≤ 8) (d : decode cc pc = .ok (.invokevirtual index, 3)) (hkc : k + kc ≤ kc0) (hkR : kc0 ≤ R.cells) (hkS : 6 * kc0 ≤ R.slots) (kk : ∀ st2, G (k + kc) (pc + 3) L S st2 (f 0 st2)) : G k pc L S0 st (bnd (fo st) f) := by
  have hts := X.hts
  obtain ⟨rfl, ⟨hx, hb, hml, hown, -⟩, hK, hD, hA, hC, hKS, hBX, hUZ, hN, hstt, hlk, hex⟩ := X
  intro ho H locs ls hP hS hl
  subst hQ
  cases hfo : fo st with
  | none => rw [hfo] at ho; cases ho
  | some r0 =>
    obtain ⟨en, v, stv⟩ := r0
    have hAA : ∀ q, va_A (oz_wd ci cI cZ ad ly st) H.size q → A q := fun q h => h.elim (fun ⟨j, e1, hj⟩ => (hD st).2 j _ hj) (fun h => hA q (Nat.le_trans hS.1 h))
    have cw := cwV n hts g hw hrc hrs hd hR
    refine vx_callv (vx_runV (As := As) (rest := S) ⟨hx, hb, hml, hown, hts⟩ (hM H.size st _ hfo) cw ⟨oz_Pre_blind, va_recv hK hP (q0 := 0) hC.1 (oz_wd_obj ci cI cZ ad ly st), fun U hU hW => ?_⟩ rfl hn hl.1 hst (lv_room hW) d ⟨by omega, by omega⟩) hS (fun q _ h => hAA q h) hAA (fun q _ h => hAA q h) (fun E ce q9 u t H1 locs1 ht hvm hp hB hz hkeep hS1 hq9 hcv hcl => ?_) (fun u t H1 locs1 ht hvm hp hB hz hkeep hS1 => ?_)
    · refine ⟨rfl, by rw [hU], by rw [hU]; exact hP, va_K.moved hW.alike hK, (hD st).weaken (fun _ _ _ _ => trivial), fun q hq => (hKS q hq).elim fun sa h => ⟨sa, vk_R.warm hW h⟩, oz_BX_warm hW hBX, ?_, ?_⟩
      · rw [hU]; exact ((vx_Zq.moved hW.alike hUZ).kept hS.2.1).narrow hAA
      · rw [hU]; exact ((vx_Zq.moved hW.alike hN).kept hS.2.1).narrow hAA
    · obtain ⟨hp1, hp2⟩ := hp
      obtain ⟨hE, hB⟩ := hB
      cases hp1
      rw [hfo] at ho
      have ho2 : some (u.1, (0 : Int32), u.2) = some res := by
        have h9 : bnd (some (u.1, (0 : Int32), u.2)) f = some (u.1, 0, u.2) := by simp [bnd, hp2]
        rw [← ho]; exact h9.symm
      refine vx_outP hown hlk (fun z hz2 => (hex z hz2).elim) hq9 hcv hcl (fun t2 ht2 hvm2 => ?_) hS1.2.2 hkc (by omega)
      refine ⟨u, ⟨Option.some.inj ho2, hp2⟩, ⟨hE, ?_⟩, ?_⟩
      · unfold oz_B at hB ⊢; rw [ht2, ← ht]; exact hB
      · exact hS1.F ht2
    · cases hp
      rw [hfo] at ho
      unfold oz_B at hB
      rw [ht] at hB
      rw [show 6 * k + 6 * kc = 6 * (k + kc) from (Nat.mul_add 6 k kc).symm]
      exact kk stv (by simpa [bnd] using ho) H1 locs1 ls hB hS1 hl

theorem oz_callS (X : oz_E p l e R s m args below meth c Q cc nL Ts own D cI cZ ci T N KS ly ad A res G) {kc0 kc : Nat} {Qc : Array Value → State → Outcome → State → Prop} (hQ : Q = vx_MQ below Qc (oz_XC D cI cZ ci ad ly res A) args s kc0 (6 * kc0) A) {y : MethodName} {ws ws' : List Cond} {rm : Room} {bytes : ByteArray} {maxL index n : Nat} {ret : Option FieldType} {As : List Value} {fo : ST → Option Res} {S0 : List Value} {f : Int32 → ST → Option Res}
    (hM : oz_MI l y ws rm D cI cZ own ci KS ad ly kc As fo) (g : GoodIn Ts (va_wsS own index y ws)) (hw : ws = Cond.code y bytes maxL ret :: ws') (hrc : rm.cells = kc) (hrs : rm.slots = 6 * kc) (hd : y.cls ≠ "java/lang/invoke/MethodHandle" ∧ y.cls ≠ "java/lang/invoke/VarHandle" ∧ (parseMethodDescriptor y.desc).map (fun d => d.parameters.length) = some n) (hR : rm.frames + 1 ≤ R.frames ∧ 8 + (maxL + 11) + rm.locals ≤ R.locals)
    (hn : As.length = n) (hst : S0 = As.reverse ++ S) (hW : (S.map fun v => v.category).sum ≤ 8) (d : decode cc pc = .ok (.invokestatic index, 3)) (hkc : k + kc ≤ kc0) (hkR : kc0 ≤ R.cells) (hkS : 6 * kc0 ≤ R.slots) (kk : ∀ r st2, G (k + kc) (pc + 3) L (.int r :: S) st2 (f r st2)) : G k pc L S0 st (bnd (fo st) f) := by
  have hts := X.hts
  obtain ⟨rfl, ⟨hx, hb, hml, hown, -⟩, hK, hD, hA, hC, hKS, hBX, hUZ, hN, hstt, hlk, hex⟩ := X
  intro ho H locs ls hP hS hl
  subst hQ
  cases hfo : fo st with
  | none => rw [hfo] at ho; cases ho
  | some r0 =>
    obtain ⟨en, v, stv⟩ := r0
    have hAA : ∀ q, va_A (oz_wd ci cI cZ ad ly st) H.size q → A q := fun q h => h.elim (fun ⟨j, e1, hj⟩ => (hD st).2 j _ hj) (fun h => hA q (Nat.le_trans hS.1 h))
    have cw := va_cwS n hts g hw hrc hrs hd hR
    refine vx_calli (vx_runS (As := As) (rest := S) ⟨hx, hb, hml, hown, hts⟩ (hM H.size st _ hfo) cw ⟨oz_Pre_blind, fun U hU hW => ?_⟩ rfl hn hl.1 hst (lv_room hW) d ⟨by omega, by omega⟩) hS (fun q _ h => hAA q h) hAA (fun q _ h => hAA q h) (fun E ce q9 u t H1 locs1 ht hvm hp hB hz hkeep hS1 hq9 hcv hcl => ?_) (fun r u t H1 locs1 ht hvm hp hB hz hkeep hS1 => ?_)
    · refine ⟨rfl, by rw [hU], by rw [hU]; exact hP, va_K.moved hW.alike hK, (hD st).weaken (fun _ _ _ _ => trivial), fun q hq => (hKS q hq).elim fun sa h => ⟨sa, vk_R.warm hW h⟩, oz_BX_warm hW hBX, ?_, ?_⟩
      · rw [hU]; exact ((vx_Zq.moved hW.alike hUZ).kept hS.2.1).narrow hAA
      · rw [hU]; exact ((vx_Zq.moved hW.alike hN).kept hS.2.1).narrow hAA
    · obtain ⟨hp1, hp2⟩ := hp
      obtain ⟨hE, hB⟩ := hB
      cases hp1
      rw [hfo] at ho
      have ho2 : some (u.1, (0 : Int32), u.2) = some res := by
        have h9 : bnd (some (u.1, (0 : Int32), u.2)) f = some (u.1, 0, u.2) := by simp [bnd, hp2]
        rw [← ho]; exact h9.symm
      refine vx_outP hown hlk (fun z hz2 => (hex z hz2).elim) hq9 hcv hcl (fun t2 ht2 hvm2 => ?_) hS1.2.2 hkc (by omega)
      refine ⟨u, ⟨Option.some.inj ho2, hp2⟩, ⟨hE, ?_⟩, ?_⟩
      · unfold oz_B at hB ⊢; rw [ht2, ← ht]; exact hB
      · exact hS1.F ht2
    · cases hp
      rw [hfo] at ho
      unfold oz_B at hB
      rw [ht] at hB
      rw [show 6 * k + 6 * kc = 6 * (k + kc) from (Nat.mul_add 6 k kc).symm]
      exact kk v stv (by simpa [bnd] using ho) H1 locs1 ls hB hS1 hl

/-- Math.abs -/
theorem oz_abs (X : oz_E p l e R s m args below meth c Q cc nL Ts own D cI cZ ci T N KS ly ad A res G) {index : Nat} {x : Int32} (hlink : Cond.methodLink own index Lib.Math.abs.name ∈ Ts) (hstat : Cond.static Lib.Math.abs.name ∈ Ts) (hini : Cond.initialized "java/lang/Math" ∈ Ts) (hcode : Cond.code Lib.Math.abs.name Lib.Math.abs.code 1 (some .int) ∈ Ts) (hf : 1 ≤ R.frames) (hlc : (S.map fun v => v.category).sum + 13 ≤ R.locals) (hc : k ≤ R.cells) (hs : 6 * k ≤ R.slots) (d : decode cc pc = .ok (.invokestatic index, 3)) (kk : G k (pc + 3) L (.int (if 0 ≤ x then x else 0 - x) :: S) st o) : G k pc L (.int x :: S) st o := by
  obtain ⟨rfl, ⟨hx, hb, hml, hown, hts⟩, -⟩ := X
  intro ho H locs ls hP hS hl
  exact va_mabs hx hb (hml.trans hl.1.symm) hown (hts _ hlink) (hts _ hstat) (hts _ hini) (hts _ hcode) hf hlc hc hs d (kk ho H locs ls hP hS hl)

end OZ
/-- a contract out of a road from the entry -/
theorem oz_ofI {l : Launch} {y : MethodName} {ws ws' : List Cond} {rm : Room} {D : va_G} {cI cZ : ClassId} {own : String} {ci : Nat} {T : u_T} {N : Nat} {KS : KSt} {ad : Nat → Nat} {ly : LY} {kc : Nat} {av : List Value} {o : ST → Option Res} {bytes : ByteArray} {maxL : Nat} {ret : Option FieldType} (hy : plainName y.cls = true) (hw : ws = Cond.code y bytes maxL ret :: ws') (hcls : y.cls = own) (hC : oz_C own ci T N ly) (hst : l.stackTraces = false) (hlen : (lg_sl av).length ≤ maxL)
    (body : ∀ (p : Program) (e : Env) (s : State) (m : MethodId) (below : List Frame) (meth : Method) (c : Code) (st : ST) (A : Nat → Prop) (res : Res) (G : Nat → Nat → List (Nat × Value) → List Value → ST → Option Res → Prop), meth.sig.returnType = ret →
      oz_E p l e rm s m av.toArray below meth c (vx_MQ below (oz_Qi D cI cZ ci ad ly res A) (oz_XC D cI cZ ci ad ly res A) av.toArray s kc (6 * kc) A) bytes maxL ws own D cI cZ ci T N KS ly ad A res G → G 0 0 (lv_args 0 av) [] st (o st)) : oz_MI l y ws rm D cI cZ own ci KS ad ly kc av o := by
  intro sz st res ho
  refine vx_ofW (cc := bytes) (maxL := maxL) (ret := ret) hy hw ?_
  intro p e s m args below meth c s₁ B hml hex hv
  obtain ⟨rfl, hsz, hP, hK, hD0, hKS, hBX, hU, hN⟩ := hv
  have hx := B.exec
  have hb := B.bytes
  have hr := B.returns
  have hts := atoms_spec (ws := ws) B.pre
  have hown : s.vm.findClass own = some m.cls := by rw [← hcls]; exact findClass_of_methodNamed B.named
  subst hsz
  generalize hAe : va_A (oz_wd ci cI cZ ad ly st) s.heap.size = A at hU hN ⊢
  have hD : ∀ st2, va_D A (oz_wd ci cI cZ ad ly st2) := fun st2 => by
    rw [← hAe]
    exact oz_D_cong (oz_wd_fst ci cI cZ ad ly st st2) (hD0.self (sz := s.heap.size))
  have hA : ∀ q : Nat, s.heap.size ≤ q → A q := fun q h => by rw [← hAe]; exact Or.inr h
  have hl := lv_entry av (n := maxL) hlen
  rw [lg_entry_eq]
  generalize (lg_sl av ++ List.replicate (maxL - (lg_sl av).length) Slot.unset).toArray = ls at hl ⊢
  exact body p e s m below meth c st A res _ hr ⟨rfl, ⟨hx, hb, hml, hown, hts⟩, hK, hD, hA, hC, hKS, hBX, hU, hN, hst, B.notSynchronized, hex⟩ ho s.heap [] ls hP va_S.rf hl

/-- a contract out of a road from the entry -/
theorem oz_ofV {l : Launch} {y : MethodName} {ws ws' : List Cond} {rm : Room} {D : va_G} {cI cZ : ClassId} {own : String} {ci : Nat} {T : u_T} {N : Nat} {KS : KSt} {ad : Nat → Nat} {ly : LY} {kc : Nat} {av : List Value} {o : ST → Option Res} {bytes : ByteArray} {maxL : Nat} {ret : Option FieldType} (hy : plainName y.cls = true) (hw : ws = Cond.code y bytes maxL ret :: ws') (hcls : y.cls = own) (hC : oz_C own ci T N ly) (hst : l.stackTraces = false) (hlen : (lg_sl av).length ≤ maxL)
    (body : ∀ (p : Program) (e : Env) (s : State) (m : MethodId) (below : List Frame) (meth : Method) (c : Code) (st : ST) (A : Nat → Prop) (res : Res) (G : Nat → Nat → List (Nat × Value) → List Value → ST → Option Res → Prop), meth.sig.returnType = ret →
      oz_E p l e rm s m av.toArray below meth c (vx_MQ below (oz_Qv D cI cZ ci ad ly res A) (oz_XC D cI cZ ci ad ly res A) av.toArray s kc (6 * kc) A) bytes maxL ws own D cI cZ ci T N KS ly ad A res G → G 0 0 (lv_args 0 av) [] st (o st)) : oz_MV l y ws rm D cI cZ own ci KS ad ly kc av o := by
  intro sz st res ho
  refine vx_ofW (cc := bytes) (maxL := maxL) (ret := ret) hy hw ?_
  intro p e s m args below meth c s₁ B hml hex hv
  obtain ⟨rfl, hsz, hP, hK, hD0, hKS, hBX, hU, hN⟩ := hv
  have hx := B.exec
  have hb := B.bytes
  have hr := B.returns
  have hts := atoms_spec (ws := ws) B.pre
  have hown : s.vm.findClass own = some m.cls := by rw [← hcls]; exact findClass_of_methodNamed B.named
  subst hsz
  generalize hAe : va_A (oz_wd ci cI cZ ad ly st) s.heap.size = A at hU hN ⊢
  have hD : ∀ st2, va_D A (oz_wd ci cI cZ ad ly st2) := fun st2 => by
    rw [← hAe]
    exact oz_D_cong (oz_wd_fst ci cI cZ ad ly st st2) (hD0.self (sz := s.heap.size))
  have hA : ∀ q : Nat, s.heap.size ≤ q → A q := fun q h => by rw [← hAe]; exact Or.inr h
  have hl := lv_entry av (n := maxL) hlen
  rw [lg_entry_eq]
  generalize (lg_sl av ++ List.replicate (maxL - (lg_sl av).length) Slot.unset).toArray = ls at hl ⊢
  exact body p e s m below meth c st A res _ hr ⟨rfl, ⟨hx, hb, hml, hown, hts⟩, hK, hD, hA, hC, hKS, hBX, hU, hN, hst, B.notSynchronized, hex⟩ ho s.heap [] ls hP va_S.rf hl


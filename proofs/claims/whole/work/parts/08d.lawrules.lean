/-! THE ROAD OF THE LAW'S BODY: GL k pc Lc S sk sm f o -/
def gdL (b : Bool) (o : Option Int32) : Option Int32 := if b = true then o else none
/-- a wrapper's answer -/
def bw (cv : Int32 → Int64) (hs : List (Nat × Int32)) (f : Nat → Int64) (o : Option Res) (g : Int32 → ST → (Nat → Int64) → Option Int32) : Option Int32 := match o with
  | none => none
  | some r => match ow_r cv hs f r with
    | none => none
    | some x => g x.1 x.2.1 x.2.2
/-- an answer that isn't thrown -/
def bM (o : Option Res) (g : Int32 → ST → Option Int32) : Option Int32 := match o with
  | none => none
  | some (e, v, s) => if e = 0 then g v s else none
def oL_wd (cI cZ cJ : ClassId) (ak am : Nat → Nat) (ao : Nat) (sk sm : ST) (f : Nat → Int64) : va_W := oz_wd 0 cI cZ ak oz_lyX0 sk ++ (oz_wd 1 cI cZ am oz_lyX1 sm ++ ow_out cJ ao f)
abbrev LG : Type := Nat → Nat → List (Nat × Value) → List Value → ST → ST → (Nat → Int64) → Option Int32 → Prop
def oL_E (p : Program) (l : Launch) (e : Env) (s : State) (m : MethodId) (b : Nat) (below : List Frame) (meth : Method) (c : Code) (N : Nat) (xs : Nat → Int32) (D : va_G) (cI cZ cJ : ClassId) (ak am : Nat → Nat) (ao : Nat) (A : Nat → Prop) (GL : LG) : Prop :=
  (GL = fun k pc Lc S sk sm f o => o = some 1 → ∀ (H : Heap) (locs : List Loc) (ls : Array Slot), va_P D vwCl (oz_wd 0 cI cZ ak oz_lyX0 sk) H → va_P D vwCl (oz_wd 1 cI cZ am oz_lyX1 sm) H → va_P D vwCl (ow_out cJ ao f) H → va_S A s.heap H locs → lv_has ls 7 Lc → W p l e room_1 s m #[Value.ref b] below meth c H locs (30 + k) (739 + 6 * k) (lw_Z below #[Value.ref b] s) (F0 m pc ls S)) ∧
  CallFix p m c cL_law 7 s #[Value.ref b] wsL_law RL ∧ va_K D vwCl [(cI, .int), (cZ, .boolean), (cJ, .long)] s ∧ (∀ sk sm f, va_D A (oz_wd 0 cI cZ ak oz_lyX0 sk ++ (oz_wd 1 cI cZ am oz_lyX1 sm ++ ow_out cJ ao f))) ∧ (∀ sk sm f, va_D A (oz_wd 1 cI cZ am oz_lyX1 sm ++ (oz_wd 0 cI cZ ak oz_lyX0 sk ++ ow_out cJ ao f))) ∧ (∀ sk sm f, va_D A (ow_ww cI cZ cJ ak ao sk f ++ oz_wd 1 cI cZ am oz_lyX1 sm)) ∧
  (∀ q, s.heap.size ≤ q → A q) ∧ (∀ q, A q → s.heap.size ≤ q) ∧ (∀ q ∈ oz_KSX0, ∃ sa, vk_R RX0 q.1 q.2 sa s) ∧ (∀ w ∈ oz_BX, va_Nw w s) ∧ ow_NC s ∧ vx_Zq Bundle.tN "UNASSIGNED_STACK" Bundle.steD A s s.heap ∧ vx_Zq Bundle.tN "SUPPRESSED_SENTINEL" Bundle.listD A s s.heap ∧
  va_X b N xs s s.heap ∧ b < s.heap.size ∧ N ≤ 1536 ∧ meth.sig.returnType = ret ∧ meth.locks = false
section OL
variable {p : Program} {l : Launch} {e : Env} {s : State} {m : MethodId} {b : Nat} {below : List Frame} {meth : Method} {c : Code} {N : Nat} {xs : Nat → Int32} {D : va_G} {cI cZ cJ : ClassId} {ak am : Nat → Nat} {ao : Nat} {A : Nat → Prop} {GL : LG}
variable {k pc : Nat} {Lc : List (Nat × Value)} {S : List Value} {sk sm : ST} {f : Nat → Int64} {o o1 o2 : Option Int32}
theorem ol_sub (X : oL_E p l e s m b below meth c N xs D cI cZ cJ ak am ao A GL) (ks : List Nat) {L2 : List (Nat × Value)} (h : lv_pick Lc ks = L2) (kk : GL k pc L2 S sk sm f o) : GL k pc Lc S sk sm f o := by
  obtain ⟨rfl, -⟩ := X
  intro ho H locs ls hk hm hf hS hl
  exact kk ho H locs ls hk hm hf hS (lv_sub hl ks h)

theorem ol_iconst (X : oL_E p l e s m b below meth c N xs D cI cZ cJ ak am ao A GL) {n : Int} {v : Int32} (d : decode cL_law pc = .ok (.iconst n, 1)) (hv : Int32.ofInt n = v) (kk : GL k (pc + 1) Lc (.int v :: S) sk sm f o) : GL k pc Lc (S) sk sm f o := by
  obtain ⟨rfl, ⟨hx, hb, hml, hown, hts⟩, hK, hD1, hD2, hD3, hA, hA2, hKS, hBX, hNC, hU, hN, hX, hbl, hL, hr, hlk⟩ := X
  intro ho H locs ls hk hm hf hS hl
  exact lv_iconst hx hb d hv (kk ho H locs ls hk hm hf hS hl)
theorem ol_lconst (X : oL_E p l e s m b below meth c N xs D cI cZ cJ ak am ao A GL) {n : Fin 2} {v : Int64} (d : decode cL_law pc = .ok (.lconst n, 1)) (hv : Int64.ofNat (n : Nat) = v) (kk : GL k (pc + 1) Lc (.long v :: S) sk sm f o) : GL k pc Lc (S) sk sm f o := by
  obtain ⟨rfl, ⟨hx, hb, hml, hown, hts⟩, hK, hD1, hD2, hD3, hA, hA2, hKS, hBX, hNC, hU, hN, hX, hbl, hL, hr, hlk⟩ := X
  intro ho H locs ls hk hm hf hS hl
  exact lv_lconst hx hb d hv (kk ho H locs ls hk hm hf hS hl)
theorem ol_bipush (X : oL_E p l e s m b below meth c N xs D cI cZ cJ ak am ao A GL) {n : Int} {v : Int32} (d : decode cL_law pc = .ok (.bipush n, 2)) (hv : (Int8.ofInt n).toInt32 = v) (kk : GL k (pc + 2) Lc (.int v :: S) sk sm f o) : GL k pc Lc (S) sk sm f o := by
  obtain ⟨rfl, ⟨hx, hb, hml, hown, hts⟩, hK, hD1, hD2, hD3, hA, hA2, hKS, hBX, hNC, hU, hN, hX, hbl, hL, hr, hlk⟩ := X
  intro ho H locs ls hk hm hf hS hl
  exact lv_bipush hx hb d hv (kk ho H locs ls hk hm hf hS hl)
theorem ol_iload_n (X : oL_E p l e s m b below meth c N xs D cI cZ cJ ak am ao A GL) {j : Fin 4} {i : Nat} {x : Int32} (d : decode cL_law pc = .ok (.iload_n j, 1)) (hi : (j : Nat) = i) (q : Nat) (hq : Lc[q]? = some (i, .int x)) (kk : GL k (pc + 1) Lc (.int x :: S) sk sm f o) : GL k pc Lc (S) sk sm f o := by
  obtain ⟨rfl, ⟨hx, hb, hml, hown, hts⟩, hK, hD1, hD2, hD3, hA, hA2, hKS, hBX, hNC, hU, hN, hX, hbl, hL, hr, hlk⟩ := X
  intro ho H locs ls hk hm hf hS hl
  exact lv_iload_n hx hb d hi (lv_at hl q hq) (kk ho H locs ls hk hm hf hS hl)
theorem ol_iload (X : oL_E p l e s m b below meth c N xs D cI cZ cJ ak am ao A GL) {i : Nat} {x : Int32} (d : decode cL_law pc = .ok (.iload i, 2)) (q : Nat) (hq : Lc[q]? = some (i, .int x)) (kk : GL k (pc + 2) Lc (.int x :: S) sk sm f o) : GL k pc Lc (S) sk sm f o := by
  obtain ⟨rfl, ⟨hx, hb, hml, hown, hts⟩, hK, hD1, hD2, hD3, hA, hA2, hKS, hBX, hNC, hU, hN, hX, hbl, hL, hr, hlk⟩ := X
  intro ho H locs ls hk hm hf hS hl
  exact lv_iload hx hb d (lv_at hl q hq) (kk ho H locs ls hk hm hf hS hl)
theorem ol_aload_n (X : oL_E p l e s m b below meth c N xs D cI cZ cJ ak am ao A GL) {j : Fin 4} {i x : Nat} (d : decode cL_law pc = .ok (.aload_n j, 1)) (hi : (j : Nat) = i) (q : Nat) (hq : Lc[q]? = some (i, .ref x)) (kk : GL k (pc + 1) Lc (.ref x :: S) sk sm f o) : GL k pc Lc (S) sk sm f o := by
  obtain ⟨rfl, ⟨hx, hb, hml, hown, hts⟩, hK, hD1, hD2, hD3, hA, hA2, hKS, hBX, hNC, hU, hN, hX, hbl, hL, hr, hlk⟩ := X
  intro ho H locs ls hk hm hf hS hl
  exact lv_aload_n hx hb d hi (lv_at hl q hq) (kk ho H locs ls hk hm hf hS hl)
theorem ol_iadd (X : oL_E p l e s m b below meth c N xs D cI cZ cJ ak am ao A GL) {x y : Int32} (d : decode cL_law pc = .ok (.iadd, 1)) (kk : GL k (pc + 1) Lc (.int (x + y) :: S) sk sm f o) : GL k pc Lc (.int y :: .int x :: S) sk sm f o := by
  obtain ⟨rfl, ⟨hx, hb, hml, hown, hts⟩, hK, hD1, hD2, hD3, hA, hA2, hKS, hBX, hNC, hU, hN, hX, hbl, hL, hr, hlk⟩ := X
  intro ho H locs ls hk hm hf hS hl
  exact lv_iadd hx hb d (kk ho H locs ls hk hm hf hS hl)
theorem ol_isub (X : oL_E p l e s m b below meth c N xs D cI cZ cJ ak am ao A GL) {x y : Int32} (d : decode cL_law pc = .ok (.isub, 1)) (kk : GL k (pc + 1) Lc (.int (x - y) :: S) sk sm f o) : GL k pc Lc (.int y :: .int x :: S) sk sm f o := by
  obtain ⟨rfl, ⟨hx, hb, hml, hown, hts⟩, hK, hD1, hD2, hD3, hA, hA2, hKS, hBX, hNC, hU, hN, hX, hbl, hL, hr, hlk⟩ := X
  intro ho H locs ls hk hm hf hS hl
  exact lv_isub hx hb d (kk ho H locs ls hk hm hf hS hl)
theorem ol_iand (X : oL_E p l e s m b below meth c N xs D cI cZ cJ ak am ao A GL) {x y : Int32} (d : decode cL_law pc = .ok (.iand, 1)) (kk : GL k (pc + 1) Lc (.int (x &&& y) :: S) sk sm f o) : GL k pc Lc (.int y :: .int x :: S) sk sm f o := by
  obtain ⟨rfl, ⟨hx, hb, hml, hown, hts⟩, hK, hD1, hD2, hD3, hA, hA2, hKS, hBX, hNC, hU, hN, hX, hbl, hL, hr, hlk⟩ := X
  intro ho H locs ls hk hm hf hS hl
  exact lv_iand hx hb d (kk ho H locs ls hk hm hf hS hl)
theorem ol_i2l (X : oL_E p l e s m b below meth c N xs D cI cZ cJ ak am ao A GL) {x : Int32} (d : decode cL_law pc = .ok (.i2l, 1)) (kk : GL k (pc + 1) Lc (.long x.toInt64 :: S) sk sm f o) : GL k pc Lc (.int x :: S) sk sm f o := by
  obtain ⟨rfl, ⟨hx, hb, hml, hown, hts⟩, hK, hD1, hD2, hD3, hA, hA2, hKS, hBX, hNC, hU, hN, hX, hbl, hL, hr, hlk⟩ := X
  intro ho H locs ls hk hm hf hS hl
  exact lv_i2l hx hb d rfl (kk ho H locs ls hk hm hf hS hl)
theorem ol_lcmp (X : oL_E p l e s m b below meth c N xs D cI cZ cJ ak am ao A GL) {x y : Int64} (d : decode cL_law pc = .ok (.lcmp, 1)) (kk : GL k (pc + 1) Lc (.int (lg_cmp x y) :: S) sk sm f o) : GL k pc Lc (.long y :: .long x :: S) sk sm f o := by
  obtain ⟨rfl, ⟨hx, hb, hml, hown, hts⟩, hK, hD1, hD2, hD3, hA, hA2, hKS, hBX, hNC, hU, hN, hX, hbl, hL, hr, hlk⟩ := X
  intro ho H locs ls hk hm hf hS hl
  exact W.lcmp hx hb d (kk ho H locs ls hk hm hf hS hl)
theorem ol_istore (X : oL_E p l e s m b below meth c N xs D cI cZ cJ ak am ao A GL) {i : Nat} {x : Int32} {L2 : List (Nat × Value)} (d : decode cL_law pc = .ok (.istore i, 2)) (hn : i < 7) (hL2 : (i, Value.int x) :: Lc.filter (fun q => !(q.1 == i) && !(q.1 + 1 == i && q.2.category == 2)) = L2) (kk : GL k (pc + 2) L2 S sk sm f o) : GL k pc Lc (.int x :: S) sk sm f o := by
  obtain ⟨rfl, ⟨hx, hb, hml, hown, hts⟩, hK, hD1, hD2, hD3, hA, hA2, hKS, hBX, hNC, hU, hN, hX, hbl, hL, hr, hlk⟩ := X
  intro ho H locs ls hk hm hf hS hl
  exact lv_istore hx hb d hl hn hL2 (fun ls2 hl2 => kk ho H locs ls2 hk hm hf hS hl2)
theorem ol_iinc (X : oL_E p l e s m b below meth c N xs D cI cZ cJ ak am ao A GL) {i q : Nat} {n : Int} {x v : Int32} {L2 : List (Nat × Value)} (d : decode cL_law pc = .ok (.iinc i n, 3)) (hq : Lc[q]? = some (i, .int x)) (hv : x + Int32.ofInt n = v) (hn : i < 7) (hL2 : (i, Value.int v) :: Lc.filter (fun q => !(q.1 == i) && !(q.1 + 1 == i && q.2.category == 2)) = L2) (kk : GL k (pc + 3) L2 S sk sm f o) : GL k pc Lc S sk sm f o := by
  obtain ⟨rfl, ⟨hx, hb, hml, hown, hts⟩, hK, hD1, hD2, hD3, hA, hA2, hKS, hBX, hNC, hU, hN, hX, hbl, hL, hr, hlk⟩ := X
  intro ho H locs ls hk hm hf hS hl
  exact lv_iinc hx hb d hl hq hv hn hL2 (fun ls2 hl2 => kk ho H locs ls2 hk hm hf hS hl2)
theorem ol_if_eq (X : oL_E p l e s m b below meth c N xs D cI cZ cJ ak am ao A GL) {x : Int32} {off : Int} {tgt : Nat} (d : decode cL_law pc = .ok (.ifCond .eq off, 3)) (ht : (pc : Int) + off = (tgt : Int)) (k1 : x = 0 → GL k tgt Lc S sk sm f o1) (k2 : ¬ x = 0 → GL k (pc + 3) Lc S sk sm f o2) : GL k pc Lc (.int x :: S) sk sm f (if x = 0 then o1 else o2) := by
  obtain ⟨rfl, ⟨hx, hb, hml, hown, hts⟩, hK, hD1, hD2, hD3, hA, hA2, hKS, hBX, hNC, hU, hN, hX, hbl, hL, hr, hlk⟩ := X
  intro ho H locs ls hk hm hf hS hl
  exact lv_if_eq hx hb d ht (fun h => k1 h (by rw [if_pos h] at ho; exact ho) H locs ls hk hm hf hS hl) (fun h => k2 h (by rw [if_neg h] at ho; exact ho) H locs ls hk hm hf hS hl)
theorem ol_icmp_eq (X : oL_E p l e s m b below meth c N xs D cI cZ cJ ak am ao A GL) {x y : Int32} {off : Int} {tgt : Nat} (d : decode cL_law pc = .ok (.if_icmp .eq off, 3)) (ht : (pc : Int) + off = (tgt : Int)) (k1 : x = y → GL k tgt Lc S sk sm f o1) (k2 : ¬ x = y → GL k (pc + 3) Lc S sk sm f o2) : GL k pc Lc (.int y :: .int x :: S) sk sm f (if x = y then o1 else o2) := by
  obtain ⟨rfl, ⟨hx, hb, hml, hown, hts⟩, hK, hD1, hD2, hD3, hA, hA2, hKS, hBX, hNC, hU, hN, hX, hbl, hL, hr, hlk⟩ := X
  intro ho H locs ls hk hm hf hS hl
  exact lv_icmp_eq hx hb d ht (fun h => k1 h (by rw [if_pos h] at ho; exact ho) H locs ls hk hm hf hS hl) (fun h => k2 h (by rw [if_neg h] at ho; exact ho) H locs ls hk hm hf hS hl)
theorem ol_if_ne (X : oL_E p l e s m b below meth c N xs D cI cZ cJ ak am ao A GL) {x : Int32} {off : Int} {tgt : Nat} (d : decode cL_law pc = .ok (.ifCond .ne off, 3)) (ht : (pc : Int) + off = (tgt : Int)) (k1 : ¬ x = 0 → GL k tgt Lc S sk sm f o1) (k2 : x = 0 → GL k (pc + 3) Lc S sk sm f o2) : GL k pc Lc (.int x :: S) sk sm f (if x = 0 then o2 else o1) := by
  obtain ⟨rfl, ⟨hx, hb, hml, hown, hts⟩, hK, hD1, hD2, hD3, hA, hA2, hKS, hBX, hNC, hU, hN, hX, hbl, hL, hr, hlk⟩ := X
  intro ho H locs ls hk hm hf hS hl
  exact lv_if_ne hx hb d ht (fun h => k1 h (by rw [if_neg h] at ho; exact ho) H locs ls hk hm hf hS hl) (fun h => k2 h (by rw [if_pos h] at ho; exact ho) H locs ls hk hm hf hS hl)
theorem ol_icmp_ne (X : oL_E p l e s m b below meth c N xs D cI cZ cJ ak am ao A GL) {x y : Int32} {off : Int} {tgt : Nat} (d : decode cL_law pc = .ok (.if_icmp .ne off, 3)) (ht : (pc : Int) + off = (tgt : Int)) (k1 : ¬ x = y → GL k tgt Lc S sk sm f o1) (k2 : x = y → GL k (pc + 3) Lc S sk sm f o2) : GL k pc Lc (.int y :: .int x :: S) sk sm f (if x = y then o2 else o1) := by
  obtain ⟨rfl, ⟨hx, hb, hml, hown, hts⟩, hK, hD1, hD2, hD3, hA, hA2, hKS, hBX, hNC, hU, hN, hX, hbl, hL, hr, hlk⟩ := X
  intro ho H locs ls hk hm hf hS hl
  exact lv_icmp_ne hx hb d ht (fun h => k1 h (by rw [if_neg h] at ho; exact ho) H locs ls hk hm hf hS hl) (fun h => k2 h (by rw [if_pos h] at ho; exact ho) H locs ls hk hm hf hS hl)
theorem ol_if_gt (X : oL_E p l e s m b below meth c N xs D cI cZ cJ ak am ao A GL) {x : Int32} {off : Int} {tgt : Nat} (d : decode cL_law pc = .ok (.ifCond .gt off, 3)) (ht : (pc : Int) + off = (tgt : Int)) (k1 : 0 < x → GL k tgt Lc S sk sm f o1) (k2 : ¬ 0 < x → GL k (pc + 3) Lc S sk sm f o2) : GL k pc Lc (.int x :: S) sk sm f (if 0 < x then o1 else o2) := by
  obtain ⟨rfl, ⟨hx, hb, hml, hown, hts⟩, hK, hD1, hD2, hD3, hA, hA2, hKS, hBX, hNC, hU, hN, hX, hbl, hL, hr, hlk⟩ := X
  intro ho H locs ls hk hm hf hS hl
  exact lv_if_gt hx hb d ht (fun h => k1 h (by rw [if_pos h] at ho; exact ho) H locs ls hk hm hf hS hl) (fun h => k2 h (by rw [if_neg h] at ho; exact ho) H locs ls hk hm hf hS hl)
theorem ol_icmp_gt (X : oL_E p l e s m b below meth c N xs D cI cZ cJ ak am ao A GL) {x y : Int32} {off : Int} {tgt : Nat} (d : decode cL_law pc = .ok (.if_icmp .gt off, 3)) (ht : (pc : Int) + off = (tgt : Int)) (k1 : y < x → GL k tgt Lc S sk sm f o1) (k2 : ¬ y < x → GL k (pc + 3) Lc S sk sm f o2) : GL k pc Lc (.int y :: .int x :: S) sk sm f (if y < x then o1 else o2) := by
  obtain ⟨rfl, ⟨hx, hb, hml, hown, hts⟩, hK, hD1, hD2, hD3, hA, hA2, hKS, hBX, hNC, hU, hN, hX, hbl, hL, hr, hlk⟩ := X
  intro ho H locs ls hk hm hf hS hl
  exact lv_icmp_gt hx hb d ht (fun h => k1 h (by rw [if_pos h] at ho; exact ho) H locs ls hk hm hf hS hl) (fun h => k2 h (by rw [if_neg h] at ho; exact ho) H locs ls hk hm hf hS hl)
theorem ol_goto (X : oL_E p l e s m b below meth c N xs D cI cZ cJ ak am ao A GL) {off : Int} {tgt : Nat} (d : decode cL_law pc = .ok (.goto off, 3)) (ht : (pc : Int) + off = (tgt : Int)) (kk : GL k tgt Lc S sk sm f o) : GL k pc Lc S sk sm f o := by
  obtain ⟨rfl, ⟨hx, hb, hml, hown, hts⟩, hK, hD1, hD2, hD3, hA, hA2, hKS, hBX, hNC, hU, hN, hX, hbl, hL, hr, hlk⟩ := X
  intro ho H locs ls hk hm hf hS hl
  exact lv_goto hx hb d ht (kk ho H locs ls hk hm hf hS hl)
theorem ol_slen (X : oL_E p l e s m b below meth c N xs D cI cZ cJ ak am ao A GL) (d : decode cL_law pc = .ok (.arraylength, 1)) (kk : GL k (pc + 1) Lc (.int (Int32.ofNat N) :: S) sk sm f o) : GL k pc Lc (.ref b :: S) sk sm f o := by
  obtain ⟨rfl, ⟨hx, hb, hml, hown, hts⟩, hK, hD1, hD2, hD3, hA, hA2, hKS, hBX, hNC, hU, hN, hX, hbl, hL, hr, hlk⟩ := X
  intro ho H locs ls hk hm hf hS hl
  exact va_slen hx hb hX hbl (fun h => Nat.not_le.mpr hbl (hA2 b h)) hS d (kk ho H locs ls hk hm hf hS hl)
theorem ol_sld (X : oL_E p l e s m b below meth c N xs D cI cZ cJ ak am ao A GL) {i : Int32} (d : decode cL_law pc = .ok (.iaload, 1)) (kk : oz_in i N = true → GL k (pc + 1) Lc (.int (xs i.toNatClampNeg) :: S) sk sm f o) : GL k pc Lc (.int i :: .ref b :: S) sk sm f (gdL (oz_in i N) o) := by
  obtain ⟨rfl, ⟨hx, hb, hml, hown, hts⟩, hK, hD1, hD2, hD3, hA, hA2, hKS, hBX, hNC, hU, hN, hX, hbl, hL, hr, hlk⟩ := X
  intro ho H locs ls hk hm hf hS hl
  by_cases hi : oz_in i N = true
  · rw [gdL, if_pos hi] at ho
    exact va_sld hx hb hX hbl (fun h => Nat.not_le.mpr hbl (hA2 b h)) hS (oz_in_spec hi) d (kk hi ho H locs ls hk hm hf hS hl)
  · rw [gdL, if_neg hi] at ho
    cases ho
theorem ol_lald (X : oL_E p l e s m b below meth c N xs D cI cZ cJ ak am ao A GL) (d : decode cL_law pc = .ok (.laload, 1)) (kk : GL k (pc + 1) Lc (.long (f 0) :: S) sk sm f o) : GL k pc Lc (.int 0 :: .ref ao :: S) sk sm f o := by
  obtain ⟨rfl, ⟨hx, hb, hml, hown, hts⟩, hK, hD1, hD2, hD3, hA, hA2, hKS, hBX, hNC, hU, hN, hX, hbl, hL, hr, hlk⟩ := X
  intro ho H locs ls hk hm hf hS hl
  exact va_lald (n := 1) (f := f) hx hb hK hf 0 2 rfl rfl ow_in0 d (kk ho H locs ls hk hm hf hS hl)
theorem ol_ret (X : oL_E p l e s m b below meth c N xs D cI cZ cJ ak am ao A GL) {v : Int32} (hk2 : k ≤ 1024) (d : decode cL_law pc = .ok (.ireturn, 1)) : GL k pc Lc [.int v] sk sm f (some v) := by
  obtain ⟨rfl, ⟨hx, hb, hml, hown, hts⟩, hK, hD1, hD2, hD3, hA, hA2, hKS, hBX, hNC, hU, hN, hX, hbl, hL, hr, hlk⟩ := X
  intro ho H locs ls hk hm hf hS hl
  cases ho
  refine W.widen (k := 1088) (n := 9135) (by omega) (by omega) (va_forget (fun q hq => hA2 _ (hS.2.2 q hq)) ?_)
  exact lw_ret hx hb hr hlk d
theorem ol_none (X : oL_E p l e s m b below meth c N xs D cI cZ cJ ak am ao A GL) : GL k pc Lc S sk sm f none := by
  obtain ⟨rfl, -⟩ := X
  intro ho
  cases ho
/-- a case of the switch -/
theorem ol_case (X : oL_E p l e s m b below meth c N xs D cI cZ cJ ak am ao A GL) {dflt lo hi : Int} {offs : Array Int} {len : Nat} {x v : Int32} {off : Int} {tgt : Nat} (d : decode cL_law pc = .ok (.tableswitch dflt lo hi offs, len)) (h1 : ¬ v.toInt < lo) (h2 : ¬ hi < v.toInt) (hoff : offs[(v.toInt - lo).toNat]? = some off) (ht : (pc : Int) + off = (tgt : Int)) (k1 : x = v → GL k tgt Lc S sk sm f o1) (k2 : ¬ x = v → GL k pc Lc (.int x :: S) sk sm f o2) : GL k pc Lc (.int x :: S) sk sm f (if x = v then o1 else o2) := by
  by_cases h : x = v
  · rw [if_pos h]
    have k9 := k1 h
    clear k1 k2
    subst h
    obtain ⟨rfl, ⟨hx, hb, -⟩, -⟩ := X
    intro ho H locs ls hk hm hf hS hl
    exact lv_tableIn hx hb d h1 h2 hoff ht (k9 ho H locs ls hk hm hf hS hl)
  · rw [if_neg h]
    exact k2 h
theorem ol_dflt (X : oL_E p l e s m b below meth c N xs D cI cZ cJ ak am ao A GL) {dflt lo hi : Int} {offs : Array Int} {len : Nat} {x : Int32} {tgt : Nat} (d : decode cL_law pc = .ok (.tableswitch dflt lo hi offs, len)) (h : x.toInt < lo ∨ hi < x.toInt) (ht : (pc : Int) + dflt = (tgt : Int)) (kk : GL k tgt Lc S sk sm f o) : GL k pc Lc (.int x :: S) sk sm f o := by
  obtain ⟨rfl, ⟨hx, hb, hml, hown, hts⟩, hK, hD1, hD2, hD3, hA, hA2, hKS, hBX, hNC, hU, hN, hX, hbl, hL, hr, hlk⟩ := X
  intro ho H locs ls hk hm hf hS hl
  exact lv_tableOut hx hb d h ht (kk ho H locs ls hk hm hf hS hl)

theorem ol_callK (X : oL_E p l e s m b below meth c N xs D cI cZ cJ ak am ao A GL) {y : MethodName} {ws ws' : List Cond} {rm : Room} {bytes : ByteArray} {maxL index n : Nat} {rt : Option FieldType} {As S0 : List Value} {fo : ST → Option Res} {g : Int32 → ST → Option Int32}
    (hM : oz_MI l y ws rm D cI cZ RX0 0 oz_KSX0 ak oz_lyX0 0 (.ref (ak 0) :: As) fo) (gi : GoodIn wsL_law (wsV RL index RX0 y ws)) (hw : ws = Cond.code y bytes maxL rt :: ws') (hrc : rm.cells = 0) (hrs : rm.slots = 0)
    (hd : y.cls = RX0 ∧ y.cls ≠ "java/lang/invoke/MethodHandle" ∧ y.cls ≠ "java/lang/invoke/VarHandle" ∧ (parseMethodDescriptor y.desc).map (fun d => d.parameters.length) = some n) (hR : rm.frames + 1 ≤ room_1.frames ∧ 8 + (maxL + 11) + rm.locals ≤ room_1.locals)
    (hn : As.length = n) (hst : S0 = As.reverse ++ .ref (ak 0) :: S) (hW : (S.map fun v => v.category).sum ≤ 8) (d : decode cL_law pc = .ok (.invokevirtual index, 3)) (hk2 : k ≤ 1024) (kk : ∀ r s2, GL k (pc + 3) Lc (.int r :: S) s2 sm f (g r s2)) : GL k pc Lc S0 sk sm f (bM (fo sk) g) := by
  obtain ⟨rfl, ⟨hx, hb, hml, hown, hts⟩, hK, hD1, hD2, hD3, hA, hA2, hKS, hBX, hNC, hU, hN, hX, hbl, hL, hr, hlk⟩ := X
  intro ho H locs ls hk hm hf hS hl
  cases hfo : fo sk with
  | none => rw [hfo] at ho; cases ho
  | some r0 =>
    obtain ⟨en, v, s2⟩ := r0
    rw [hfo] at ho
    by_cases hen : en = 0
    · subst hen
      have ho : g v s2 = some 1 := ho
      refine ow_call (As := As) (rest := S) (wr := oz_wd 1 cI cZ am oz_lyX1 sm ++ ow_out cJ ao f) hx hb hml hown hts (hK.sub [0, 1] rfl) oz_CX0 (hD1 sk sm f) hA hKS hBX hU hN hk (va_P.app hm hf) hS hl.1 hM gi hw hrc hrs hd hR hn hst hW d ⟨by show 30 + k + 0 ≤ 1088; omega, by show 739 + 6 * k + 6 * 0 ≤ 9135; omega⟩ hfo (fun h => absurd rfl h) (fun _ H1 locs1 hP1 hPr1 hS1 => ?_)
      exact kk v s2 ho H1 locs1 ls hP1 (ow_P_l hPr1) (ow_P_r hPr1) hS1 hl
    · have ho : (if en = 0 then g v s2 else none) = some 1 := ho
      rw [if_neg hen] at ho
      cases ho
theorem ol_callM (X : oL_E p l e s m b below meth c N xs D cI cZ cJ ak am ao A GL) {y : MethodName} {ws ws' : List Cond} {rm : Room} {bytes : ByteArray} {maxL index n : Nat} {rt : Option FieldType} {As S0 : List Value} {fo : ST → Option Res} {g : Int32 → ST → Option Int32}
    (hM : oz_MI l y ws rm D cI cZ RX1 1 oz_KSX1 am oz_lyX1 0 (.ref (am 0) :: As) fo) (gi : GoodIn wsL_law (wsV RL index RX1 y ws)) (hw : ws = Cond.code y bytes maxL rt :: ws') (hrc : rm.cells = 0) (hrs : rm.slots = 0)
    (hd : y.cls = RX1 ∧ y.cls ≠ "java/lang/invoke/MethodHandle" ∧ y.cls ≠ "java/lang/invoke/VarHandle" ∧ (parseMethodDescriptor y.desc).map (fun d => d.parameters.length) = some n) (hR : rm.frames + 1 ≤ room_1.frames ∧ 8 + (maxL + 11) + rm.locals ≤ room_1.locals)
    (hn : As.length = n) (hst : S0 = As.reverse ++ .ref (am 0) :: S) (hW : (S.map fun v => v.category).sum ≤ 8) (d : decode cL_law pc = .ok (.invokevirtual index, 3)) (hk2 : k ≤ 1024) (kk : ∀ r s2, GL k (pc + 3) Lc (.int r :: S) sk s2 f (g r s2)) : GL k pc Lc S0 sk sm f (bM (fo sm) g) := by
  obtain ⟨rfl, ⟨hx, hb, hml, hown, hts⟩, hK, hD1, hD2, hD3, hA, hA2, hKS, hBX, hNC, hU, hN, hX, hbl, hL, hr, hlk⟩ := X
  intro ho H locs ls hk hm hf hS hl
  cases hfo : fo sm with
  | none => rw [hfo] at ho; cases ho
  | some r0 =>
    obtain ⟨en, v, s2⟩ := r0
    rw [hfo] at ho
    by_cases hen : en = 0
    · subst hen
      have ho : g v s2 = some 1 := ho
      refine ow_call (As := As) (rest := S) (wr := oz_wd 0 cI cZ ak oz_lyX0 sk ++ ow_out cJ ao f) hx hb hml hown hts (hK.sub [0, 1] rfl) oz_CX1 (hD2 sk sm f) hA (fun q hq => by simp [oz_KSX1] at hq) hBX hU hN hm (va_P.app hk hf) hS hl.1 hM gi hw hrc hrs hd hR hn hst hW d ⟨by show 30 + k + 0 ≤ 1088; omega, by show 739 + 6 * k + 6 * 0 ≤ 9135; omega⟩ hfo (fun h => absurd rfl h) (fun _ H1 locs1 hP1 hPr1 hS1 => ?_)
      exact kk v s2 ho H1 locs1 ls (ow_P_l hPr1) hP1 (ow_P_r hPr1) hS1 hl
    · have ho : (if en = 0 then g v s2 else none) = some 1 := ho
      rw [if_neg hen] at ho
      cases ho
theorem ol_callW (X : oL_E p l e s m b below meth c N xs D cI cZ cJ ak am ao A GL) (hst9 : l.stackTraces = false) {kc : Nat} {y : MethodName} {ws ws' : List Cond} {rm : Room} {bytes : ByteArray} {maxL index n : Nat} {rt : Option FieldType} {hh : List (Nat × Nat × Nat × Nat)} {As S0 : List Value} {cv : Int32 → Int64} {hs : List (Nat × Int32)} {fo : ST → Option Res} {g : Int32 → ST → (Nat → Int64) → Option Int32}
    (hM : ow_MW l y ws rm D cI cZ cJ ak ao kc As cv hs fo) (gi : GoodIn wsL_law (va_wsS RL index y ws)) (hw : ws = Cond.codeWith y bytes maxL rt hh :: ws') (hrc : rm.cells = kc) (hrs : rm.slots = 6 * kc)
    (hd : y.cls ≠ "java/lang/invoke/MethodHandle" ∧ y.cls ≠ "java/lang/invoke/VarHandle" ∧ (parseMethodDescriptor y.desc).map (fun d => d.parameters.length) = some n) (hR : rm.frames + 1 ≤ room_1.frames ∧ 8 + (maxL + 11) + rm.locals ≤ room_1.locals)
    (hn : As.length = n) (hst : S0 = As.reverse ++ S) (hW : (S.map fun v => v.category).sum ≤ 8) (d : decode cL_law pc = .ok (.invokestatic index, 3)) (hk2 : k + kc ≤ 1024) (kk : ∀ r s2 f2, GL (k + kc) (pc + 3) Lc (.int r :: S) s2 sm f2 (g r s2 f2)) : GL k pc Lc S0 sk sm f (bw cv hs f (fo sk) g) := by
  obtain ⟨rfl, ⟨hx, hb, hml, hown, hts⟩, hK, hD1, hD2, hD3, hA, hA2, hKS, hBX, hNC, hU, hN, hX, hbl, hL, hr, hlk⟩ := X
  intro ho H locs ls hk hm hf hS hl
  cases hfo : fo sk with
  | none => rw [hfo] at ho; cases ho
  | some r0 =>
    rw [hfo] at ho
    cases hr0 : ow_r cv hs f r0 with
    | none => simp only [bw, hr0] at ho; cases ho
    | some x =>
      simp only [bw, hr0] at ho
      have hDk := ow_D_l (hD3 sk sm f)
      have hAA : ∀ q, va_A (ow_ww cI cZ cJ ak ao sk f) H.size q → A q := fun q h => h.elim (fun ⟨j, e1, hj⟩ => hDk.2 j _ hj) (fun h => hA q (Nat.le_trans hS.1 h))
      have cw := vx_cwSW n hts gi hw hrc hrs hd hR
      refine vx_calli (vx_runSX (As := As) (rest := S) ⟨hx, hb, hml, hown, hts⟩ (hM H.size sk f r0 x hfo hr0) cw ⟨ow_Pre_blind, fun U hU2 hW2 => ?_⟩ rfl hn hl.1 hst (lv_room hW) d ⟨by show 30 + k + kc ≤ 1088; omega, by show 739 + 6 * k + 6 * kc ≤ 9135; omega⟩) hS (fun q _ h => hAA q h) hAA (fun q _ h => hAA q h) (fun E ce q9 u t H1 locs1 ht hvm hp hB hz hkeep hS1 hq9 hcv hcl => hp.elim) (fun r u t H1 locs1 ht hvm hp hB hz hkeep hS1 => ?_)
      · refine ⟨rfl, by rw [hU2], by rw [hU2]; exact va_P.app hk hf, va_K.moved hW2.alike hK, hDk.weaken (fun _ _ _ _ => trivial), fun q hq => (hKS q hq).elim fun sa h => ⟨sa, vk_R.warm hW2 h⟩, oz_BX_warm hW2 hBX, ow_NC_moved hW2.alike hNC, ?_, ?_⟩
        · rw [hU2]; exact ((vx_Zq.moved hW2.alike hU).kept hS.2.1).narrow hAA
        · rw [hU2]; exact ((vx_Zq.moved hW2.alike hN).kept hS.2.1).narrow hAA
      · obtain ⟨s2, f2⟩ := u
        subst hp
        have hB : va_P D vwCl (ow_ww cI cZ cJ ak ao s2 f2) t.heap := hB
        rw [ht] at hB
        have hm1 := ow_keep (hD3 sk sm f) hm hkeep
        rw [show 739 + 6 * k + 6 * kc = 739 + 6 * (k + kc) by omega, show 30 + k + kc = 30 + (k + kc) by omega]
        exact kk r s2 f2 ho H1 locs1 ls (ow_P_l hB) hm1 (ow_P_r hB) hS1 hl
end OL

/-! THE CLAIM IS FALSE: on the script of 110 nines the law makes more cells than the claim's room has -/
def nl_nines : List Int32 := List.replicate 110 9
theorem nl_dice : ∀ i : Int32, oz_in i 110 = true → (fun j => nl_nines.getD j 0) i.toNatClampNeg = 9 := by
  intro i h
  have h1 := of_decide_eq_true h
  have h2 : i.toNatClampNeg < 110 := by
    show i.toInt.toNat < 110
    omega
  show (List.replicate 110 (9 : Int32)).getD i.toNatClampNeg 0 = 9
  rw [List.getD_eq_getElem?_getD, List.getElem?_replicate, if_pos h2]
  rfl
def nl_P (b : Addr) (args : Array Value) (s : State) : Prop := args = #[.ref b] ∧ s.IntsAt b nl_nines ∧ (Jvm.Cond.and given_1 narrow_1).before args s = true
set_option maxHeartbeats 4000000 in
theorem nl_walk (l : Launch) (hflags : l.flags = flags0) (b : Addr) : MetFree l x (headSpec (Jvm.Cond.code x code maxLocals ret :: tables_1) lawR) (nl_P b) (fun _ _ _ _ _ => True) (fun _ s _ t => s.heap.size + 453 ≤ t.heap.size) := by
  refine MetFree.of_bodyS (code := code) (maxLocals := maxLocals) (ret := ret) (by decide) ?_ ?_
  · intro args s m h hn
    obtain ⟨meth, c, h1, h2, h3, h4, h5, h6, -, -⟩ := Cond.code_spec hn (atoms_spec (ws := Jvm.Cond.code x code maxLocals ret :: tables_1) h _ List.mem_cons_self)
    exact ⟨meth, c, h1, h2, h3, h4, h5, h6⟩
  · intro p e s m args below meth c s₁ B hml0 hP _
    obtain ⟨rfl, hx, hgv⟩ := hP
    obtain ⟨scr, harrAt, hlist, hof, hsmall⟩ := hx
    obtain ⟨hcb, hkn, -, -⟩ := State.arrayAt?_spec harrAt
    have hown : s.vm.findClass RL = some m.cls := findClass_of_methodNamed B.named
    have hts0 : ∀ c ∈ (Jvm.Cond.code x code maxLocals ret :: tables_1), c.before #[Value.ref b] s = true := atoms_spec (ws := Jvm.Cond.code x code maxLocals ret :: tables_1) B.pre
    have hts : ∀ w ∈ lw_tbl, w.before #[Value.ref b] s = true := k2_hts_sels lw_privs (fun w hw => hts0 w (List.mem_cons_of_mem _ hw)) lw_privs_ok
    have hml : c.maxLocals = 14 := B.maxLocals_eq (hts0 _ List.mem_cons_self)
    have X₀ : Stand p l e lawR s m #[Value.ref b] below meth c s₁ [] 0 0 := Stand.of_body B
    have hh0 : s₁.heap = s.heap := by rw [B.state]; rfl
    have hsz : scr.slots.size = nl_nines.length := by rw [← Array.length_toList, hlist, List.length_map]
    have hval : ∀ j : Nat, j < nl_nines.length → scr.slots[j]? = some (.int (nl_nines.getD j 0)) := fun j hj => by
      rw [← Array.getElem?_toList, hlist]
      simp [hj]
    have hbl : b < s.heap.size := (Array.getElem?_eq_some_iff.mp hcb).1
    have hX : va_X b 110 (fun j => nl_nines.getD j 0) s s.heap := ⟨scr, hcb, hof, hkn, hsz, hval⟩
    have ht : ∀ x ∈ c.exceptionTable.toList, False := by
      obtain ⟨meth9, c9, h1, h2, -, -, -, -, h7, -⟩ := Cond.code_spec B.named (hts0 _ List.mem_cons_self)
      cases Option.some.inj (h1.symm.trans B.method)
      cases Option.some.inj (h2.symm.trans (Stand.of_body B).code)
      intro x hx
      rw [Array.isEmpty_iff.mp h7] at hx
      cases hx
    have K : W p l e lawR s m #[Value.ref b] below meth c s₁.heap [] 0 0 (nl_Z below s) (entryFrame m ([Value.ref b] : List Value).toArray 14) := by
      rw [hh0]
      exact nl_start l hflags nl_dice ⟨B.exec, B.bytes, B.returns, hml, hown, hts, hX, hbl, B.notSynchronized, hgv, ht⟩
    obtain ⟨t, a1, o, b1, b2, b3⟩ := K s₁ rfl X₀
    exact ⟨t, o, a1, b1, b2, b3⟩
/-- from a start that meets the Statement's premises, with the nines for its script, in a room that is large enough, the claim's first half doesn't hold -/
theorem nl_no {l : Launch} {p : Program} {e : Env} {s : State} {m : MethodId} {args : Array Value} {below : List Frame} {b : Addr} (hfl : l.flags = flags0)
    (hS : AtStart classFile x code maxLocals ret World_1 tables_1 room_1 Calls_1 rest_1 Pre_1 l p e s m args below) (hroom : s.hasRoom e.platform lawR = true) (hP : nl_P b args s) : ¬ Claimed_1_1 := by
  intro hC
  obtain ⟨hL, hW, had, -, hcas, hclk, hfr, hfit, hheap, happ, hcalls, hrest, hpre⟩ := hS
  obtain ⟨k, q, hin', -, hend', hpost⟩ := hC l hfl hL hW p e had hcas hclk s m args below hfr hfit hheap happ ⟨hcalls, hrest, hpre⟩
  obtain ⟨h1, h2, h3, h4, h5, h6, -, h8⟩ := (Spec.appliesLoose_iff hfr).mp ((Spec.applies_iff_loose hfr).mp happ).1
  obtain ⟨n, o, hin, -, hend, hgrow⟩ := nl_walk l hfl b p e had hcas hclk s m args below hfr ((Spec.appliesLoose_iff hfr).mpr ⟨h1, h2, h3, h4, h5, h6, hroom, h8⟩) hP trivial
  have hnk : n = k := by
    rcases Nat.lt_trichotomy n k with h | h | h
    · exact absurd (hin' n h) hend.not_within
    · exact h
    · exact absurd (hin k h) hend'.not_within
  subst hnk
  obtain ⟨-, -, -, hs⟩ := hpost
  have h9 : (stepsAlone p.tables e n s).heap.size ≤ s.heap.size + 223 := hs.2.2.1
  omega
/-- from a start that meets the Statement's premises, with the nines for its script, in a room that is large enough, its second half neither -/
theorem nl_no2 {l : Launch} {p : Program} {e : Env} {s : State} {m : MethodId} {args : Array Value} {below : List Frame} {b : Addr} (hfl : l.flags = flags0)
    (hS : AtStart classFile x code maxLocals ret World_1 tables_1 room_1 Calls_1 rest_1 Pre_1 l p e s m args below) (hroom : s.hasRoom e.platform lawR = true) (hP : nl_P b args s) : ¬ Claimed_1_2 := by
  intro hC
  obtain ⟨hL, hW, had, -, hcas, hclk, hfr, hfit, hheap, happ, hcalls, hrest, hpre⟩ := hS
  obtain ⟨k, q, hin', -, hend', hpost⟩ := hC l hfl hL hW p e had hcas hclk s m args below hfr hfit hheap happ ⟨hcalls, hrest, hpre⟩
  obtain ⟨h1, h2, h3, h4, h5, h6, -, h8⟩ := (Spec.appliesLoose_iff hfr).mp ((Spec.applies_iff_loose hfr).mp happ).1
  obtain ⟨n, o, hin, -, hend, hgrow⟩ := nl_walk l hfl b p e had hcas hclk s m args below hfr ((Spec.appliesLoose_iff hfr).mpr ⟨h1, h2, h3, h4, h5, h6, hroom, h8⟩) hP trivial
  have hnk : n = k := by
    rcases Nat.lt_trichotomy n k with h | h | h
    · exact absurd (hin' n h) hend.not_within
    · exact h
    · exact absurd (hin k h) hend'.not_within
  subst hnk
  obtain ⟨-, -, -, hs⟩ := hpost
  have h9 : (stepsAlone p.tables e n s).heap.size ≤ s.heap.size + 223 := hs.2.2.1
  omega

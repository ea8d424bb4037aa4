/-! A START OF THAT KIND: the printed start, with the nines for its script -/
def nl_cells : Array Value := (List.replicate 110 (Value.int 9)).toArray
def nl_about : State := start1.aboutOf nl_cells
set_option maxRecDepth 16384 in
theorem nl_others : ((Cond.code x code maxLocals ret :: tables_1).filter (fun c => !vx_ot c)).all (fun c => c.before start1.args0 nl_about) = true := by decide +kernel
theorem nl_words : ∀ c ∈ (Cond.code x code maxLocals ret :: tables_1), c.before start1.args0 nl_about = true := by
  intro c hc
  cases h : vx_ot c with
  | true => exact vx_ot_at (s := start1.about) (U := nl_about) (State.WarmedH.refl start1.about) rfl h (start1.words c hc)
  | false => exact List.all_eq_true.mp nl_others c (List.mem_filter.mpr ⟨hc, by rw [h]; rfl⟩)
set_option maxRecDepth 16384 in
theorem nl_given : (Cond.and given_1 narrow_1).before start1.args0 nl_about = true := by decide +kernel
set_option maxRecDepth 16384 in
theorem nl_rest : rest_1_c.before start1.args0 nl_about = true := by decide +kernel
set_option maxRecDepth 16384 in
theorem nl_atStart : AtStart classFile x code maxLocals ret World_1 tables_1 room_1 Calls_1 rest_1 Pre_1 launch0 start1.p0 start1.e0 nl_about ⟨0, 0⟩ start1.args0 Lib.HandBits.below0 :=
  ⟨lists_1, trivial, launch0.admits_env _ _ _, launch0.least_env, fairChoices_fair.cas, fairChoices_fair.clock, rfl, by decide +kernel, by decide +kernel,
    (Spec.applies_iff rfl).mpr ⟨rfl, rfl, rfl, by decide +kernel, by decide +kernel, by decide +kernel, launch0.hasRoom_least _ room_1 (by decide +kernel) (by decide +kernel) (by decide +kernel) (by decide +kernel) (by decide +kernel) (by decide +kernel), atoms_intro nl_words⟩,
    trivial, nl_rest, nl_given⟩
theorem nl_room : nl_about.hasRoom start1.e0.platform lawR = true := launch0.hasRoom_least _ lawR (by decide +kernel) (by decide +kernel) (by decide +kernel) (by decide +kernel) (by decide +kernel) (by decide +kernel)
theorem nl_inj : ∀ (n : Nat) (xs : List Int32), List.replicate n (Value.int 9) = xs.map Value.int → xs = List.replicate n 9
  | 0, xs, h => by
    have h1 : xs.map Value.int = [] := h.symm
    exact List.map_eq_nil_iff.mp h1
  | n + 1, [], h => by simp [List.replicate_succ] at h
  | n + 1, a :: r, h => by
    rw [List.replicate_succ, List.map_cons] at h
    injection h with h1 h2
    injection h1 with h1
    rw [List.replicate_succ, ← h1, nl_inj n r h2]
theorem nl_script : nl_P 0 start1.args0 nl_about := by
  refine ⟨rfl, ?_, nl_given⟩
  have hs := flat_of_before _ nl_given
  have hq := flat_of_before _ nl_rest
  have harr : (Cond.arrayOf (.arg 0) .int).before start1.args0 nl_about = true := hs _ (by decide +kernel)
  have hlen : (Cond.isInt (.length (.arg 0))).before start1.args0 nl_about = true := hq _ (by decide +kernel)
  have hall : (Cond.all (.arg 0) (.isInt (.elem (.arg 0) (.index 0)))).before start1.args0 nl_about = true := hq _ (by decide +kernel)
  obtain ⟨b, xs, hb, hx⟩ := State.ints_of_pre rfl harr hlen hall
  have hb0 : b = 0 := by
    have h1 : Value.ref 0 = Value.ref b := Option.some.inj (show some (Value.ref 0) = some (Value.ref b) from hb)
    exact (Value.ref.inj h1).symm
  subst hb0
  obtain ⟨scr, harrAt, hlist, hof, hsmall⟩ := id hx
  obtain ⟨hcb, hkn, -, -⟩ := State.arrayAt?_spec harrAt
  have hscr : scr.slots = nl_cells := by
    have h1 : nl_about.heap[0]? = some { cls := 14, slots := nl_cells, vm := .none } := rfl
    have h2 := Option.some.inj (hcb.symm.trans h1)
    rw [h2]
  have hxs : xs = nl_nines := by
    rw [hscr] at hlist
    exact nl_inj 110 xs hlist
  rw [← hxs]
  exact hx
/-- each half of the owed statement is false -/
theorem p31_first : ¬ Claimed_1_1 := nl_no rfl nl_atStart nl_room nl_script
theorem p31_second : ¬ Claimed_1_2 := nl_no2 rfl nl_atStart nl_room nl_script
/-- THE OWED STATEMENT IS FALSE -/
theorem p31_refuted : ¬ (Claimed_1_1 ∧ Claimed_1_2) := fun h => nl_no rfl nl_atStart nl_room nl_script h.1

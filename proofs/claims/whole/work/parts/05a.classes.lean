def oz_lyX0 : LY := [(5, false), (5, false), (5, false), (5, false), (12, false), (12, false), (12, false), (12, true), (12, false), (60, false), (60, false), (60, false), (60, true), (60, false), (0, false), (0, false), (0, false), (0, false), (0, false)]
def oz_KSX0 : KSt := [(81, "no such process"), (88, "wage is out of range"), (91, "rate is out of range"), (95, "asleep or too poor to buy"), (105, "no frame is free"), (107, "no such frame"), (109, "the frame is free"), (111, "lent, not empty, or of a sleeper"), (113, "no page is there"), (122, "no such process or page"), (124, "the process is not awake"), (133, "the touch is refused"), (138, "no such loan"), (143, "the loan does not last, or its page is coming"), (148, "ticks is out of range"), (151, "the tick would be above 50000"), (162, "place is below 0"), (182, "there were 60 loans")]
theorem oz_CX0 : oz_C RX0 0 TX0 19 oz_lyX0 := by
  refine ⟨rfl, rfl, by decide +kernel, ⟨tyX0, tyX0_ok, ?_⟩, nmX0⟩
  intro k b h
  have hk : k < 19 := (List.getElem?_eq_some_iff.mp h).1
  rcases (show k = 0 ∨ k = 1 ∨ k = 2 ∨ k = 3 ∨ k = 4 ∨ k = 5 ∨ k = 6 ∨ k = 7 ∨ k = 8 ∨ k = 9 ∨ k = 10 ∨ k = 11 ∨ k = 12 ∨ k = 13 ∨ k = 14 ∨ k = 15 ∨ k = 16 ∨ k = 17 ∨ k = 18 by omega) with rfl | rfl | rfl | rfl | rfl | rfl | rfl | rfl | rfl | rfl | rfl | rfl | rfl | rfl | rfl | rfl | rfl | rfl | rfl <;> first | exact ⟨rfl, rfl⟩ | (exfalso; simp [oz_lyX0] at h)
theorem oz_KSX0_81 : (81, "no such process") ∈ oz_KSX0 := by decide +kernel
theorem oz_KSX0_88 : (88, "wage is out of range") ∈ oz_KSX0 := by decide +kernel
theorem oz_KSX0_91 : (91, "rate is out of range") ∈ oz_KSX0 := by decide +kernel
theorem oz_KSX0_95 : (95, "asleep or too poor to buy") ∈ oz_KSX0 := by decide +kernel
theorem oz_KSX0_105 : (105, "no frame is free") ∈ oz_KSX0 := by decide +kernel
theorem oz_KSX0_107 : (107, "no such frame") ∈ oz_KSX0 := by decide +kernel
theorem oz_KSX0_109 : (109, "the frame is free") ∈ oz_KSX0 := by decide +kernel
theorem oz_KSX0_111 : (111, "lent, not empty, or of a sleeper") ∈ oz_KSX0 := by decide +kernel
theorem oz_KSX0_113 : (113, "no page is there") ∈ oz_KSX0 := by decide +kernel
theorem oz_KSX0_122 : (122, "no such process or page") ∈ oz_KSX0 := by decide +kernel
theorem oz_KSX0_124 : (124, "the process is not awake") ∈ oz_KSX0 := by decide +kernel
theorem oz_KSX0_133 : (133, "the touch is refused") ∈ oz_KSX0 := by decide +kernel
theorem oz_KSX0_138 : (138, "no such loan") ∈ oz_KSX0 := by decide +kernel
theorem oz_KSX0_143 : (143, "the loan does not last, or its page is coming") ∈ oz_KSX0 := by decide +kernel
theorem oz_KSX0_148 : (148, "ticks is out of range") ∈ oz_KSX0 := by decide +kernel
theorem oz_KSX0_151 : (151, "the tick would be above 50000") ∈ oz_KSX0 := by decide +kernel
theorem oz_KSX0_162 : (162, "place is below 0") ∈ oz_KSX0 := by decide +kernel
theorem oz_KSX0_182 : (182, "there were 60 loans") ∈ oz_KSX0 := by decide +kernel
theorem oz_tbX0_1 : ∀ w ∈ (vx_atS RX0 83 (oz_exn 1) oz_names).filter (fun w => !goodWord w), w ∈ oz_BX := by decide +kernel
theorem oz_twX0_1 : ∀ w ∈ Cond.classLink RX0 79 (oz_exn 1) :: Cond.initialized (oz_exn 1) :: vx_atS RX0 83 (oz_exn 1) oz_names, vx_ot w = true := by decide +kernel
theorem oz_tbX0_2 : ∀ w ∈ (vx_atS RX0 97 (oz_exn 2) oz_names).filter (fun w => !goodWord w), w ∈ oz_BX := by decide +kernel
theorem oz_twX0_2 : ∀ w ∈ Cond.classLink RX0 93 (oz_exn 2) :: Cond.initialized (oz_exn 2) :: vx_atS RX0 97 (oz_exn 2) oz_names, vx_ot w = true := by decide +kernel
theorem oz_tbX0_3 : ∀ w ∈ (vx_atS RX0 90 (oz_exn 3) oz_names).filter (fun w => !goodWord w), w ∈ oz_BX := by decide +kernel
theorem oz_twX0_3 : ∀ w ∈ Cond.classLink RX0 86 (oz_exn 3) :: Cond.initialized (oz_exn 3) :: vx_atS RX0 90 (oz_exn 3) oz_names, vx_ot w = true := by decide +kernel
def oz_lyX1 : LY := [(0, false), (0, false), (12, false), (12, false), (12, true), (12, false), (12, false), (5, false), (5, false), (5, false), (5, false), (0, false), (60, false), (60, false), (60, false), (60, false), (0, false), (0, false), (0, false)]
def oz_KSX1 : KSt := []
theorem oz_CX1 : oz_C RX1 1 TX1 19 oz_lyX1 := by
  refine ⟨rfl, rfl, by decide +kernel, ⟨tyX1, tyX1_ok, ?_⟩, nmX1⟩
  intro k b h
  have hk : k < 19 := (List.getElem?_eq_some_iff.mp h).1
  rcases (show k = 0 ∨ k = 1 ∨ k = 2 ∨ k = 3 ∨ k = 4 ∨ k = 5 ∨ k = 6 ∨ k = 7 ∨ k = 8 ∨ k = 9 ∨ k = 10 ∨ k = 11 ∨ k = 12 ∨ k = 13 ∨ k = 14 ∨ k = 15 ∨ k = 16 ∨ k = 17 ∨ k = 18 by omega) with rfl | rfl | rfl | rfl | rfl | rfl | rfl | rfl | rfl | rfl | rfl | rfl | rfl | rfl | rfl | rfl | rfl | rfl | rfl <;> first | exact ⟨rfl, rfl⟩ | (exfalso; simp [oz_lyX1] at h)

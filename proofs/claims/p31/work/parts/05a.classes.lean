def oz_lyX0 : LY := [(5, false), (5, false), (5, false), (5, false), (12, false), (12, false), (12, false), (12, true), (12, false), (60, false), (60, false), (60, false), (60, true), (60, false), (0, false), (0, false), (0, false), (0, false), (0, false)]
def oz_KSX0 : KSt := [(81, "no such process"), (88, "wage is out of range"), (91, "rate is out of range"), (107, "no such frame"), (109, "the frame is free"), (113, "no page is there"), (122, "no such process or page"), (138, "no such loan"), (148, "ticks is out of range"), (162, "place is below 0")]
theorem oz_CX0 : oz_C RX0 0 TX0 19 oz_lyX0 := ⟨rfl, rfl, by decide +kernel, by decide⟩
theorem oz_KSX0_81 : (81, "no such process") ∈ oz_KSX0 := by decide +kernel
theorem oz_KSX0_88 : (88, "wage is out of range") ∈ oz_KSX0 := by decide +kernel
theorem oz_KSX0_91 : (91, "rate is out of range") ∈ oz_KSX0 := by decide +kernel
theorem oz_KSX0_107 : (107, "no such frame") ∈ oz_KSX0 := by decide +kernel
theorem oz_KSX0_109 : (109, "the frame is free") ∈ oz_KSX0 := by decide +kernel
theorem oz_KSX0_113 : (113, "no page is there") ∈ oz_KSX0 := by decide +kernel
theorem oz_KSX0_122 : (122, "no such process or page") ∈ oz_KSX0 := by decide +kernel
theorem oz_KSX0_138 : (138, "no such loan") ∈ oz_KSX0 := by decide +kernel
theorem oz_KSX0_148 : (148, "ticks is out of range") ∈ oz_KSX0 := by decide +kernel
theorem oz_KSX0_162 : (162, "place is below 0") ∈ oz_KSX0 := by decide +kernel
theorem oz_tbX0_1 : ∀ w ∈ (vx_atS RX0 83 (oz_exn 1) oz_names).filter (fun w => !goodWord w), w ∈ oz_BX := by decide +kernel
theorem oz_twX0_1 : ∀ w ∈ Cond.classLink RX0 79 (oz_exn 1) :: Cond.initialized (oz_exn 1) :: vx_atS RX0 83 (oz_exn 1) oz_names, vx_ot w = true := by decide +kernel
theorem oz_tbX0_2 : ∀ w ∈ (vx_atS RX0 97 (oz_exn 2) oz_names).filter (fun w => !goodWord w), w ∈ oz_BX := by decide +kernel
theorem oz_twX0_2 : ∀ w ∈ Cond.classLink RX0 93 (oz_exn 2) :: Cond.initialized (oz_exn 2) :: vx_atS RX0 97 (oz_exn 2) oz_names, vx_ot w = true := by decide +kernel
theorem oz_tbX0_3 : ∀ w ∈ (vx_atS RX0 90 (oz_exn 3) oz_names).filter (fun w => !goodWord w), w ∈ oz_BX := by decide +kernel
theorem oz_twX0_3 : ∀ w ∈ Cond.classLink RX0 86 (oz_exn 3) :: Cond.initialized (oz_exn 3) :: vx_atS RX0 90 (oz_exn 3) oz_names, vx_ot w = true := by decide +kernel

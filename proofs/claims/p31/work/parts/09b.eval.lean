/-! THE OBJECT AS THE CONSTRUCTOR MAKES IT, AND WHAT THE WALK COMES TO -/
theorem FX_eq : ok_stX0 = FX := by
  funext a
  match a with
  | 0 => rfl
  | 1 => rfl
  | 2 => rfl
  | 3 =>
    funext b
    show (if b < 5 then (0 : Int32) else 0) = 0
    split <;> rfl
  | 4 => rfl
  | 5 => rfl
  | 6 => rfl
  | 7 => rfl
  | n + 8 =>
    show ok_stX0 (n + 8) = fun _ => 0
    funext b
    simp [ok_stX0, oz_us, ok_sX0]
set_option maxHeartbeats 40000000 in
set_option maxRecDepth 100000 in
theorem ev_ref0 : FL_isRefused 0 0 = some (0, 1, 49) := by decide +kernel
set_option maxHeartbeats 40000000 in
set_option maxRecDepth 100000 in
theorem ev_fra : FL_areFrames 7 = some (0, 1, 7) := by decide +kernel

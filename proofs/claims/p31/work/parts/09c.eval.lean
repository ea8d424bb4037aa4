/-! THE LAW ON THE NINES: it answers 1, and 453 throwables are made -/
set_option maxHeartbeats 400000000 in
set_option maxRecDepth 1000000 in
theorem ev_law : FL_law 0 = some (0, 1, 453) := by decide +kernel

theorem pure_main (xs : Nat → Int32) (L : Nat) (hL : L ≤ 1536) : FL_loop xs L 514 0 ok_stX0 ok_stX1 (fun _ => 0) = some 1 := sorry

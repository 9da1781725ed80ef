theorem law_ok (L : Nat) (xs : Nat → Int32) (hL : L ≤ 2048) : ∃ h', f_L_law L xs (fun _ => .inr (0, []), 0, 0) = some (1, h') := sorry

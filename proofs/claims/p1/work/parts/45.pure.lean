theorem law_pure {L : Nat} (hL : L ≤ 6) (xs : Nat → Int32) : ∃ σ', f_law L xs FU 0 σ0 = some (1, σ') := sorry

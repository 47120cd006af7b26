abbrev FUEL : Nat := 20000
theorem law_pure {xs : Nat → Int32} {L : Nat} (hL : L ≤ 3072) : Law_law FUEL xs L = some () := sorry

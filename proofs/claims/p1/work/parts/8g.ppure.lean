set_option maxHeartbeats 4000000 in
set_option maxRecDepth 100000 in
theorem law_tail (xs : Nat → Int32) : Law_L FUEL xs 6 (4999 + 1) 0 st0 = some () := by
  have hn : ∀ st : ST, Law_L FUEL xs 6 (4998 + 1) (0 + 6) st = some () := fun st => L_lt (by decide)
  have h0 : ¬ (Int32.ofNat 6 - 6 < (0 : Int32)) := by decide
  have hi : o_in 0 6 = true := by decide
  by_cases e0 : xs (0 : Int32).toNatClampNeg &&& 31 = 0
  · exact L_0 h0 hi e0 (p1_c0 xs) hn
  by_cases e1 : xs (0 : Int32).toNatClampNeg &&& 31 = 1
  · exact L_1 h0 hi e1 (p1_c1 xs) hn
  by_cases e2 : xs (0 : Int32).toNatClampNeg &&& 31 = 2
  · exact L_2 h0 hi e2 (p1_c2 xs) hn
  by_cases e3 : xs (0 : Int32).toNatClampNeg &&& 31 = 3
  · exact L_3 h0 hi e3 (p1_c3 xs) hn
  by_cases e4 : xs (0 : Int32).toNatClampNeg &&& 31 = 4
  · exact L_4 h0 hi e4 (p1_c4 xs) hn
  by_cases e5 : xs (0 : Int32).toNatClampNeg &&& 31 = 5
  · exact L_5 h0 hi e5 (p1_c5 xs) hn
  by_cases e6 : xs (0 : Int32).toNatClampNeg &&& 31 = 6
  · exact L_6 h0 hi e6 (p1_c6 xs) hn
  by_cases e7 : xs (0 : Int32).toNatClampNeg &&& 31 = 7
  · exact L_7 h0 hi e7 (p1_c7 xs) hn
  by_cases e8 : xs (0 : Int32).toNatClampNeg &&& 31 = 8
  · exact L_8 h0 hi e8 (p1_c8 xs) hn
  by_cases e9 : xs (0 : Int32).toNatClampNeg &&& 31 = 9
  · exact L_9 h0 hi e9 (p1_c9 xs) hn
  by_cases e10 : xs (0 : Int32).toNatClampNeg &&& 31 = 10
  · exact L_10 h0 hi e10 (p1_c10 xs) hn
  by_cases e11 : xs (0 : Int32).toNatClampNeg &&& 31 = 11
  · exact L_11 h0 hi e11 (p1_c11 xs) hn
  by_cases e12 : xs (0 : Int32).toNatClampNeg &&& 31 = 12
  · exact L_12 h0 hi e12 (p1_c12 xs) hn
  by_cases e13 : xs (0 : Int32).toNatClampNeg &&& 31 = 13
  · exact L_13 h0 hi e13 (p1_c13 xs) hn
  by_cases e14 : xs (0 : Int32).toNatClampNeg &&& 31 = 14
  · exact L_14 h0 hi e14 (p1_c14 xs) hn
  by_cases e15 : xs (0 : Int32).toNatClampNeg &&& 31 = 15
  · exact L_15 h0 hi e15 (p1_c15 xs) hn
  by_cases e16 : xs (0 : Int32).toNatClampNeg &&& 31 = 16
  · exact L_16 h0 hi e16 (p1_c16 xs) hn
  by_cases e17 : xs (0 : Int32).toNatClampNeg &&& 31 = 17
  · exact L_17 h0 hi e17 (p1_c17 xs) hn
  by_cases e18 : xs (0 : Int32).toNatClampNeg &&& 31 = 18
  · exact L_18 h0 hi e18 (p1_c18 xs) hn
  by_cases e19 : xs (0 : Int32).toNatClampNeg &&& 31 = 19
  · exact L_19 h0 hi e19 (p1_c19 xs) hn
  by_cases e20 : xs (0 : Int32).toNatClampNeg &&& 31 = 20
  · exact L_20 h0 hi e20 (p1_c20 xs) hn
  exact L_no h0 hi e0 e1 e2 e3 e4 e5 e6 e7 e8 e9 e10 e11 e12 e13 e14 e15 e16 e17 e18 e19 e20 (hn st0)
theorem law_pure {xs : Nat → Int32} {L : Nat} (hL : L ≤ 6) : Law_law FUEL xs L = some () := by
  have hX : X_init FUEL = some X0 := (Option.some_get X_some).symm
  have hM : Mod_init FUEL = some M0 := (Option.some_get M_some).symm
  have hS : Law_law FUEL xs L = Law_L FUEL xs L FUEL 0 st0 := law_un hX hM
  rw [hS]
  rcases Nat.lt_or_ge L 6 with h | h
  · have h2 : ∀ k : Nat, k < 6 → Int32.ofNat k - 6 < 0 := by decide
    exact L_lt (n := 4999) (h2 L h)
  · obtain rfl : L = 6 := by omega
    exact law_tail xs

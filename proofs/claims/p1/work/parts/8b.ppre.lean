theorem entNo {v c : Int32} (h : v < -1 ∨ 4 ≤ v ∨ c < 0 ∨ 64 ≤ c) : Tab_entryOf v c = some (-1) ∧ Mod_isEntry v c = some 0 := by
  unfold Tab_entryOf Desc_isElement Mod_isEntry
  by_cases h1 : v < -1
  · simp only [h1, if_true, and_self]
  by_cases h2 : 4 ≤ v
  · have h3 : 3 < v := Int32.not_le.mp fun z => (Int32.not_lt.mpr h2) ((lt_le rfl).mpr z)
    simp only [h1, h2, h3, if_true, if_false, and_self]
  have h3 : ¬ 3 < v := Int32.not_lt.mpr ((lt_le rfl).mp (Int32.not_le.mp h2))
  by_cases h4 : c < 0
  · simp only [h1, h2, h3, h4, if_true, if_false, ob, and_self]
  by_cases h5 : 64 ≤ c
  · have h6 : 63 < c := Int32.not_le.mp fun z => (Int32.not_lt.mpr h5) ((lt_le rfl).mpr z)
    simp only [h1, h2, h3, h4, h5, h6, if_true, if_false, ob, and_self]
  · rcases h with h | h | h | h
    · exact absurd h h1
    · exact absurd h h2
    · exact absurd h h4
    · exact absurd h h5
theorem entYes {v c : Int32} (h1 : ¬ v < -1) (h2 : ¬ 4 ≤ v) (h4 : ¬ c < 0) (h5 : ¬ 64 ≤ c) : Mod_isEntry v c = some 1 := by
  unfold Mod_isEntry
  have h3 : ¬ 3 < v := Int32.not_lt.mpr ((lt_le rfl).mp (Int32.not_le.mp h2))
  have h6 : ¬ 63 < c := Int32.not_lt.mpr ((lt_le rfl).mp (Int32.not_le.mp h5))
  simp only [h1, h3, h4, h6, if_false]
theorem wd_X : ∀ j : Nat, j < 320 → Tab_widths (ST_Tab st0) j = 0 := by decide +kernel
theorem th_M : ∀ j : Nat, j < 320 → ST_Mthere st0 j = 0 := by decide +kernel
theorem scN {c d e : Int32} (h : c < -8 ∨ 8 < c ∨ e < 1 ∨ 32 < e ∨ d < -1000000000 ∨ 1000000000 < d) : Tab_isEntry c d e = some 0 := by
  unfold Tab_isEntry Tab_isScale Tab_isWidth
  have n1 : ¬ (1 : Int32) = 0 := by decide
  by_cases h1 : c < -8
  · simp only [h1, if_true, ob]
  by_cases h2 : 8 < c
  · simp only [h1, h2, if_true, if_false, ob]
  by_cases h3 : e < 1
  · simp only [h1, h2, h3, if_true, if_false, ob, n1]
  by_cases h4 : 32 < e
  · simp only [h1, h2, h3, h4, if_true, if_false, ob, n1]
  by_cases h5 : d < -1000000000
  · simp only [h1, h2, h3, h4, h5, if_true, if_false, ob, n1]
  by_cases h6 : 1000000000 < d
  · simp only [h1, h2, h3, h4, h5, h6, if_true, if_false, ob, n1]
  · rcases h with h | h | h | h | h | h
    · exact absurd h h1
    · exact absurd h h2
    · exact absurd h h3
    · exact absurd h h4
    · exact absurd h h5
    · exact absurd h h6
theorem row_all : ∀ i : Nat, i < 8 → ∀ j : Nat, j < 100 → o_in ((100 * Int32.ofNat i) + Int32.ofNat j) 800 = true := by decide +kernel
theorem row_in {a b : Int32} (h0 : ¬ a < 0) (h1 : a < 8) (h2 : ¬ b < 0) (h3 : b < 100) : o_in ((100 * a) + b) 800 = true := by
  obtain ⟨i, hi, rfl⟩ := as_nat (n := 8) h0 h1 (by decide)
  obtain ⟨j, hj, rfl⟩ := as_nat (n := 100) h2 h3 (by decide)
  exact row_all i hi j hj
theorem va_X8 : ∀ i : Nat, i < 8 → ∀ j : Nat, j < 100 → ST_VAL st0 i j = -9000000000000000000 := by decide +kernel
theorem va_M8 : ∀ i : Nat, i < 8 → ∀ j : Nat, j < 100 → ST_Mvalues st0 ((100 * Int32.ofNat i) + Int32.ofNat j).toNatClampNeg = -9000000000000000000 := by decide +kernel
theorem wb_X : Bits_length (ST_WB st0) = 0 := by decide +kernel
theorem ad_1 : ∀ m : Nat, m < 32 → Int32.ofNat (m + 1) - 1 = Int32.ofNat m ∧ ¬ (Int32.ofNat m < 0) ∧ Int32.ofNat m + (-1) = Int32.ofNat m - 1 := by decide +kernel
theorem ad_2 : ∀ z : Nat, z < 32 → ¬ (Int32.ofNat 1000 ≤ (Int32.ofNat z) / 8) ∧ o_in ((Int32.ofNat z) / 8) 1000 = true ∧ Int32.ofNat z + 1 = Int32.ofNat (z + 1) := by decide +kernel
theorem add_len {fu : Nat} {w : Int64} (n : Nat) : ∀ (m z : Nat) (s : S_Bits), z + m ≤ 32 → Bits_length s = Int32.ofNat z → ∃ s' : S_Bits, Bits_add_L5 fu 1000 w (n + m + 1) (Int32.ofNat m - 1) s = some s' ∧ Bits_length s' = Int32.ofNat (z + m)
  | 0, z, s, hz, hs => by
    rw [Bits_add_L5, if_pos (by decide)]
    exact ⟨s, rfl, hs⟩
  | m + 1, z, s, hz, hs => by
    obtain ⟨a1, a2, a3⟩ := ad_1 m (by omega)
    obtain ⟨b1, b2, b3⟩ := ad_2 z (by omega)
    rw [a1, show n + (m + 1) + 1 = (n + m + 1) + 1 by omega, Bits_add_L5, if_neg a2, if_neg (by rw [hs]; exact b1)]
    have key : ∀ t : S_Bits, Bits_length t = Int32.ofNat z → ∃ s' : S_Bits, Bits_add_j62 fu 1000 (fun v0 v1 => Bits_add_L5 fu 1000 w (n + m + 1) v0 v1) w (Int32.ofNat m) t = some s' ∧ Bits_length s' = Int32.ofNat (z + (m + 1)) := by
      intro t ht
      unfold Bits_add_j62
      rw [ol, a3]
      obtain ⟨s', h1, h2⟩ := add_len n m (z + 1) (Bits_set_length t (Bits_length t + 1)) (by omega) (by show Bits_length t + 1 = _; rw [ht]; exact b3)
      exact ⟨s', h1, by rw [h2, show z + 1 + m = z + (m + 1) by omega]⟩
    split
    · exact key s hs
    · rw [og (by rw [hs]; exact b2), og (by rw [hs]; exact b2), ol]
      exact key _ hs
theorem tp_X : Bits_length (ST_TP st0) = 0 := by decide +kernel
theorem fd_1 : ∀ m : Nat, m < 4 → Int32.ofNat (m + 1) - 1 = Int32.ofNat m ∧ ¬ (Int32.ofNat m < 0) ∧ Int32.ofNat m + (-1) = Int32.ofNat m - 1 := by decide +kernel
theorem fd_2 : ∀ z : Nat, z < 4 → o_in (Int32.ofNat z) 1000 = true ∧ Int32.ofNat z + 1 = Int32.ofNat (z + 1) := by decide +kernel
theorem fd_len {fu : Nat} {w : Int32} (n : Nat) : ∀ (m z : Nat) (s : S_Mo) (t : Nat → Int32), z + m ≤ 4 → Mo_taped s = Int32.ofNat z → ∃ q, Mod_feed_L33 fu w (n + m + 1) (Int32.ofNat m - 1) s t = some q ∧ q.1 = Int32.ofNat (z + m)
  | 0, z, s, t, hz, hs => by
    rw [Mod_feed_L33, if_pos (by decide)]
    exact ⟨_, rfl, hs⟩
  | m + 1, z, s, t, hz, hs => by
    obtain ⟨a1, a2, a3⟩ := fd_1 m (by omega)
    obtain ⟨b1, b2⟩ := fd_2 z (by omega)
    rw [a1, show n + (m + 1) + 1 = (n + m + 1) + 1 by omega, Mod_feed_L33, if_neg a2, og (by rw [hs]; exact b1), ol, ol, a3]
    obtain ⟨q, h1, h2⟩ := fd_len n m (z + 1) (Mo_set_taped s (Mo_taped s + 1)) _ (by omega) (by show Mo_taped s + 1 = _; rw [hs]; exact b2)
    exact ⟨q, h1, by rw [h2, show z + 1 + m = z + (m + 1) by omega]⟩
theorem pk_X : ∀ j : Nat, j < 64 → Grd_packed (ST_Grd st0) j = -9000000000000000000 := by decide +kernel
theorem pk_M : ∀ j : Nat, j < 64 → ST_Mpacked st0 j = -9000000000000000000 := by decide +kernel
theorem gc_X : Grd_codeCount (ST_Grd st0) = -1 := by decide +kernel
theorem gb_X : Grd_groupBits (ST_Grd st0) = -1 := by decide +kernel
theorem gn_X : Grd_groupCount (ST_Grd st0) = 0 := by decide +kernel

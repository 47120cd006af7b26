set_option maxHeartbeats 4000000 in
set_option maxRecDepth 100000 in
theorem p1_c14 (xs : Nat → Int32) : (La_c14 FUEL xs 6 (ST_X st0) (ST_Wri st0) (ST_WB st0) (ST_Mmade st0) 0 (ST_Mo st0)).isSome = true := by
  rw [fX, fMo]
  unfold La_c14 X_byteAt Mod_byteAt Bits_byteCount
  rw [og g1]
  generalize xs _ = a
  have hw : Bits_length (ST_WB st0) = 0 := wb_X
  by_cases h0 : a < 0
  · simp only [h0, if_true, ob, ol, og g1]
    rfl
  · have h1 : ((Bits_length (ST_WB st0)) + 7) / 8 ≤ a := by rw [hw]; exact Int32.not_lt.mp h0
    simp only [h0, h1, if_true, if_false, ob, ol, og g1]
    rfl
set_option maxHeartbeats 4000000 in
set_option maxRecDepth 100000 in
theorem p1_c15 (xs : Nat → Int32) : (La_c15 FUEL xs 6 (ST_X st0) 0 (ST_TP st0) (ST_Mo st0) (ST_Mtape st0)).isSome = true := by
  rw [fX, fMo]
  unfold La_c15 X_feed Mod_feed Bits_add Bits_byteCount
  simp only [og g1, og g2, ol, ob, tp_X]
  generalize xs ((0 : Int32) + 1).toNatClampNeg = w
  generalize xs ((0 : Int32) + 2).toNatClampNeg = a
  by_cases h0 : a < 1
  · simp only [h0, if_true, ob]
    rfl
  by_cases h1 : 4 < a
  · simp only [h0, h1, if_true, if_false, ob]
    rfl
  have h2 : a < 5 := (lt_le rfl).mpr (Int32.not_lt.mp h1)
  have h3 : ¬ a < 0 := fun z => h0 (Int32.lt_trans z (by decide))
  obtain ⟨i, hi, rfl⟩ := as_nat (n := 5) h3 h2 (by decide)
  have hi0 : i ≠ 0 := fun z => by
    subst z
    exact h0 (by decide)
  have c1 : ∀ j : Nat, j < 5 → (((0 : Int32) + 7) / 8 + Int32.ofNat j ≤ 1000) ∧ ((0 : Int32) + Int32.ofNat j ≤ 1000) ∧ 8 * Int32.ofNat j - 1 = Int32.ofNat (8 * j) - 1 ∧ (Int32.ofNat (8 * j) + 7) / 8 = Int32.ofNat j := by decide +kernel
  obtain ⟨d1, d2, d3, d4⟩ := c1 i hi
  obtain ⟨s', k1, k2⟩ := add_len (fu := FUEL) (w := w.toInt64) (4999 - 8 * i) (8 * i) 0 (ST_TP st0) (by omega) tp_X
  rw [show 4999 - 8 * i + 8 * i + 1 = FUEL by show _ = 5000; omega] at k1
  obtain ⟨q, m1, m2⟩ := fd_len (fu := FUEL) (w := w) (4999 - i) i 0 (Mo_set_thrown (0, 3, 0, -1, 0, 0, 0, 0, 0, 0, 0, 0, 0, 0, 0, 0, 0, 0, 0, 0, 0, -1, 0) 0) (ST_Mtape st0) (by omega) rfl
  rw [show 4999 - i + i + 1 = FUEL by show _ = 5000; omega] at m1
  rw [Nat.zero_add] at k2 m2
  simp only [h0, h1, d1, if_true, if_false, d3, k1, ob, k2, d4]
  rw [if_pos (show Mo_taped (Mo_set_thrown (0, 3, 0, -1, 0, 0, 0, 0, 0, 0, 0, 0, 0, 0, 0, 0, 0, 0, 0, 0, 0, -1, 0) 0) + Int32.ofNat i ≤ 1000 from d2), m1, ob, if_pos m2.symm]
  rfl
set_option maxHeartbeats 4000000 in
set_option maxRecDepth 100000 in
theorem p1_c16 (xs : Nat → Int32) : (La_c16 FUEL xs 6 (ST_Tab st0) (ST_Mthere st0) (ST_Mscales st0) (ST_Mreferences st0) (ST_Mwidths st0) (ST_Mlists st0) (ST_Mlengths st0) (ST_Mtape st0) 0 (ST_X st0) (ST_Prog st0) (ST_Walk st0) (ST_Fld st0) (ST_Lps st0) (ST_TP st0) (ST_Rea st0) (ST_RR st0) (ST_VAL st0) (ST_Mo st0) (ST_Mvalues st0) (ST_Mread st0) (ST_Mlist st0) (ST_Mnext st0) (ST_Mend st0) (ST_Mbegin st0) (ST_Mleft st0) (ST_Mturn st0) (ST_MfoundOps st0) (ST_Mops st0) (ST_Mkind st0) (ST_Mcode st0) (ST_Mwidth st0) (ST_Mscale st0) (ST_Mlink st0) (ST_Mrepeat st0) (ST_Mbase st0) (ST_MelementAt st0) (ST_MpointAt st0) (ST_Mbits st0) (ST_RW st0)).isSome = true := by
  unfold La_c16 La_c16_j1020
  decide +kernel
set_option maxHeartbeats 4000000 in
set_option maxRecDepth 100000 in
theorem p1_c17 (xs : Nat → Int32) : (La_c17 FUEL xs 6 (ST_X st0) 0 (ST_Grd st0) (ST_Mo st0) (ST_Mpoints st0)).isSome = true := by
  rw [fX, fMo]
  unfold La_c17 Law_point X_point X_point_j56 Mod_point Mod_point_j11 Mod_point_j43 Mod_point_j39 Mod_point_j44 Mod_thrown
  simp only [og g1, og g2, og g3]
  generalize xs ((0 : Int32) + 1).toNatClampNeg = a
  generalize (_ ||| _ : Int64) = v
  generalize ST_Grd st0 = sGrd
  generalize ST_Mpoints st0 = sMpoints
  by_cases h0 : a < 0
  · simp only [h0, if_true, ob, ol]
    rfl
  by_cases h1 : a < 64
  · have h2 : a ≤ 63 := (lt_le rfl).mp h1
    have i1 : o_in a 64 = true := in_of h0 h1 (by decide)
    by_cases h3 : v = -9000000000000000000
    · simp only [h0, h1, h2, h3, if_true, if_false, ob, ol, og i1]
      rfl
    by_cases h4 : v < -2000000000
    · simp only [h0, h1, h2, h3, h4, if_true, if_false, ob, ol, og i1]
      rfl
    by_cases h5 : v ≤ 2000000000
    · simp only [h0, h1, h2, h3, h4, h5, if_true, if_false, ob, ol, og i1]
      rfl
    · simp only [h0, h1, h2, h3, h4, h5, if_true, if_false, ob, ol, og i1]
      rfl
  · have h2 : ¬ a ≤ 63 := fun z => h1 ((lt_le rfl).mpr z)
    simp only [h0, h1, h2, if_true, if_false, ob, ol]
    rfl
set_option maxHeartbeats 4000000 in
set_option maxRecDepth 100000 in
theorem p1_c18 (xs : Nat → Int32) : (La_c18 FUEL xs 6 (ST_X st0) (ST_Mpoints st0) 0 (ST_Grd st0) (ST_Mo st0) (ST_Mpacked st0) (ST_McodeOf st0) (ST_Mcost st0) (ST_Mcut st0) (ST_Mends st0) (ST_RW st0)).isSome = true := by
  rw [fX, fMo]
  unfold La_c18 Law_pack X_pack Mod_pack La_c18_j1156
  simp only [og g1, bare_X, ob]
  generalize xs ((0 : Int32) + 1).toNatClampNeg = a
  have hl : ∀ (s1 : S_Mo) (s2 s3 s4 : Nat → Int64) (s5 s6 : Nat → Int32) (ke : Int64 → Int64 → Option (Int32 × S_Mo × (Nat → Int64) × (Nat → Int64) × (Nat → Int64) × (Nat → Int32) × (Nat → Int32))) (x y : Int64), Mod_pack_L12 FUEL (ST_Mpoints st0) a s1 s2 s3 s4 s5 s6 ke FUEL x y 0 = ke x y := fun s1 s2 s3 s4 s5 s6 ke x y => pkl_M pt_M 4935 x y 64 0 rfl
  have n1 : ¬ (1 : Int32) = 0 := by decide
  simp only [hl]
  unfold Mod_pack_j110 Mod_pack_j122 Mod_pack_j139
  by_cases h0 : a < 1
  · simp only [h0, if_true, ob, ol]
    rfl
  by_cases h1 : a ≤ 31
  · simp only [h0, h1, if_true, if_false, ob, ol, n1]
    rfl
  · simp only [h0, h1, if_false, ob, ol]
    rfl
set_option maxHeartbeats 4000000 in
set_option maxRecDepth 100000 in
theorem p1_c19 (xs : Nat → Int32) : (La_c19 FUEL xs 6 (ST_X st0) (ST_Grd st0) (ST_Mpacked st0) 0 (ST_Mo st0)).isSome = true := by
  rw [fX, fMo]
  unfold La_c19 X_packedAt Mod_packedAt
  rw [og g1]
  generalize xs _ = a
  by_cases h0 : a < 0
  · simp only [h0, if_true, ob, ol, og g1]
    rfl
  · by_cases h1 : 64 ≤ a
    · have h2 : ¬ a ≤ 63 := fun z => (Int32.not_lt.mpr h1) ((lt_le rfl).mpr z)
      simp only [h0, h1, h2, if_true, if_false, ob, ol, og g1]
      rfl
    · have h2 : a ≤ 63 := (lt_le rfl).mp (Int32.not_le.mp h1)
      have h5 : o_in a 64 = true := in_of h0 (Int32.not_le.mp h1) (by decide)
      obtain ⟨j, hj, rfl⟩ := as_nat (n := 64) h0 (Int32.not_le.mp h1) (by decide)
      have e1 : (Int32.ofNat j).toNatClampNeg = j := Int32.toNatClampNeg_ofNat_of_lt (by omega)
      simp only [h0, h1, h2, if_true, if_false, ob, ol, og g1, og h5, e1, pk_X j hj, pk_M j hj]
      rfl
set_option maxHeartbeats 4000000 in
set_option maxRecDepth 100000 in
theorem p1_c20 (xs : Nat → Int32) : (La_c20 FUEL xs 6 (ST_X st0) (ST_Grd st0) (ST_Mcost st0) (ST_Mends st0) 0 (ST_Mo st0)).isSome = true := by
  rw [fX, fMo]
  unfold La_c20 X_group Mod_group
  rw [og g1]
  generalize xs _ = a
  by_cases h0 : a = -1
  · simp only [h0, if_true, ob, ol, og g1, gc_X]
    rfl
  · by_cases h1 : a = -2
    · simp only [h1, if_true, if_false, ob, ol, og g1, gb_X]
      rfl
    · by_cases h2 : a < 0
      · simp only [h0, h1, h2, if_true, if_false, ob, ol, og g1]
        rfl
      · have h3 : Grd_groupCount (ST_Grd st0) ≤ a := by rw [gn_X]; exact Int32.not_lt.mp h2
        simp only [h0, h1, h2, h3, if_true, if_false, ob, ol, og g1]
        rfl

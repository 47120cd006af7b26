set_option maxHeartbeats 4000000 in
set_option maxRecDepth 100000 in
theorem p1_c7 (xs : Nat → Int32) : (La_c7 FUEL xs 6 (ST_X st0) 0 (ST_VAL st0) (ST_Mo st0) (ST_Mvalues st0)).isSome = true := by
  rw [fX, fMo]
  unfold La_c7 Law_put X_put X_isValue X_isSubset Mod_put Mod_isSubset Mod_put_j22 Mod_put_j23 Mod_thrown
  simp only [og g1, og g2, og g3, og g4]
  generalize xs ((0 : Int32) + 1).toNatClampNeg = a
  generalize xs ((0 : Int32) + 2).toNatClampNeg = b
  generalize (_ ||| _ : Int64) = v
  generalize ST_VAL st0 = sVAL
  generalize ST_Mvalues st0 = sMvalues
  by_cases h0 : a < 0
  · simp only [h0, if_true, ob, ol]
    rfl
  by_cases h1 : 8 ≤ a
  · simp only [h0, h1, if_true, if_false, ob, ol]
    rfl
  by_cases h2 : b < 0
  · simp only [h0, h1, h2, if_true, if_false, ob, ol]
    rfl
  by_cases h3 : 100 ≤ b
  · simp only [h0, h1, h2, h3, if_true, if_false, ob, ol]
    rfl
  have i1 : o_in a 8 = true := in_of h0 (Int32.not_le.mp h1) (by decide)
  have i2 : o_in b 100 = true := in_of h2 (Int32.not_le.mp h3) (by decide)
  have i3 := row_in h0 (Int32.not_le.mp h1) h2 (Int32.not_le.mp h3)
  simp only [h0, h1, h2, h3, if_true, if_false, ob, ol, og i1, og i2, og i3]
  rfl
set_option maxHeartbeats 4000000 in
set_option maxRecDepth 100000 in
theorem p1_c8 (xs : Nat → Int32) : (La_c8 FUEL xs 6 (ST_X st0) (ST_VAL st0) (ST_Mvalues st0) 0 (ST_Mo st0) (ST_RW st0)).isSome = true := by
  rw [fX, fMo]
  unfold La_c8 Law_get X_get X_isValue X_isSubset Mod_get Mod_isSubset Mod_get_j22 Mod_get_j23 Mod_thrown La_c8_j626
  simp only [og g1, og g2]
  generalize xs ((0 : Int32) + 1).toNatClampNeg = a
  generalize xs ((0 : Int32) + 2).toNatClampNeg = b
  generalize ST_RW st0 = sRW
  by_cases h0 : a < 0
  · simp only [h0, if_true, ob, ol]
    rfl
  by_cases h1 : 8 ≤ a
  · simp only [h0, h1, if_true, if_false, ob, ol]
    rfl
  by_cases h2 : b < 0
  · simp only [h0, h1, h2, if_true, if_false, ob, ol]
    rfl
  by_cases h3 : 100 ≤ b
  · simp only [h0, h1, h2, h3, if_true, if_false, ob, ol]
    rfl
  have i1 : o_in a 8 = true := in_of h0 (Int32.not_le.mp h1) (by decide)
  have i2 : o_in b 100 = true := in_of h2 (Int32.not_le.mp h3) (by decide)
  have i3 := row_in h0 (Int32.not_le.mp h1) h2 (Int32.not_le.mp h3)
  have i4 : o_in 0 1 = true := by decide
  obtain ⟨i, hi, rfl⟩ := as_nat (n := 8) h0 (Int32.not_le.mp h1) (by decide)
  obtain ⟨j, hj, rfl⟩ := as_nat (n := 100) h2 (Int32.not_le.mp h3) (by decide)
  have e1 : (Int32.ofNat i).toNatClampNeg = i := Int32.toNatClampNeg_ofNat_of_lt (by omega)
  have e2 : (Int32.ofNat j).toNatClampNeg = j := Int32.toNatClampNeg_ofNat_of_lt (by omega)
  simp only [h0, h1, h2, h3, if_true, if_false, ob, ol, og i1, og i2, og i3, og i4, e1, e2, va_X8 i hi j hj, va_M8 i hi j hj]
  rfl
set_option maxHeartbeats 4000000 in
set_option maxRecDepth 100000 in
theorem p1_c9 (xs : Nat → Int32) : (La_c9 FUEL xs 6 (ST_Tab st0) (ST_VAL st0) (ST_Mthere st0) (ST_Mscales st0) (ST_Mreferences st0) (ST_Mwidths st0) (ST_Mlists st0) (ST_Mlengths st0) (ST_Mvalues st0) (ST_Mbits st0) 0 (ST_X st0) (ST_Prog st0) (ST_Walk st0) (ST_Fld st0) (ST_Lps st0) (ST_Mo st0) (ST_Mread st0) (ST_Mlist st0) (ST_Mnext st0) (ST_Mend st0) (ST_Mbegin st0) (ST_Mleft st0) (ST_Mturn st0) (ST_MfoundOps st0) (ST_Mops st0) (ST_Mkind st0) (ST_Mcode st0) (ST_Mwidth st0) (ST_Mscale st0) (ST_Mlink st0) (ST_Mrepeat st0) (ST_Mbase st0) (ST_MelementAt st0) (ST_MpointAt st0) (ST_RW st0)).isSome = true := by
  unfold La_c9 La_c9_j682
  simp only [og g1]
  generalize xs ((0 : Int32) + 1).toNatClampNeg = a
  by_cases h0 : a < 0 ∨ 8 ≤ a
  · have e1 : X_isSubset a = some 0 := by
      unfold X_isSubset
      rcases h0 with h | h
      · rw [if_pos h]
      · by_cases h2 : a < 0
        · rw [if_pos h2]
        · rw [if_neg h2, if_pos h]
    have e2 : Mod_isSubset a = some 0 := e1
    unfold Law_fields X_fields Mod_fields
    rw [e1, e2]
    rfl
  · have h1 : ¬ a < 0 := fun z => h0 (Or.inl z)
    have h2 : ¬ 8 ≤ a := fun z => h0 (Or.inr z)
    obtain ⟨i, hi, rfl⟩ := as_nat (n := 8) h1 (Int32.not_le.mp h2) (by decide)
    clear h0 h1 h2
    revert i
    decide +kernel
set_option maxHeartbeats 4000000 in
set_option maxRecDepth 100000 in
theorem p1_c10 (xs : Nat → Int32) : (La_c10 FUEL xs 6 (ST_X st0) (ST_Tab st0) (ST_VAL st0) (ST_Mthere st0) (ST_Mscales st0) (ST_Mreferences st0) (ST_Mwidths st0) (ST_Mlists st0) (ST_Mlengths st0) (ST_Mvalues st0) (ST_Mbits st0) 0 (ST_Prog st0) (ST_Walk st0) (ST_Fld st0) (ST_Lps st0) (ST_Mo st0) (ST_Mread st0) (ST_Mlist st0) (ST_Mnext st0) (ST_Mend st0) (ST_Mbegin st0) (ST_Mleft st0) (ST_Mturn st0) (ST_MfoundOps st0) (ST_Mops st0) (ST_Mkind st0) (ST_Mcode st0) (ST_Mwidth st0) (ST_Mscale st0) (ST_Mlink st0) (ST_Mrepeat st0) (ST_Mbase st0) (ST_MelementAt st0) (ST_MpointAt st0)).isSome = true := by
  rw [fX, fMo]
  unfold La_c10 X_field Mod_field
  simp only [og g1, og g2, og g3, ol]
  generalize xs ((0 : Int32) + 1).toNatClampNeg = a
  generalize xs ((0 : Int32) + 2).toNatClampNeg = i
  generalize xs ((0 : Int32) + 3).toNatClampNeg = c
  obtain ⟨q, k1, k2⟩ := wlk a
  obtain ⟨r, m1, m2⟩ := ask0 a
  have n1 : ¬ (1 : Int32) = 0 := by decide
  by_cases h0 : i < 0
  · rcases k2 with k2 | ⟨k2, k3⟩
    · simp only [k1, ob, k2, h0, if_true]
      rfl
    · simp only [k1, ob, k2, n1, if_false, has0 k3, h0, if_true]
      rfl
  · have h1 : ¬ i < r.1 := by rw [m2]; exact h0
    rcases k2 with k2 | ⟨k2, k3⟩
    · simp only [k1, m1, ob, k2, h0, h1, if_true, if_false]
      rfl
    · simp only [k1, m1, ob, k2, n1, if_false, has0 k3, h0, h1, if_true]
      rfl
set_option maxHeartbeats 4000000 in
set_option maxRecDepth 100000 in
theorem p1_c11 (xs : Nat → Int32) : (La_c11 FUEL xs 6 (ST_X st0) (ST_Tab st0) (ST_VAL st0) (ST_Mthere st0) (ST_Mscales st0) (ST_Mreferences st0) (ST_Mwidths st0) (ST_Mlists st0) (ST_Mlengths st0) (ST_Mvalues st0) (ST_Mbits st0) 0 (ST_Prog st0) (ST_Walk st0) (ST_Fld st0) (ST_Lps st0) (ST_Mo st0) (ST_Mread st0) (ST_Mlist st0) (ST_Mnext st0) (ST_Mend st0) (ST_Mbegin st0) (ST_Mleft st0) (ST_Mturn st0) (ST_MfoundOps st0) (ST_Mops st0) (ST_Mkind st0) (ST_Mcode st0) (ST_Mwidth st0) (ST_Mscale st0) (ST_Mlink st0) (ST_Mrepeat st0) (ST_Mbase st0) (ST_MelementAt st0) (ST_MpointAt st0)).isSome = true := by
  rw [fX, fMo]
  unfold La_c11 X_reference Mod_reference
  simp only [og g1, og g2, ol]
  generalize xs ((0 : Int32) + 1).toNatClampNeg = a
  generalize xs ((0 : Int32) + 2).toNatClampNeg = i
  obtain ⟨q, k1, k2⟩ := wlk a
  obtain ⟨r, m1, m2⟩ := ask0 a
  have n1 : ¬ (1 : Int32) = 0 := by decide
  by_cases h0 : i < 0
  · rcases k2 with k2 | ⟨k2, k3⟩
    · simp only [k1, ob, k2, h0, if_true]
      rfl
    · simp only [k1, ob, k2, n1, if_false, has0 k3, h0, if_true]
      rfl
  · have h1 : ¬ i < r.1 := by rw [m2]; exact h0
    rcases k2 with k2 | ⟨k2, k3⟩
    · simp only [k1, m1, ob, k2, h0, h1, if_true, if_false]
      rfl
    · simp only [k1, m1, ob, k2, n1, if_false, has0 k3, h0, h1, if_true]
      rfl
set_option maxHeartbeats 4000000 in
set_option maxRecDepth 100000 in
theorem p1_c12 (xs : Nat → Int32) : (La_c12 FUEL xs 6 (ST_X st0) (ST_Tab st0) (ST_VAL st0) (ST_Mthere st0) (ST_Mscales st0) (ST_Mreferences st0) (ST_Mwidths st0) (ST_Mlists st0) (ST_Mlengths st0) (ST_Mvalues st0) (ST_Mbits st0) 0 (ST_Prog st0) (ST_Walk st0) (ST_Fld st0) (ST_Lps st0) (ST_Mo st0) (ST_Mread st0) (ST_Mlist st0) (ST_Mnext st0) (ST_Mend st0) (ST_Mbegin st0) (ST_Mleft st0) (ST_Mturn st0) (ST_MfoundOps st0) (ST_Mops st0) (ST_Mkind st0) (ST_Mcode st0) (ST_Mwidth st0) (ST_Mscale st0) (ST_Mlink st0) (ST_Mrepeat st0) (ST_Mbase st0) (ST_MelementAt st0) (ST_MpointAt st0)).isSome = true := by
  rw [fX, fMo]
  unfold La_c12 X_find Mod_find
  simp only [og g1, og g2, og g3, og g4, ol]
  generalize xs ((0 : Int32) + 1).toNatClampNeg = a
  generalize xs ((0 : Int32) + 2).toNatClampNeg = i
  generalize xs ((0 : Int32) + 3).toNatClampNeg = c
  generalize xs ((0 : Int32) + 4).toNatClampNeg = d
  obtain ⟨q, k1, k2⟩ := wlk a
  obtain ⟨r, m1, m2⟩ := ask0 a
  have n1 : ¬ (1 : Int32) = 0 := by decide
  have h1 : r.1 ≤ 0 := by rw [m2]; decide
  have fX0 : ∀ (sX : S_X) (sVAL : Nat → Nat → Int64) (sTab : S_Tab) (x y z : Int32) (p1 : S_Prog) (p2 : S_Walk) (p3 : S_Fld) (p4 : S_Lps), Fld_count p3 = 0 → X_find_L16 FUEL sX sVAL sTab x y z p1 p2 p3 p4 (4999 + 1) 0 0 = some (-1, p1, p2, p3, p4) := by
    intro sX sVAL sTab x y z p1 p2 p3 p4 h
    rw [X_find_L16, if_pos (by rw [h]; decide)]
  rcases k2 with k2 | ⟨k2, k3⟩
  · simp only [k1, m1, ob, k2, if_true]
    rw [show FUEL = 4999 + 1 from rfl, Mod_find_L18, if_pos h1]
    rfl
  · simp only [k1, m1, ob, k2, n1, if_false]
    rw [show (X_find_L16 FUEL _ _ _ i c d q.2.1 q.2.2.1 q.2.2.2.1 q.2.2.2.2 FUEL 0 0) = some (-1, q.2.1, q.2.2.1, q.2.2.2.1, q.2.2.2.2) from fX0 _ _ _ _ _ _ _ _ _ _ k3, ob]
    rw [show FUEL = 4999 + 1 from rfl, Mod_find_L18, if_pos h1]
    rfl
set_option maxHeartbeats 4000000 in
set_option maxRecDepth 100000 in
theorem p1_c13 (xs : Nat → Int32) : (La_c13 FUEL xs 6 (ST_Tab st0) (ST_Wri st0) (ST_VAL st0) (ST_Mthere st0) (ST_Mscales st0) (ST_Mreferences st0) (ST_Mwidths st0) (ST_Mlists st0) (ST_Mlengths st0) (ST_Mvalues st0) 0 (ST_X st0) (ST_Prog st0) (ST_Walk st0) (ST_Fld st0) (ST_Lps st0) (ST_WB st0) (ST_Mo st0) (ST_Mread st0) (ST_Mlist st0) (ST_Mnext st0) (ST_Mend st0) (ST_Mbegin st0) (ST_Mleft st0) (ST_Mturn st0) (ST_MfoundOps st0) (ST_Mops st0) (ST_Mkind st0) (ST_Mcode st0) (ST_Mwidth st0) (ST_Mscale st0) (ST_Mlink st0) (ST_Mrepeat st0) (ST_Mbase st0) (ST_MelementAt st0) (ST_MpointAt st0) (ST_Mbits st0) (ST_Mmade st0) (ST_MfirstKind st0) (ST_MfirstWidth st0) (ST_MfirstScale st0) (ST_MfirstBase st0) (ST_RW st0)).isSome = true := by
  unfold La_c13 La_c13_j854 La_c13_j881 La_c13_j914
  simp only [og g1, og g2]
  generalize xs ((0 : Int32) + 1).toNatClampNeg = a
  generalize xs ((0 : Int32) + 2).toNatClampNeg = b
  by_cases hb : b = 0
  · simp only [hb, if_true]
    by_cases h0 : a < 1 ∨ ¬ a ≤ 8
    · unfold Law_write X_write Mod_write
      by_cases h1 : a < 1
      · simp only [h1, if_true]
        rfl
      · have h2 : ¬ a ≤ 8 := h0.elim (fun z => absurd z h1) id
        simp only [h1, h2, if_false]
        rfl
    · have h1 : ¬ a < 1 := fun z => h0 (Or.inl z)
      have h2 : a < 9 := (lt_le rfl).mpr (Classical.not_not.mp fun z => h0 (Or.inr z))
      have h3 : ¬ a < 0 := fun z => h1 (Int32.lt_trans z (by decide))
      obtain ⟨i, hi, rfl⟩ := as_nat (n := 9) h3 h2 (by decide)
      have hi0 : ¬ i < 1 := fun z => by
        have : i = 0 := by omega
        subst this
        exact h1 (by decide)
      clear h0 h1 h2 h3
      revert i
      decide +kernel
  · simp only [hb, if_false]
    by_cases h0 : a < 1 ∨ ¬ a ≤ 8
    · unfold Law_write X_write Mod_write
      by_cases h1 : a < 1
      · simp only [h1, if_true]
        rfl
      · have h2 : ¬ a ≤ 8 := h0.elim (fun z => absurd z h1) id
        simp only [h1, h2, if_false]
        rfl
    · have h1 : ¬ a < 1 := fun z => h0 (Or.inl z)
      have h2 : a < 9 := (lt_le rfl).mpr (Classical.not_not.mp fun z => h0 (Or.inr z))
      have h3 : ¬ a < 0 := fun z => h1 (Int32.lt_trans z (by decide))
      obtain ⟨i, hi, rfl⟩ := as_nat (n := 9) h3 h2 (by decide)
      have hi0 : ¬ i < 1 := fun z => by
        have : i = 0 := by omega
        subst this
        exact h1 (by decide)
      clear h0 h1 h2 h3
      revert i
      decide +kernel

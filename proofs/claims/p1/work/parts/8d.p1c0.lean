set_option maxHeartbeats 4000000 in
set_option maxRecDepth 100000 in
theorem p1_c0 (xs : Nat → Int32) : (La_c0 FUEL xs 6 (ST_X st0) 0 (ST_Tab st0) (ST_Mo st0) (ST_Mthere st0) (ST_Mscales st0) (ST_Mreferences st0) (ST_Mwidths st0)).isSome = true := by
  rw [fX, fMo]
  unfold La_c0 Law_element X_element Mod_element Mod_thrown
  simp only [og g1, og g2, og g3, og g4, og g5]
  generalize xs ((0 : Int32) + 1).toNatClampNeg = a
  generalize xs ((0 : Int32) + 2).toNatClampNeg = b
  generalize xs ((0 : Int32) + 3).toNatClampNeg = c
  generalize xs ((0 : Int32) + 4).toNatClampNeg = d
  generalize xs ((0 : Int32) + 5).toNatClampNeg = e
  generalize ST_Tab st0 = sTab
  generalize ST_Mthere st0 = t1
  generalize ST_Mscales st0 = t2
  generalize ST_Mreferences st0 = t3
  generalize ST_Mwidths st0 = t4
  have n1 : ¬ (1 : Int32) = 0 := by decide
  by_cases hb : a < -1 ∨ 4 ≤ a ∨ b < 0 ∨ 64 ≤ b
  · obtain ⟨e1, e2⟩ := entNo hb
    simp only [e1, e2, ob, if_true, n1, if_false, Mod_element_j51, Mod_element_j52, Mod_element_j65, ol]
    rfl
  · have h1 : ¬ a < -1 := fun z => hb (Or.inl z)
    have h2 : ¬ 4 ≤ a := fun z => hb (Or.inr (Or.inl z))
    have h3 : ¬ b < 0 := fun z => hb (Or.inr (Or.inr (Or.inl z)))
    have h4 : ¬ 64 ≤ b := fun z => hb (Or.inr (Or.inr (Or.inr z)))
    obtain ⟨q, r, k1, k2, k3, k4, k5, k6, k7⟩ := ent h1 (Int32.not_le.mp h2) h3 (Int32.not_le.mp h4)
    by_cases hs : c < -8 ∨ 8 < c ∨ e < 1 ∨ 32 < e ∨ d < -1000000000 ∨ 1000000000 < d
    · have m : ∀ (z w : Option (S_Mo × (Nat → Int32) × (Nat → Int32) × (Nat → Int32) × (Nat → Int32))), (if c < -8 then z else if 8 < c then z else if d < -1000000000 then z else if 1000000000 < d then z else if e < 1 then z else if 32 < e then z else w) = z := by
        intro z w
        by_cases c1 : c < -8
        · rw [if_pos c1]
        by_cases c2 : 8 < c
        · rw [if_neg c1, if_pos c2]
        by_cases c3 : d < -1000000000
        · rw [if_neg c1, if_neg c2, if_pos c3]
        by_cases c4 : 1000000000 < d
        · rw [if_neg c1, if_neg c2, if_neg c3, if_pos c4]
        by_cases c5 : e < 1
        · rw [if_neg c1, if_neg c2, if_neg c3, if_neg c4, if_pos c5]
        by_cases c6 : 32 < e
        · rw [if_neg c1, if_neg c2, if_neg c3, if_neg c4, if_neg c5, if_pos c6]
        · rcases hs with h | h | h | h | h | h
          · exact absurd h c1
          · exact absurd h c2
          · exact absurd h c5
          · exact absurd h c6
          · exact absurd h c3
          · exact absurd h c4
      simp only [k1, k2, scN hs, entYes h1 h2 h3 h4, ob, if_true, n1, if_false, m, Mod_element_j51, Mod_element_j52, Mod_element_j65, ol]
      rfl
    · have c1 : ¬ c < -8 := fun z => hs (Or.inl z)
      have c2 : ¬ 8 < c := fun z => hs (Or.inr (Or.inl z))
      have c3 : ¬ e < 1 := fun z => hs (Or.inr (Or.inr (Or.inl z)))
      have c4 : ¬ 32 < e := fun z => hs (Or.inr (Or.inr (Or.inr (Or.inl z))))
      have c5 : ¬ d < -1000000000 := fun z => hs (Or.inr (Or.inr (Or.inr (Or.inr (Or.inl z)))))
      have c6 : ¬ 1000000000 < d := fun z => hs (Or.inr (Or.inr (Or.inr (Or.inr (Or.inr z)))))
      have e9 : Tab_isEntry c d e = some 1 := by
        unfold Tab_isEntry Tab_isScale Tab_isWidth
        simp only [c1, c2, c3, c4, c5, c6, if_false, ob, n1]
      simp only [k1, k2, k5, e9, entYes h1 h2 h3 h4, ob, if_true, n1, if_false, c1, c2, c3, c4, c5, c6, Mod_element_j52, Mod_element_j65, ol, og k3, og k6]
      rfl
set_option maxHeartbeats 4000000 in
set_option maxRecDepth 100000 in
theorem p1_c1 (xs : Nat → Int32) : (La_c1 FUEL xs 6 (ST_X st0) 0 (ST_Tab st0) (ST_Mo st0) (ST_Mthere st0)).isSome = true := by
  rw [fX, fMo]
  unfold La_c1 X_drop Mod_drop
  simp only [og g1, og g2]
  generalize xs ((0 : Int32) + 1).toNatClampNeg = a
  generalize xs ((0 : Int32) + 2).toNatClampNeg = b
  by_cases hb : a < -1 ∨ 4 ≤ a ∨ b < 0 ∨ 64 ≤ b
  · obtain ⟨e1, e2⟩ := entNo hb
    simp only [e1, e2, ob, ol, if_true]
    rfl
  · have h1 : ¬ a < -1 := fun z => hb (Or.inl z)
    have h2 : ¬ 4 ≤ a := fun z => hb (Or.inr (Or.inl z))
    have h3 : ¬ b < 0 := fun z => hb (Or.inr (Or.inr (Or.inl z)))
    have h4 : ¬ 64 ≤ b := fun z => hb (Or.inr (Or.inr (Or.inr z)))
    obtain ⟨q, r, k1, k2, k3, k4, k5, k6, k7⟩ := ent h1 (Int32.not_le.mp h2) h3 (Int32.not_le.mp h4)
    have n1 : ¬ (1 : Int32) = 0 := by decide
    have ob0 : o_bool 0 = true := by decide
    simp only [k1, k2, k5, entYes h1 h2 h3 h4, ob, ol, if_true, if_false, n1, og k3, og k6, wd_X _ k4, th_M _ k7, og ob0]
    rfl
set_option maxHeartbeats 4000000 in
set_option maxRecDepth 100000 in
theorem p1_c2 (xs : Nat → Int32) : (La_c2 FUEL xs 6 (ST_X st0) 0 (ST_Tab st0) (ST_Mo st0)).isSome = true := by
  rw [fX, fMo]
  unfold La_c2 Law_version X_version Mod_version Mod_version_j10 Mod_version_j15 Mod_thrown
  rw [og g1]
  generalize xs _ = a
  by_cases h0 : a < 0
  · simp only [h0, if_true, ob, ol, og g1]
    rfl
  · by_cases h1 : a < 4
    · have h2 : a ≤ 3 := (lt_le rfl).mp h1
      simp only [h0, h1, h2, if_true, if_false, ob, ol, og g1]
      rfl
    · have h2 : ¬ a ≤ 3 := fun h => h1 ((lt_le rfl).mpr h)
      simp only [h0, h1, h2, if_true, if_false, ob, ol, og g1]
      rfl
set_option maxHeartbeats 4000000 in
set_option maxRecDepth 100000 in
theorem p1_c3 (xs : Nat → Int32) : (La_c3 FUEL xs 6 (ST_X st0) 0 (ST_Tab st0) (ST_Mo st0) (ST_Mlists st0) (ST_Mlengths st0) (ST_RW st0)).isSome = true := by
  rw [fX, fMo]
  unfold La_c3 Law_append X_append Mod_append Mod_thrown La_c3_j362
  simp only [og g1, og g2]
  generalize xs ((0 : Int32) + 1).toNatClampNeg = a
  generalize xs ((0 : Int32) + 2).toNatClampNeg = d
  generalize ST_RW st0 = sRW
  have n1 : ¬ (1 : Int32) = 0 := by decide
  have g0 : o_in 0 1 = true := by decide
  have bad : ∀ (t : S_Mo) (l1 l2 : Nat → Int32), Mod_append_j19 a d t l1 l2 = some (0, Mo_set_thrown t 1, l1, l2) := by
    intro t l1 l2
    unfold Mod_append_j19 Mod_append_j24 Mod_append_j37
    simp only [ol]
    split <;> rfl
  by_cases h0 : a < -1
  · have e1 : Tab_listOf a = some (-1) := by
      unfold Tab_listOf
      have h1 : ¬ a = -1 := fun z => by rw [z] at h0; exact absurd h0 (by decide)
      have h2 : a < 0 := Int32.lt_trans h0 (by decide)
      simp only [h1, h2, if_true, if_false]
    simp only [e1, ob, if_true, n1, if_false, h0, bad]
    rfl
  by_cases h1 : 15 < a
  · have e1 : Tab_listOf a = some (-1) := by
      unfold Tab_listOf
      have k1 : ¬ a = -1 := fun z => by rw [z] at h1; exact absurd h1 (by decide)
      have k2 : ¬ a < 0 := fun z => absurd (Int32.lt_trans h1 z) (by decide)
      have k3 : 16 ≤ a := Int32.not_lt.mp fun z => (Int32.not_le.mpr h1) ((lt_le rfl).mp z)
      simp only [k1, k2, k3, if_true, if_false]
    simp only [e1, ob, if_true, n1, if_false, h0, h1, bad]
    rfl
  have h2 : a < 16 := (lt_le rfl).mpr (Int32.not_lt.mp h1)
  have hl : ∃ k : Nat, k < 17 ∧ Tab_listOf a = some (Int32.ofNat k) ∧ ∀ (t : S_Mo), Mo_thrown t = 0 → ∃ q, Mod_append_j37 a d (if (0 : Int32) ≤ a then a else 16) t (ST_Mlists st0) (ST_Mlengths st0) = some q ∧ q.1 = 1 ∧ Mo_thrown q.2.1 = 0 := by
    rcases as_m1 (n := 16) h0 h2 (by decide) with rfl | ⟨j, hj, rfl⟩
    · refine ⟨16, by decide, by decide, fun t ht => ?_⟩
      unfold Mod_append_j37
      obtain ⟨b1, b2, -⟩ := ap_k 16 (by decide)
      rw [if_neg (show ¬ (0 : Int32) ≤ -1 by decide), if_pos ht, show (16 : Int32) = Int32.ofNat 16 from rfl, og b1, b2, if_neg (show ¬ (0 : Int32) ≤ -1 by decide)]
      exact ap_M ln_M (by decide) d t ht 24 (by decide)
    · obtain ⟨b1, b2, b3, b4, b5⟩ := ap_k j (by omega)
      have k0 : ∀ j : Nat, j < 16 → (0 : Int32) ≤ Int32.ofNat j ∧ ¬ (Int32.ofNat j < 0) ∧ ¬ (16 ≤ Int32.ofNat j) := by decide
      obtain ⟨k1, k2, k3⟩ := k0 j hj
      refine ⟨j, by omega, ?_, fun t ht => ?_⟩
      · unfold Tab_listOf
        simp only [b5, k2, k3, if_false]
      · unfold Mod_append_j37
        rw [if_pos k1, if_pos ht, og b1, b2, if_pos k1]
        exact ap_M ln_M (by omega) d t ht 8 (by decide)
  obtain ⟨k, hk, e1, e2⟩ := hl
  obtain ⟨b1, b2, b3, b4, b5⟩ := ap_k k hk
  obtain ⟨f1, s1, f2⟩ := ap_X sz_X hk d
  rcases ds d with ⟨d1, d2⟩ | ⟨d1, d2⟩
  · simp only [e1, ob, b5, if_false, d1, d2, if_true, n1, h0, h1, bad]
    rfl
  · have e3 : ∀ t : S_Mo, Mod_append_j24 a d 0 t (ST_Mlists st0) (ST_Mlengths st0) = Mod_append_j37 a d (if (0 : Int32) ≤ a then a else 16) (Mo_set_thrown t 0) (ST_Mlists st0) (ST_Mlengths st0) := by
      intro t
      unfold Mod_append_j24
      rw [ol]
      split <;> rfl
    obtain ⟨q, m1, m2, m3⟩ := e2 (Mo_set_thrown (0, 3, 0, -1, 0, 0, 0, 0, 0, 0, 0, 0, 0, 0, 0, 0, 0, 0, 0, 0, 0, -1, 0) 0) rfl
    simp only [e1, ob, b5, if_false, d1, d2, if_true, n1, h0, h1, f1, f2, e3, m1, m2, m3, og g0, ol]
    rfl
set_option maxHeartbeats 4000000 in
set_option maxRecDepth 100000 in
theorem p1_c4 (xs : Nat → Int32) : (La_c4 FUEL xs 6 (ST_X st0) 0 (ST_Tab st0) (ST_Mo st0) (ST_Mlengths st0)).isSome = true := by
  rw [fX, fMo]
  unfold La_c4 Law_clear X_clear Tab_listOf Mod_clear Mod_clear_j12 Mod_clear_j17 Mod_thrown
  rw [og g1]
  generalize xs _ = a
  generalize ST_Tab st0 = sTab
  generalize ST_Mlengths st0 = sMlengths
  by_cases h0 : a = -1
  · subst h0
    rfl
  · by_cases h1 : a < 0
    · have h2 : a < -1 := by
        have e1 : (-1 : Int32).toInt = -1 := by decide
        have e0 : (0 : Int32).toInt = 0 := by decide
        have h3 := Int32.lt_iff_toInt_lt.mp h1
        have h4 : a.toInt ≠ (-1 : Int32).toInt := fun z => h0 (Int32.toInt_inj.mp z)
        exact Int32.lt_iff_toInt_lt.mpr (by omega)
      simp only [h0, h1, h2, if_true, if_false, ob, ol, og g1]
      rfl
    · have h2 : ¬ a < -1 := fun z => h1 (Int32.lt_trans z (by decide))
      by_cases h3 : 16 ≤ a
      · have h4 : ¬ a ≤ 15 := fun z => (Int32.not_lt.mpr h3) ((lt_le rfl).mpr z)
        simp only [h0, h1, h2, h3, h4, if_true, if_false, ob, ol, og g1]
        rfl
      · have h4 : a ≤ 15 := (lt_le rfl).mp (Int32.not_le.mp h3)
        have h5 : o_in a 17 = true := in_of h1 (Int32.lt_trans (Int32.not_le.mp h3) (by decide : (16 : Int32) < 17)) (by decide)
        have h6 : (0 : Int32) ≤ a := Int32.not_lt.mp h1
        simp only [h0, h1, h2, h3, h4, if_true, if_false, ob, ol, og g1, og h5, h6]
        rfl
set_option maxHeartbeats 4000000 in
set_option maxRecDepth 100000 in
theorem p1_c5 (xs : Nat → Int32) : (La_c5 FUEL xs 6 (ST_Tab st0) (ST_Mthere st0) (ST_Mscales st0) (ST_Mwidths st0) (ST_Mlists st0) (ST_Mlengths st0) 0 (ST_X st0) (ST_Prog st0) (ST_Mo st0) (ST_Mlist st0) (ST_Mnext st0) (ST_Mend st0) (ST_Mbegin st0) (ST_Mleft st0) (ST_Mturn st0) (ST_MfoundOps st0) (ST_Mops st0) (ST_RW st0)).isSome = true := by
  unfold La_c5 La_c5_j442
  decide +kernel
set_option maxHeartbeats 4000000 in
set_option maxRecDepth 100000 in
theorem p1_c6 (xs : Nat → Int32) : (La_c6 FUEL xs 6 (ST_X st0) 0 (ST_Mo st0)).isSome = true := by
  rw [fX, fMo]
  unfold La_c6 X_fault Mod_fault
  rw [og g1]
  generalize xs _ = a
  by_cases h0 : a = 0
  · simp only [h0, if_true, ob, ol, og g1]
    rfl
  · by_cases h1 : a = 1
    · simp only [h1, if_true, if_false, ob, ol, og g1]
      rfl
    · simp only [h0, h1, if_false, ob, ol, og g1]
      rfl

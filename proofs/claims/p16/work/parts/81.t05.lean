theorem t_X_drop {sX : S_X} {a0 : Int32} {a1 : Int32} {sTab : S_Tab} (I_sTab : I_Tab sTab) : So (X_drop sX a0 a1 sTab) (fun r => I_Tab r.2) := by
  unfold X_drop
  refine So.bd (t_Tab_entryOf ) fun q1 h_1 => ?_
  have p_2 := h_1
  refine So.ite (fun c_3 => ?_) (fun c_3 => ?_)
  · rw [i_eq] at c_3
    have k_4 : ((-1) : Int32).toInt = -1 := by decide
    exact So.one I_sTab
  · rw [i_eq] at c_3
    have k_5 : ((-1) : Int32).toInt = -1 := by decide
    refine So.gd (i_in.mpr (by omega)) ?_
    refine So.ite (fun c_6 => ?_) (fun c_6 => ?_)
    · rw [i_eq] at c_6
      have f_7 := I_Tab_widths I_sTab (q1.toNatClampNeg)
      have k_8 : (0 : Int32).toInt = 0 := by decide
      exact So.one I_sTab
    · rw [i_eq] at c_6
      have f_9 := I_Tab_widths I_sTab (q1.toNatClampNeg)
      have k_10 : (0 : Int32).toInt = 0 := by decide
      refine So.gd (i_in.mpr (by omega)) ?_
      refine So.lt2 fun sTab_4 e_11 => ?_
      have I_12 : I_Tab sTab_4 := by rw [e_11]; exact (I_Tab_put_widths I_sTab (by show 0 ≤ (0 : Int32).toInt ∧ (0 : Int32).toInt ≤ 32; omega))
      exact So.one I_12
theorem t_X_fault {sX : S_X} {a0 : Int32}  : So (X_fault sX a0) (fun r => True) := by
  unfold X_fault
  refine So.ite (fun c_1 => ?_) (fun c_1 => ?_)
  · rw [i_eq] at c_1
    have k_2 : (0 : Int32).toInt = 0 := by decide
    exact So.one trivial
  · rw [i_eq] at c_1
    have k_3 : (0 : Int32).toInt = 0 := by decide
    refine So.ite (fun c_4 => ?_) (fun c_4 => ?_)
    · rw [i_eq] at c_4
      have k_5 : (1 : Int32).toInt = 1 := by decide
      exact So.one trivial
    · rw [i_eq] at c_4
      have k_6 : (1 : Int32).toInt = 1 := by decide
      exact So.one trivial
theorem t_X_setFault {a0 : Int32} {a1 : Int32} {sX : S_X}  : So (X_setFault a0 a1 sX) (fun r => True) := by
  unfold X_setFault
  refine So.lt2 fun sX_1 e_1 => ?_
  refine So.lt2 fun sX_2 e_2 => ?_
  exact So.one trivial
theorem t_X_compileAnew {fu : Nat} {sTab : S_Tab} {sX : S_X} {sProg : S_Prog} (hf : 12000 ≤ fu) (I_sTab : I_Tab sTab) (I_sProg : I_Prog sProg) : So (X_compileAnew fu sTab sX sProg) (fun r => I_Prog r.2.2 ∧ (r.1.toInt = 0 ∨ r.1.toInt = 1)) := by
  unfold X_compileAnew
  refine So.bd (t_Prog_build hf I_sTab I_sProg) fun q1 h_1 => ?_
  have p_2 := h_1
  refine So.bd (t_X_setFault ) fun q2 h_3 => ?_
  refine So.ite (fun c_4 => ?_) (fun c_4 => ?_)
  · rw [i_eq] at c_4
    have k_5 : (0 : Int32).toInt = 0 := by decide
    have k_6 : (1 : Int32).toInt = 1 := by decide
    exact So.one ⟨p_2, (by show (1 : Int32).toInt = 0 ∨ (1 : Int32).toInt = 1; omega)⟩
  · rw [i_eq] at c_4
    have k_7 : (0 : Int32).toInt = 0 := by decide
    exact So.one ⟨p_2, (by show (0 : Int32).toInt = 0 ∨ (0 : Int32).toInt = 1; omega)⟩
theorem t_X_walkOver {fu : Nat} {sX : S_X} {sVAL : (Nat → Nat → Int64)} {sTab : S_Tab} {a0 : Int32} {sProg : S_Prog} {sWalk : S_Walk} {sFld : S_Fld} {sLps : S_Lps} (hf : 12000 ≤ fu) (I_sTab : I_Tab sTab) (I_sProg : I_Prog sProg) (I_sWalk : I_Walk sWalk) (I_sFld : I_Fld sFld) (I_sLps : I_Lps sLps) : So (X_walkOver fu sX sVAL sTab a0 sProg sWalk sFld sLps) (fun r => I_Prog r.2.1 ∧ I_Walk r.2.2.1 ∧ I_Fld r.2.2.2.1 ∧ I_Lps r.2.2.2.2) := by
  unfold X_walkOver
  refine So.bd (t_X_isSubset ) fun q1 h_1 => ?_
  have p_2 := h_1
  refine So.ite (fun c_3 => ?_) (fun c_3 => ?_)
  · rw [i_eq] at c_3
    have k_4 : (0 : Int32).toInt = 0 := by decide
    exact So.one ⟨I_sProg, I_sWalk, I_sFld, I_sLps⟩
  · rw [i_eq] at c_3
    have k_5 : (0 : Int32).toInt = 0 := by decide
    refine So.bd (t_Prog_build hf I_sTab I_sProg) fun q2 h_6 => ?_
    have p_7 := h_6
    refine So.ite (fun c_8 => ?_) (fun c_8 => ?_)
    · rw [i_eq] at c_8
      refine So.gd (i_in.mpr (by omega)) ?_
      have k_9 : (100 : Int32).toInt = 100 := by decide
      refine So.bd (t_Walk_over hf I_sTab p_7 I_sWalk I_sFld I_sLps (by show (100 : Int) = 100; omega)) fun q4 h_10 => ?_
      obtain ⟨p_11, p_12, p_13, p_14, p_15, p_16⟩ := h_10
      exact So.one ⟨p_7, p_11, p_12, p_13⟩
    · rw [i_eq] at c_8
      exact So.one ⟨p_7, I_sWalk, I_sFld, I_sLps⟩
theorem t_X_checkValues_L2 {fu : Nat} {sVAL : (Nat → Nat → Int64)} {sTab : S_Tab} {sProg : S_Prog} {x1_L2 : Int32} {sX_L2 : S_X} {ke_2 : Int32 → S_Walk → S_Fld → S_Lps → Option (Int32 × S_X × S_Walk × S_Fld × S_Lps)} {P : Int32 × S_X × S_Walk × S_Fld × S_Lps → Prop} (hf : 12000 ≤ fu) (I_sTab : I_Tab sTab) (I_sProg : I_Prog sProg) (g_0 : x1_L2.toInt ≤ 8) (hke_2 : ∀ (y0 : Int32) (y1 : S_Walk) (y2 : S_Fld) (y3 : S_Lps), I_Walk y1 → I_Fld y2 → I_Lps y3 → So (ke_2 y0 y1 y2 y3) P) (hP : ∀ r, I_Walk r.2.2.1 ∧ I_Fld r.2.2.2.1 ∧ I_Lps r.2.2.2.2 → P r) : ∀ (n : Nat) (x2_L2 : Int32) (sWalk_L2 : S_Walk) (sFld_L2 : S_Fld) (sLps_L2 : S_Lps), I_Walk sWalk_L2 → I_Fld sFld_L2 → I_Lps sLps_L2 → (0 ≤ x2_L2.toInt) → (x2_L2.toInt ≤ 8) → (8 - x2_L2.toInt < (n : Nat)) → So (X_checkValues_L2 fu sVAL sTab sProg x1_L2 sX_L2 ke_2 n x2_L2 sWalk_L2 sFld_L2 sLps_L2) P
  | 0, x2_L2, sWalk_L2, sFld_L2, sLps_L2, I_sWalk_L2, I_sFld_L2, I_sLps_L2, l_0, l_1, l_2 => absurd l_2 (by omega)
  | n + 1, x2_L2, sWalk_L2, sFld_L2, sLps_L2, I_sWalk_L2, I_sFld_L2, I_sLps_L2, l_0, l_1, l_2 => by
    rw [X_checkValues_L2]
    refine So.ite (fun c_1 => ?_) (fun c_1 => ?_)
    · rw [i_le] at c_1
      exact So.one (hP _ ⟨I_sWalk_L2, I_sFld_L2, I_sLps_L2⟩)
    · rw [i_le] at c_1
      refine So.gd (i_in.mpr (by omega)) ?_
      have k_2 : (100 : Int32).toInt = 100 := by decide
      refine So.bd (t_Walk_overChecked hf I_sTab I_sProg I_sWalk_L2 I_sFld_L2 I_sLps_L2 (by show (100 : Int) = 100; omega)) fun q2 h_3 => ?_
      obtain ⟨p_4, p_5, p_6, p_7, p_8, p_9⟩ := h_3
      refine So.ite (fun c_10 => ?_) (fun c_10 => ?_)
      · rw [i_eq] at c_10
        have k_11 : (0 : Int32).toInt = 0 := by decide
        have k_12 : (1 : Int32).toInt = 1 := by decide
        first | have f_13 := i_add (a := x2_L2) (b := 1) (by omega) (by omega) | have f_13 := i_addm x2_L2 1
        exact t_X_checkValues_L2 hf I_sTab I_sProg (by show x1_L2.toInt ≤ 8; omega) hke_2 hP n _ _ _ _ p_4 p_5 p_6 (by show 0 ≤ (x2_L2 + 1).toInt; omega) (by show (x2_L2 + 1).toInt ≤ 8; omega) (by show 8 - (x2_L2 + 1).toInt < (n : Nat); omega)
      · rw [i_eq] at c_10
        have k_14 : (0 : Int32).toInt = 0 := by decide
        exact hke_2 _ _ _ _ p_4 p_5 p_6
theorem t_X_checkValues {fu : Nat} {sVAL : (Nat → Nat → Int64)} {sTab : S_Tab} {sProg : S_Prog} {a0 : Int32} {sX : S_X} {sWalk : S_Walk} {sFld : S_Fld} {sLps : S_Lps} (hf : 12000 ≤ fu) (I_sTab : I_Tab sTab) (I_sProg : I_Prog sProg) (I_sWalk : I_Walk sWalk) (I_sFld : I_Fld sFld) (I_sLps : I_Lps sLps) (g_0 : a0.toInt ≤ 8) : So (X_checkValues fu sVAL sTab sProg a0 sX sWalk sFld sLps) (fun r => I_Walk r.2.2.1 ∧ I_Fld r.2.2.2.1 ∧ I_Lps r.2.2.2.2) := by
  unfold X_checkValues
  have k_1 : (0 : Int32).toInt = 0 := by decide
  refine t_X_checkValues_L2 hf I_sTab I_sProg (by show a0.toInt ≤ 8; omega) ?_ ?_ fu _ _ _ _ I_sWalk I_sFld I_sLps (by show 0 ≤ (0 : Int32).toInt; omega) (by show (0 : Int32).toInt ≤ 8; omega) (by show 8 - (0 : Int32).toInt < (fu : Nat); omega)
  · intro y2 zWalk zFld zLps I_2 I_3 I_4
    unfold X_checkValues_j30
    refine So.bd (t_X_placeOf ) fun q5 h_5 => ?_
    refine So.bd (t_X_setFault ) fun q6 h_6 => ?_
    exact So.one ⟨I_2, I_3, I_4⟩
  · intro q_z h_z
    obtain ⟨p_7, p_8, p_9⟩ := h_z
    exact ⟨p_7, p_8, p_9⟩
theorem t_X_openTape {fu : Nat} {sTP : S_Bits} {sX : S_X} {sRea : S_Rea} {sRR : (Nat → Nat → Int64)} (hf : 12000 ≤ fu) (I_sTP : I_Bits sTP) (g_0 : (Bits_length sTP).toInt ≤ 8000) : So (X_openTape fu sTP sX sRea sRR) (fun r => (r.1.toInt = 0 ∨ (1 ≤ (Rea_subsets r.2.2.1).toInt ∧ (Rea_subsets r.2.2.1).toInt ≤ 8 ∧ -20 ≤ (Rea_end r.2.2.1).toInt ∧ (Rea_end r.2.2.1).toInt ≤ 8000 ∧ (Rea_at r.2.2.1).toInt = 32))) := by
  unfold X_openTape
  have f_1 := I_Bits_length I_sTP
  refine So.bd (t_Rea_open hf I_sTP (by show (Bits_length sTP).toInt ≤ 8000; omega)) fun q1 h_2 => ?_
  have p_3 := h_2
  refine So.ite (fun c_4 => ?_) (fun c_4 => ?_)
  · rw [i_eq] at c_4
    have k_5 : (0 : Int32).toInt = 0 := by decide
    refine So.bd (t_X_setFault ) fun q2 h_6 => ?_
    exact So.one (by show (0 : Int32).toInt = 0 ∨ (1 ≤ (Rea_subsets q1.2.1).toInt ∧ (Rea_subsets q1.2.1).toInt ≤ 8 ∧ -20 ≤ (Rea_end q1.2.1).toInt ∧ (Rea_end q1.2.1).toInt ≤ 8000 ∧ (Rea_at q1.2.1).toInt = 32); omega)
  · rw [i_eq] at c_4
    have k_7 : (0 : Int32).toInt = 0 := by decide
    have k_8 : (1 : Int32).toInt = 1 := by decide
    exact So.one (by show (1 : Int32).toInt = 0 ∨ (1 ≤ (Rea_subsets q1.2.1).toInt ∧ (Rea_subsets q1.2.1).toInt ≤ 8 ∧ -20 ≤ (Rea_end q1.2.1).toInt ∧ (Rea_end q1.2.1).toInt ≤ 8000 ∧ (Rea_at q1.2.1).toInt = 32); omega)
theorem t_X_field {fu : Nat} {sX : S_X} {sVAL : (Nat → Nat → Int64)} {sTab : S_Tab} {a0 : Int32} {a1 : Int32} {a2 : Int32} {sProg : S_Prog} {sWalk : S_Walk} {sFld : S_Fld} {sLps : S_Lps} (hf : 12000 ≤ fu) (I_sTab : I_Tab sTab) (I_sProg : I_Prog sProg) (I_sWalk : I_Walk sWalk) (I_sFld : I_Fld sFld) (I_sLps : I_Lps sLps) : So (X_field fu sX sVAL sTab a0 a1 a2 sProg sWalk sFld sLps) (fun r => I_Prog r.2.1 ∧ I_Walk r.2.2.1 ∧ I_Fld r.2.2.2.1 ∧ I_Lps r.2.2.2.2) := by
  unfold X_field
  refine So.bd (t_X_walkOver hf I_sTab I_sProg I_sWalk I_sFld I_sLps) fun q1 h_1 => ?_
  obtain ⟨p_2, p_3, p_4, p_5⟩ := h_1
  refine So.ite (fun c_6 => ?_) (fun c_6 => ?_)
  · rw [i_eq] at c_6
    have k_7 : (0 : Int32).toInt = 0 := by decide
    exact So.one ⟨p_2, p_3, p_4, p_5⟩
  · rw [i_eq] at c_6
    have k_8 : (0 : Int32).toInt = 0 := by decide
    have f_9 := I_Fld_count p_4
    refine So.bd (t_Fld_has p_4) fun q2 h_10 => ?_
    have p_11 := h_10
    refine So.ite (fun c_12 => ?_) (fun c_12 => ?_)
    · rw [i_eq] at c_12
      exact So.one ⟨p_2, p_3, p_4, p_5⟩
    · rw [i_eq] at c_12
      refine So.ite (fun c_13 => ?_) (fun c_13 => ?_)
      · rw [i_eq] at c_13
        refine So.gd (i_in.mpr (by omega)) ?_
        exact So.one ⟨p_2, p_3, p_4, p_5⟩
      · rw [i_eq] at c_13
        refine So.ite (fun c_14 => ?_) (fun c_14 => ?_)
        · rw [i_eq] at c_14
          have k_15 : (1 : Int32).toInt = 1 := by decide
          refine So.gd (i_in.mpr (by omega)) ?_
          exact So.one ⟨p_2, p_3, p_4, p_5⟩
        · rw [i_eq] at c_14
          have k_16 : (1 : Int32).toInt = 1 := by decide
          refine So.ite (fun c_17 => ?_) (fun c_17 => ?_)
          · rw [i_eq] at c_17
            have k_18 : (2 : Int32).toInt = 2 := by decide
            refine So.gd (i_in.mpr (by omega)) ?_
            exact So.one ⟨p_2, p_3, p_4, p_5⟩
          · rw [i_eq] at c_17
            have k_19 : (2 : Int32).toInt = 2 := by decide
            refine So.ite (fun c_20 => ?_) (fun c_20 => ?_)
            · rw [i_eq] at c_20
              have k_21 : (3 : Int32).toInt = 3 := by decide
              refine So.gd (i_in.mpr (by omega)) ?_
              exact So.one ⟨p_2, p_3, p_4, p_5⟩
            · rw [i_eq] at c_20
              have k_22 : (3 : Int32).toInt = 3 := by decide
              refine So.ite (fun c_23 => ?_) (fun c_23 => ?_)
              · rw [i_eq] at c_23
                have k_24 : (4 : Int32).toInt = 4 := by decide
                refine So.gd (i_in.mpr (by omega)) ?_
                exact So.one ⟨p_2, p_3, p_4, p_5⟩
              · rw [i_eq] at c_23
                have k_25 : (4 : Int32).toInt = 4 := by decide
                refine So.ite (fun c_26 => ?_) (fun c_26 => ?_)
                · rw [i_eq] at c_26
                  have k_27 : (5 : Int32).toInt = 5 := by decide
                  refine So.gd (i_in.mpr (by omega)) ?_
                  exact So.one ⟨p_2, p_3, p_4, p_5⟩
                · rw [i_eq] at c_26
                  have k_28 : (5 : Int32).toInt = 5 := by decide
                  exact So.one ⟨p_2, p_3, p_4, p_5⟩
theorem t_X_reference {fu : Nat} {sX : S_X} {sVAL : (Nat → Nat → Int64)} {sTab : S_Tab} {a0 : Int32} {a1 : Int32} {sProg : S_Prog} {sWalk : S_Walk} {sFld : S_Fld} {sLps : S_Lps} (hf : 12000 ≤ fu) (I_sTab : I_Tab sTab) (I_sProg : I_Prog sProg) (I_sWalk : I_Walk sWalk) (I_sFld : I_Fld sFld) (I_sLps : I_Lps sLps) : So (X_reference fu sX sVAL sTab a0 a1 sProg sWalk sFld sLps) (fun r => I_Prog r.2.1 ∧ I_Walk r.2.2.1 ∧ I_Fld r.2.2.2.1 ∧ I_Lps r.2.2.2.2) := by
  unfold X_reference
  refine So.bd (t_X_walkOver hf I_sTab I_sProg I_sWalk I_sFld I_sLps) fun q1 h_1 => ?_
  obtain ⟨p_2, p_3, p_4, p_5⟩ := h_1
  refine So.ite (fun c_6 => ?_) (fun c_6 => ?_)
  · rw [i_eq] at c_6
    have k_7 : (0 : Int32).toInt = 0 := by decide
    exact So.one ⟨p_2, p_3, p_4, p_5⟩
  · rw [i_eq] at c_6
    have k_8 : (0 : Int32).toInt = 0 := by decide
    have f_9 := I_Fld_count p_4
    refine So.bd (t_Fld_has p_4) fun q2 h_10 => ?_
    have p_11 := h_10
    refine So.ite (fun c_12 => ?_) (fun c_12 => ?_)
    · rw [i_eq] at c_12
      exact So.one ⟨p_2, p_3, p_4, p_5⟩
    · rw [i_eq] at c_12
      refine So.gd (i_in.mpr (by omega)) ?_
      exact So.one ⟨p_2, p_3, p_4, p_5⟩
theorem t_X_find_L16 {fu : Nat} {sX : S_X} {sVAL : (Nat → Nat → Int64)} {sTab : S_Tab} {x2_L16 : Int32} {x3_L16 : Int32} {x4_L16 : Int32} {sProg_L16 : S_Prog} {sWalk_L16 : S_Walk} {sFld_L16 : S_Fld} {sLps_L16 : S_Lps} (hf : 12000 ≤ fu) (I_sTab : I_Tab sTab) (I_sProg_L16 : I_Prog sProg_L16) (I_sWalk_L16 : I_Walk sWalk_L16) (I_sFld_L16 : I_Fld sFld_L16) (I_sLps_L16 : I_Lps sLps_L16) : ∀ (n : Nat) (x5_L16 : Int32) (x6_L16 : Int32), (0 ≤ x6_L16.toInt) → (x6_L16.toInt ≤ 100) → (100 - x6_L16.toInt < (n : Nat)) → So (X_find_L16 fu sX sVAL sTab x2_L16 x3_L16 x4_L16 sProg_L16 sWalk_L16 sFld_L16 sLps_L16 n x5_L16 x6_L16) (fun r => I_Prog r.2.1 ∧ I_Walk r.2.2.1 ∧ I_Fld r.2.2.2.1 ∧ I_Lps r.2.2.2.2)
  | 0, x5_L16, x6_L16, l_0, l_1, l_2 => absurd l_2 (by omega)
  | n + 1, x5_L16, x6_L16, l_0, l_1, l_2 => by
    rw [X_find_L16]
    have f_1 := I_Fld_count I_sFld_L16
    refine So.ite (fun c_2 => ?_) (fun c_2 => ?_)
    · rw [i_le] at c_2
      have f_3 := I_Fld_count I_sFld_L16
      exact So.one ⟨I_sProg_L16, I_sWalk_L16, I_sFld_L16, I_sLps_L16⟩
    · rw [i_le] at c_2
      have f_4 := I_Fld_count I_sFld_L16
      refine So.bd (t_Fld_isElementOf I_sFld_L16 (by show 0 ≤ x6_L16.toInt; omega) (by show x6_L16.toInt < 100; omega)) fun q2 h_5 => ?_
      refine So.ite (fun c_6 => ?_) (fun c_6 => ?_)
      · rw [i_eq] at c_6
        have k_7 : (0 : Int32).toInt = 0 := by decide
        unfold X_find_j61
        have k_8 : (1 : Int32).toInt = 1 := by decide
        first | have f_9 := i_add (a := x6_L16) (b := 1) (by omega) (by omega) | have f_9 := i_addm x6_L16 1
        exact t_X_find_L16 hf I_sTab I_sProg_L16 I_sWalk_L16 I_sFld_L16 I_sLps_L16   n _ _ (by show 0 ≤ (x6_L16 + 1).toInt; omega) (by show (x6_L16 + 1).toInt ≤ 100; omega) (by show 100 - (x6_L16 + 1).toInt < (n : Nat); omega)
      · rw [i_eq] at c_6
        have k_10 : (0 : Int32).toInt = 0 := by decide
        refine So.ite (fun c_11 => ?_) (fun c_11 => ?_)
        · rw [i_eq] at c_11
          exact So.one ⟨I_sProg_L16, I_sWalk_L16, I_sFld_L16, I_sLps_L16⟩
        · rw [i_eq] at c_11
          unfold X_find_j61
          have k_12 : (1 : Int32).toInt = 1 := by decide
          first | have f_13 := i_add (a := x6_L16) (b := 1) (by omega) (by omega) | have f_13 := i_addm x6_L16 1
          exact t_X_find_L16 hf I_sTab I_sProg_L16 I_sWalk_L16 I_sFld_L16 I_sLps_L16   n _ _ (by show 0 ≤ (x6_L16 + 1).toInt; omega) (by show (x6_L16 + 1).toInt ≤ 100; omega) (by show 100 - (x6_L16 + 1).toInt < (n : Nat); omega)
theorem t_X_find {fu : Nat} {sX : S_X} {sVAL : (Nat → Nat → Int64)} {sTab : S_Tab} {a0 : Int32} {a1 : Int32} {a2 : Int32} {a3 : Int32} {sProg : S_Prog} {sWalk : S_Walk} {sFld : S_Fld} {sLps : S_Lps} (hf : 12000 ≤ fu) (I_sTab : I_Tab sTab) (I_sProg : I_Prog sProg) (I_sWalk : I_Walk sWalk) (I_sFld : I_Fld sFld) (I_sLps : I_Lps sLps) : So (X_find fu sX sVAL sTab a0 a1 a2 a3 sProg sWalk sFld sLps) (fun r => I_Prog r.2.1 ∧ I_Walk r.2.2.1 ∧ I_Fld r.2.2.2.1 ∧ I_Lps r.2.2.2.2) := by
  unfold X_find
  refine So.bd (t_X_walkOver hf I_sTab I_sProg I_sWalk I_sFld I_sLps) fun q1 h_1 => ?_
  obtain ⟨p_2, p_3, p_4, p_5⟩ := h_1
  refine So.ite (fun c_6 => ?_) (fun c_6 => ?_)
  · rw [i_eq] at c_6
    have k_7 : (0 : Int32).toInt = 0 := by decide
    exact So.one ⟨p_2, p_3, p_4, p_5⟩
  · rw [i_eq] at c_6
    have k_8 : (0 : Int32).toInt = 0 := by decide
    refine So.imp (t_X_find_L16 hf I_sTab p_2 p_3 p_4 p_5 fu _ _ (by show 0 ≤ (0 : Int32).toInt; omega) (by show (0 : Int32).toInt ≤ 100; omega) (by show 100 - (0 : Int32).toInt < (fu : Nat); omega)) fun q_z h_z => ?_
    obtain ⟨p_9, p_10, p_11, p_12⟩ := h_z
    exact ⟨p_9, p_10, p_11, p_12⟩
theorem t_X_byteAt {sX : S_X} {sWri : S_Wri} {sWB : S_Bits} {a0 : Int32} (I_sWB : I_Bits sWB) : So (X_byteAt sX sWri sWB a0) (fun r => True) := by
  unfold X_byteAt
  have f_1 := I_Bits_length I_sWB
  refine So.ite (fun c_2 => ?_) (fun c_2 => ?_)
  · rw [i_lt] at c_2
    have k_3 : (0 : Int32).toInt = 0 := by decide
    exact So.one trivial
  · rw [i_lt] at c_2
    have k_4 : (0 : Int32).toInt = 0 := by decide
    have k_5 : (3679 : Int32).toInt = 3679 := by decide
    have f_6 := I_Bits_length I_sWB
    refine So.bd (t_Bits_byteCount I_sWB (by show (3679 : Int) ≤ 3679; omega) (by show (Bits_length sWB).toInt ≤ 8 * (3679 : Int); omega)) fun q1 h_7 => ?_
    obtain ⟨p_8, p_9, p_10⟩ := h_7
    refine So.ite (fun c_11 => ?_) (fun c_11 => ?_)
    · rw [i_le] at c_11
      exact So.one trivial
    · rw [i_le] at c_11
      refine So.gd (i_in.mpr (by omega)) ?_
      exact So.one trivial
theorem t_X_feed {fu : Nat} {sX : S_X} {a0 : Int32} {a1 : Int32} {sTP : S_Bits} (hf : 12000 ≤ fu) (I_sTP : I_Bits sTP) (g_0 : (Bits_length sTP).toInt ≤ 8000) : So (X_feed fu sX a0 a1 sTP) (fun r => I_Bits r.2 ∧ ((Bits_length r.2).toInt ≤ 8000)) := by
  unfold X_feed
  refine So.ite (fun c_1 => ?_) (fun c_1 => ?_)
  · rw [i_lt] at c_1
    have k_2 : (1 : Int32).toInt = 1 := by decide
    exact So.one ⟨I_sTP, (by show (Bits_length sTP).toInt ≤ 8000; omega)⟩
  · rw [i_lt] at c_1
    have k_3 : (1 : Int32).toInt = 1 := by decide
    refine So.ite (fun c_4 => ?_) (fun c_4 => ?_)
    · rw [i_lt] at c_4
      have k_5 : (4 : Int32).toInt = 4 := by decide
      exact So.one ⟨I_sTP, (by show (Bits_length sTP).toInt ≤ 8000; omega)⟩
    · rw [i_lt] at c_4
      have k_6 : (4 : Int32).toInt = 4 := by decide
      have k_7 : (1000 : Int32).toInt = 1000 := by decide
      have f_8 := I_Bits_length I_sTP
      refine So.bd (t_Bits_byteCount I_sTP (by show (1000 : Int) ≤ 3679; omega) (by show (Bits_length sTP).toInt ≤ 8 * (1000 : Int); omega)) fun q1 h_9 => ?_
      obtain ⟨p_10, p_11, p_12⟩ := h_9
      refine So.ite (fun c_13 => ?_) (fun c_13 => ?_)
      · rw [i_le] at c_13
        first | have f_14 := i_add (a := q1) (b := a1) (by omega) (by omega) | have f_14 := i_addm q1 a1
        have k_15 : (8 : Int32).toInt = 8 := by decide
        first | have f_16 := i_mull 8 a1 (8) (by decide) (by omega) (by omega) | have f_16 := i_mullm 8 a1 (8) (by decide)
        refine So.bd (t_Bits_add hf I_sTP (by show (1000 : Int) ≤ 3679; omega) (by show (Bits_length sTP).toInt ≤ 8 * (1000 : Int); omega) (by show -100 ≤ (8 * a1).toInt; omega) (by show (8 * a1).toInt ≤ 120; omega)) fun q2 h_17 => ?_
        obtain ⟨p_18, p_19⟩ := h_17
        have f_20 := I_Bits_length p_18
        refine So.bd (t_Bits_byteCount p_18 (by show (1000 : Int) ≤ 3679; omega) (by show (Bits_length q2).toInt ≤ 8 * (1000 : Int); omega)) fun q3 h_21 => ?_
        obtain ⟨p_22, p_23, p_24⟩ := h_21
        exact So.one ⟨p_18, (by show (Bits_length q2).toInt ≤ 8000; omega)⟩
      · rw [i_le] at c_13
        first | have f_25 := i_add (a := q1) (b := a1) (by omega) (by omega) | have f_25 := i_addm q1 a1
        exact So.one ⟨I_sTP, (by show (Bits_length sTP).toInt ≤ 8000; omega)⟩
theorem t_X_packedAt {sX : S_X} {sGrd : S_Grd} {a0 : Int32} (I_sGrd : I_Grd sGrd) : So (X_packedAt sX sGrd a0) (fun r => True) := by
  unfold X_packedAt
  refine So.ite (fun c_1 => ?_) (fun c_1 => ?_)
  · rw [i_lt] at c_1
    have k_2 : (0 : Int32).toInt = 0 := by decide
    exact So.one trivial
  · rw [i_lt] at c_1
    have k_3 : (0 : Int32).toInt = 0 := by decide
    refine So.ite (fun c_4 => ?_) (fun c_4 => ?_)
    · rw [i_le] at c_4
      have k_5 : (64 : Int32).toInt = 64 := by decide
      exact So.one trivial
    · rw [i_le] at c_4
      have k_6 : (64 : Int32).toInt = 64 := by decide
      refine So.gd (i_in.mpr (by omega)) ?_
      exact So.one trivial
theorem t_X_group {sX : S_X} {sGrd : S_Grd} {a0 : Int32} (I_sGrd : I_Grd sGrd) : So (X_group sX sGrd a0) (fun r => True) := by
  unfold X_group
  have f_1 := I_Grd_groupCount I_sGrd
  refine So.ite (fun c_2 => ?_) (fun c_2 => ?_)
  · rw [i_eq] at c_2
    have k_3 : ((-1) : Int32).toInt = -1 := by decide
    exact So.one trivial
  · rw [i_eq] at c_2
    have k_4 : ((-1) : Int32).toInt = -1 := by decide
    refine So.ite (fun c_5 => ?_) (fun c_5 => ?_)
    · rw [i_eq] at c_5
      have k_6 : ((-2) : Int32).toInt = -2 := by decide
      exact So.one trivial
    · rw [i_eq] at c_5
      have k_7 : ((-2) : Int32).toInt = -2 := by decide
      refine So.ite (fun c_8 => ?_) (fun c_8 => ?_)
      · rw [i_lt] at c_8
        have k_9 : (0 : Int32).toInt = 0 := by decide
        exact So.one trivial
      · rw [i_lt] at c_8
        have k_10 : (0 : Int32).toInt = 0 := by decide
        refine So.ite (fun c_11 => ?_) (fun c_11 => ?_)
        · rw [i_le] at c_11
          have f_12 := I_Grd_groupCount I_sGrd
          exact So.one trivial
        · rw [i_le] at c_11
          have f_13 := I_Grd_groupCount I_sGrd
          refine So.gd (i_in.mpr (by omega)) ?_
          exact So.one trivial
theorem t_X_checkAlike_L15 {fu : Nat} {sVAL : (Nat → Nat → Int64)} {sTab : S_Tab} {sProg : S_Prog} {x1_L15 : Int32} {sX_L15 : S_X} {sWalk_L15 : S_Walk} {sFld_L15 : S_Fld} {sLps_L15 : S_Lps} {ke_15 : Int32 → Int32 → Option (Int32 × S_X × S_Walk × S_Fld × S_Lps)} {P : Int32 × S_X × S_Walk × S_Fld × S_Lps → Prop} (hf : 12000 ≤ fu) (I_sTab : I_Tab sTab) (I_sProg : I_Prog sProg) (I_sWalk_L15 : I_Walk sWalk_L15) (I_sFld_L15 : I_Fld sFld_L15) (I_sLps_L15 : I_Lps sLps_L15) (g_0 : x1_L15.toInt ≤ 8) (hke_15 : ∀ (y0 : Int32) (y1 : Int32), So (ke_15 y0 y1) P) (hP : ∀ r, I_Walk r.2.2.1 ∧ I_Fld r.2.2.2.1 ∧ I_Lps r.2.2.2.2 → P r) : ∀ (n : Nat) (x2_L15 : Int32), (1 ≤ x2_L15.toInt) → (x2_L15.toInt ≤ 8) → (8 - x2_L15.toInt < (n : Nat)) → So (X_checkAlike_L15 fu sVAL sTab sProg x1_L15 sX_L15 sWalk_L15 sFld_L15 sLps_L15 ke_15 n x2_L15) P
  | 0, x2_L15, l_0, l_1, l_2 => absurd l_2 (by omega)
  | n + 1, x2_L15, l_0, l_1, l_2 => by
    rw [X_checkAlike_L15]
    refine So.ite (fun c_1 => ?_) (fun c_1 => ?_)
    · rw [i_le] at c_1
      exact So.one (hP _ ⟨I_sWalk_L15, I_sFld_L15, I_sLps_L15⟩)
    · rw [i_le] at c_1
      have k_2 : (0 : Int32).toInt = 0 := by decide
      refine So.gd (i_in.mpr (by omega)) ?_
      refine So.gd (i_in.mpr (by omega)) ?_
      refine So.gd (decide_eq_true (by have hz := i_natm x2_L15 (by omega); omega)) ?_
      have k_3 : (100 : Int32).toInt = 100 := by decide
      refine So.bd (t_Fld_firstOther hf I_sFld_L15 (by show (100 : Int) = 100; omega) (by show (100 : Int) = 100; omega)) fun q5 h_4 => ?_
      refine So.ite (fun c_5 => ?_) (fun c_5 => ?_)
      · rw [i_eq] at c_5
        have k_6 : ((-1) : Int32).toInt = -1 := by decide
        have k_7 : (1 : Int32).toInt = 1 := by decide
        first | have f_8 := i_add (a := x2_L15) (b := 1) (by omega) (by omega) | have f_8 := i_addm x2_L15 1
        exact t_X_checkAlike_L15 hf I_sTab I_sProg I_sWalk_L15 I_sFld_L15 I_sLps_L15 (by show x1_L15.toInt ≤ 8; omega) hke_15 hP n _ (by show 1 ≤ (x2_L15 + 1).toInt; omega) (by show (x2_L15 + 1).toInt ≤ 8; omega) (by show 8 - (x2_L15 + 1).toInt < (n : Nat); omega)
      · rw [i_eq] at c_5
        have k_9 : ((-1) : Int32).toInt = -1 := by decide
        exact hke_15 _ _ 
theorem t_X_checkAlike {fu : Nat} {sVAL : (Nat → Nat → Int64)} {sTab : S_Tab} {sProg : S_Prog} {a0 : Int32} {sX : S_X} {sWalk : S_Walk} {sFld : S_Fld} {sLps : S_Lps} (hf : 12000 ≤ fu) (I_sTab : I_Tab sTab) (I_sProg : I_Prog sProg) (I_sWalk : I_Walk sWalk) (I_sFld : I_Fld sFld) (I_sLps : I_Lps sLps) (g_0 : a0.toInt ≤ 8) : So (X_checkAlike fu sVAL sTab sProg a0 sX sWalk sFld sLps) (fun r => I_Walk r.2.2.1 ∧ I_Fld r.2.2.2.1 ∧ I_Lps r.2.2.2.2) := by
  unfold X_checkAlike
  have k_1 : (0 : Int32).toInt = 0 := by decide
  refine So.gd (i_in.mpr (by omega)) ?_
  have k_2 : (100 : Int32).toInt = 100 := by decide
  refine So.bd (t_Walk_over hf I_sTab I_sProg I_sWalk I_sFld I_sLps (by show (100 : Int) = 100; omega)) fun q2 h_3 => ?_
  obtain ⟨p_4, p_5, p_6, p_7, p_8, p_9⟩ := h_3
  have k_10 : (1 : Int32).toInt = 1 := by decide
  refine t_X_checkAlike_L15 hf I_sTab I_sProg p_4 p_5 p_6 (by show a0.toInt ≤ 8; omega) ?_ ?_ fu _ (by show 1 ≤ (1 : Int32).toInt; omega) (by show (1 : Int32).toInt ≤ 8; omega) (by show 8 - (1 : Int32).toInt < (fu : Nat); omega)
  · intro y2 y3
    unfold X_checkAlike_j48
    refine So.bd (t_X_placeOf ) fun q8 h_11 => ?_
    refine So.bd (t_X_setFault ) fun q9 h_12 => ?_
    exact So.one ⟨p_4, p_5, p_6⟩
  · intro q_z h_z
    obtain ⟨p_13, p_14, p_15⟩ := h_z
    exact ⟨p_13, p_14, p_15⟩
theorem t_X_element {sX : S_X} {a0 : Int32} {a1 : Int32} {a2 : Int32} {a3 : Int32} {a4 : Int32} {sTab : S_Tab} (I_sTab : I_Tab sTab) : So (X_element sX a0 a1 a2 a3 a4 sTab) (fun r => I_Tab r.2 ∧ ((r.1.toInt = 0 ∧ (-1 ≤ a0.toInt ∧ a0.toInt < 4 ∧ 0 ≤ a1.toInt ∧ a1.toInt < 64 ∧ -8 ≤ a2.toInt ∧ a2.toInt ≤ 8 ∧ -1000000000 ≤ a3.toInt ∧ a3.toInt ≤ 1000000000 ∧ 1 ≤ a4.toInt ∧ a4.toInt ≤ 32)) ∨ (r.1.toInt = 1 ∧ ¬ (-1 ≤ a0.toInt ∧ a0.toInt < 4 ∧ 0 ≤ a1.toInt ∧ a1.toInt < 64 ∧ -8 ≤ a2.toInt ∧ a2.toInt ≤ 8 ∧ -1000000000 ≤ a3.toInt ∧ a3.toInt ≤ 1000000000 ∧ 1 ≤ a4.toInt ∧ a4.toInt ≤ 32)))) := by
  unfold X_element
  refine So.bd (t_Tab_entryOf ) fun q1 h_1 => ?_
  have p_2 := h_1
  refine So.ite (fun c_3 => ?_) (fun c_3 => ?_)
  · rw [i_eq] at c_3
    have k_4 : ((-1) : Int32).toInt = -1 := by decide
    have k_5 : (1 : Int32).toInt = 1 := by decide
    exact So.one ⟨I_sTab, (by show ((1 : Int32).toInt = 0 ∧ (-1 ≤ a0.toInt ∧ a0.toInt < 4 ∧ 0 ≤ a1.toInt ∧ a1.toInt < 64 ∧ -8 ≤ a2.toInt ∧ a2.toInt ≤ 8 ∧ -1000000000 ≤ a3.toInt ∧ a3.toInt ≤ 1000000000 ∧ 1 ≤ a4.toInt ∧ a4.toInt ≤ 32)) ∨ ((1 : Int32).toInt = 1 ∧ ¬ (-1 ≤ a0.toInt ∧ a0.toInt < 4 ∧ 0 ≤ a1.toInt ∧ a1.toInt < 64 ∧ -8 ≤ a2.toInt ∧ a2.toInt ≤ 8 ∧ -1000000000 ≤ a3.toInt ∧ a3.toInt ≤ 1000000000 ∧ 1 ≤ a4.toInt ∧ a4.toInt ≤ 32)); omega)⟩
  · rw [i_eq] at c_3
    have k_6 : ((-1) : Int32).toInt = -1 := by decide
    refine So.bd (t_Tab_isEntry ) fun q2 h_7 => ?_
    have p_8 := h_7
    refine So.ite (fun c_9 => ?_) (fun c_9 => ?_)
    · rw [i_eq] at c_9
      have k_10 : (0 : Int32).toInt = 0 := by decide
      have k_11 : (1 : Int32).toInt = 1 := by decide
      exact So.one ⟨I_sTab, (by show ((1 : Int32).toInt = 0 ∧ (-1 ≤ a0.toInt ∧ a0.toInt < 4 ∧ 0 ≤ a1.toInt ∧ a1.toInt < 64 ∧ -8 ≤ a2.toInt ∧ a2.toInt ≤ 8 ∧ -1000000000 ≤ a3.toInt ∧ a3.toInt ≤ 1000000000 ∧ 1 ≤ a4.toInt ∧ a4.toInt ≤ 32)) ∨ ((1 : Int32).toInt = 1 ∧ ¬ (-1 ≤ a0.toInt ∧ a0.toInt < 4 ∧ 0 ≤ a1.toInt ∧ a1.toInt < 64 ∧ -8 ≤ a2.toInt ∧ a2.toInt ≤ 8 ∧ -1000000000 ≤ a3.toInt ∧ a3.toInt ≤ 1000000000 ∧ 1 ≤ a4.toInt ∧ a4.toInt ≤ 32)); omega)⟩
    · rw [i_eq] at c_9
      have k_12 : (0 : Int32).toInt = 0 := by decide
      refine So.gd (i_in.mpr (by omega)) ?_
      refine So.lt2 fun sTab_4 e_13 => ?_
      have I_14 : I_Tab sTab_4 := by rw [e_13]; exact (I_Tab_put_scales I_sTab)
      refine So.gd (i_in.mpr (by omega)) ?_
      refine So.lt2 fun sTab_6 e_15 => ?_
      have I_16 : I_Tab sTab_6 := by rw [e_15]; exact (I_Tab_put_references I_14)
      refine So.gd (i_in.mpr (by omega)) ?_
      refine So.lt2 fun sTab_8 e_17 => ?_
      have I_18 : I_Tab sTab_8 := by rw [e_17]; exact (I_Tab_put_widths I_16 (by show 0 ≤ (a4 : Int32).toInt ∧ (a4 : Int32).toInt ≤ 32; omega))
      exact So.one ⟨I_18, (by show ((0 : Int32).toInt = 0 ∧ (-1 ≤ a0.toInt ∧ a0.toInt < 4 ∧ 0 ≤ a1.toInt ∧ a1.toInt < 64 ∧ -8 ≤ a2.toInt ∧ a2.toInt ≤ 8 ∧ -1000000000 ≤ a3.toInt ∧ a3.toInt ≤ 1000000000 ∧ 1 ≤ a4.toInt ∧ a4.toInt ≤ 32)) ∨ ((0 : Int32).toInt = 1 ∧ ¬ (-1 ≤ a0.toInt ∧ a0.toInt < 4 ∧ 0 ≤ a1.toInt ∧ a1.toInt < 64 ∧ -8 ≤ a2.toInt ∧ a2.toInt ≤ 8 ∧ -1000000000 ≤ a3.toInt ∧ a3.toInt ≤ 1000000000 ∧ 1 ≤ a4.toInt ∧ a4.toInt ≤ 32)); omega)⟩
theorem t_X_version {sX : S_X} {a0 : Int32} {sTab : S_Tab} (I_sTab : I_Tab sTab) : So (X_version sX a0 sTab) (fun r => I_Tab r.2 ∧ ((r.1.toInt = 0 ∧ (0 ≤ a0.toInt ∧ a0.toInt < 4)) ∨ (r.1.toInt = 1 ∧ ¬ (0 ≤ a0.toInt ∧ a0.toInt < 4)))) := by
  unfold X_version
  refine So.ite (fun c_1 => ?_) (fun c_1 => ?_)
  · rw [i_lt] at c_1
    have k_2 : (0 : Int32).toInt = 0 := by decide
    have k_3 : (1 : Int32).toInt = 1 := by decide
    exact So.one ⟨I_sTab, (by show ((1 : Int32).toInt = 0 ∧ (0 ≤ a0.toInt ∧ a0.toInt < 4)) ∨ ((1 : Int32).toInt = 1 ∧ ¬ (0 ≤ a0.toInt ∧ a0.toInt < 4)); omega)⟩
  · rw [i_lt] at c_1
    have k_4 : (0 : Int32).toInt = 0 := by decide
    refine So.ite (fun c_5 => ?_) (fun c_5 => ?_)
    · rw [i_lt] at c_5
      have k_6 : (4 : Int32).toInt = 4 := by decide
      refine So.lt2 fun sTab_1 e_7 => ?_
      have I_8 : I_Tab sTab_1 := by rw [e_7]; exact (I_Tab_set_versionInUse I_sTab (by show 0 ≤ (a0 : Int32).toInt ∧ (a0 : Int32).toInt ≤ 3; omega))
      exact So.one ⟨I_8, (by show ((0 : Int32).toInt = 0 ∧ (0 ≤ a0.toInt ∧ a0.toInt < 4)) ∨ ((0 : Int32).toInt = 1 ∧ ¬ (0 ≤ a0.toInt ∧ a0.toInt < 4)); omega)⟩
    · rw [i_lt] at c_5
      have k_9 : (4 : Int32).toInt = 4 := by decide
      have k_10 : (1 : Int32).toInt = 1 := by decide
      exact So.one ⟨I_sTab, (by show ((1 : Int32).toInt = 0 ∧ (0 ≤ a0.toInt ∧ a0.toInt < 4)) ∨ ((1 : Int32).toInt = 1 ∧ ¬ (0 ≤ a0.toInt ∧ a0.toInt < 4)); omega)⟩
theorem t_X_append {fu : Nat} {sX : S_X} {a0 : Int32} {a1 : Int32} {sTab : S_Tab} (hf : 12000 ≤ fu) (I_sTab : I_Tab sTab) : So (X_append fu sX a0 a1 sTab) (fun r => I_Tab r.2.2 ∧ (r.1.toInt = 0 ∨ r.1.toInt = 1 ∨ r.1.toInt = 2)) := by
  unfold X_append
  refine So.bd (t_Tab_listOf ) fun q1 h_1 => ?_
  have p_2 := h_1
  refine So.ite (fun c_3 => ?_) (fun c_3 => ?_)
  · rw [i_eq] at c_3
    have k_4 : ((-1) : Int32).toInt = -1 := by decide
    have k_5 : (1 : Int32).toInt = 1 := by decide
    exact So.one ⟨I_sTab, (by show (1 : Int32).toInt = 0 ∨ (1 : Int32).toInt = 1 ∨ (1 : Int32).toInt = 2; omega)⟩
  · rw [i_eq] at c_3
    have k_6 : ((-1) : Int32).toInt = -1 := by decide
    refine So.bd (t_Desc_isKnown hf) fun q2 h_7 => ?_
    have p_8 := h_7
    refine So.ite (fun c_9 => ?_) (fun c_9 => ?_)
    · rw [i_eq] at c_9
      have k_10 : (0 : Int32).toInt = 0 := by decide
      have k_11 : (1 : Int32).toInt = 1 := by decide
      exact So.one ⟨I_sTab, (by show (1 : Int32).toInt = 0 ∨ (1 : Int32).toInt = 1 ∨ (1 : Int32).toInt = 2; omega)⟩
    · rw [i_eq] at c_9
      have k_12 : (0 : Int32).toInt = 0 := by decide
      refine So.bd (t_Tab_isFull I_sTab (by show 0 ≤ q1.toInt; omega) (by show q1.toInt ≤ 16; omega)) fun q3 h_13 => ?_
      have p_14 := h_13
      refine So.ite (fun c_15 => ?_) (fun c_15 => ?_)
      · rw [i_eq] at c_15
        refine So.bd (t_Tab_extend I_sTab (by show 0 ≤ q1.toInt; omega) (by show q1.toInt ≤ 16; omega) (by show (q1.toInt = 16 ∧ (Tab_sizes sTab q1.toNatClampNeg).toInt < 24) ∨ (q1.toInt < 16 ∧ (Tab_sizes sTab q1.toNatClampNeg).toInt < 8); omega)) fun q4 h_16 => ?_
        have p_17 := h_16
        exact So.one ⟨p_17, (by show (0 : Int32).toInt = 0 ∨ (0 : Int32).toInt = 1 ∨ (0 : Int32).toInt = 2; omega)⟩
      · rw [i_eq] at c_15
        have k_18 : (2 : Int32).toInt = 2 := by decide
        exact So.one ⟨I_sTab, (by show (2 : Int32).toInt = 0 ∨ (2 : Int32).toInt = 1 ∨ (2 : Int32).toInt = 2; omega)⟩
theorem t_X_clear {sX : S_X} {a0 : Int32} {sTab : S_Tab} (I_sTab : I_Tab sTab) : So (X_clear sX a0 sTab) (fun r => I_Tab r.2 ∧ ((r.1.toInt = 0 ∧ (-1 ≤ a0.toInt ∧ a0.toInt < 16)) ∨ (r.1.toInt = 1 ∧ ¬ (-1 ≤ a0.toInt ∧ a0.toInt < 16)))) := by
  unfold X_clear
  refine So.bd (t_Tab_listOf ) fun q1 h_1 => ?_
  have p_2 := h_1
  refine So.ite (fun c_3 => ?_) (fun c_3 => ?_)
  · rw [i_eq] at c_3
    have k_4 : ((-1) : Int32).toInt = -1 := by decide
    have k_5 : (1 : Int32).toInt = 1 := by decide
    exact So.one ⟨I_sTab, (by show ((1 : Int32).toInt = 0 ∧ (-1 ≤ a0.toInt ∧ a0.toInt < 16)) ∨ ((1 : Int32).toInt = 1 ∧ ¬ (-1 ≤ a0.toInt ∧ a0.toInt < 16)); omega)⟩
  · rw [i_eq] at c_3
    have k_6 : ((-1) : Int32).toInt = -1 := by decide
    refine So.gd (i_in.mpr (by omega)) ?_
    have k_8 : (0 : Int32).toInt = 0 := by decide
    have f_9 := i_natm q1
    refine So.lt2 fun sTab_3 e_7 => ?_
    have I_10 : I_Tab sTab_3 := by rw [e_7]; exact (I_Tab_put_sizes I_sTab (by show 0 ≤ (0 : Int32).toInt ∧ (0 : Int32).toInt ≤ 24 ∧ ((q1.toNatClampNeg) < 16 → (0 : Int32).toInt ≤ 8); omega))
    exact So.one ⟨I_10, (by show ((0 : Int32).toInt = 0 ∧ (-1 ≤ a0.toInt ∧ a0.toInt < 16)) ∨ ((0 : Int32).toInt = 1 ∧ ¬ (-1 ≤ a0.toInt ∧ a0.toInt < 16)); omega)⟩
theorem t_X_compile {fu : Nat} {sTab : S_Tab} {sX : S_X} {sProg : S_Prog} (hf : 12000 ≤ fu) (I_sTab : I_Tab sTab) (I_sProg : I_Prog sProg) : So (X_compile fu sTab sX sProg) (fun r => I_Prog r.2.2.2 ∧ (r.1.toInt = 0 ∨ r.1.toInt = 1)) := by
  unfold X_compile
  refine So.bd (t_X_compileAnew hf I_sTab I_sProg) fun q1 h_1 => ?_
  obtain ⟨p_2, p_3⟩ := h_1
  refine So.ite (fun c_4 => ?_) (fun c_4 => ?_)
  · rw [i_eq] at c_4
    have k_5 : (0 : Int32).toInt = 0 := by decide
    have k_6 : (1 : Int32).toInt = 1 := by decide
    exact So.one ⟨p_2, (by show (1 : Int32).toInt = 0 ∨ (1 : Int32).toInt = 1; omega)⟩
  · rw [i_eq] at c_4
    have k_7 : (0 : Int32).toInt = 0 := by decide
    exact So.one ⟨p_2, (by show (0 : Int32).toInt = 0 ∨ (0 : Int32).toInt = 1; omega)⟩
theorem t_X_put {sX : S_X} {a0 : Int32} {a1 : Int32} {a2 : Int64} {sVAL : (Nat → Nat → Int64)}  : So (X_put sX a0 a1 a2 sVAL) (fun r => ((r.1.toInt = 0 ∧ (0 ≤ a0.toInt ∧ a0.toInt < 8 ∧ 0 ≤ a1.toInt ∧ a1.toInt < 100)) ∨ (r.1.toInt = 3 ∧ ¬ (0 ≤ a0.toInt ∧ a0.toInt < 8 ∧ 0 ≤ a1.toInt ∧ a1.toInt < 100)))) := by
  unfold X_put
  refine So.bd (t_X_isValue ) fun q1 h_1 => ?_
  have p_2 := h_1
  refine So.ite (fun c_3 => ?_) (fun c_3 => ?_)
  · rw [i_eq] at c_3
    have k_4 : (0 : Int32).toInt = 0 := by decide
    have k_5 : (3 : Int32).toInt = 3 := by decide
    exact So.one (by show ((3 : Int32).toInt = 0 ∧ (0 ≤ a0.toInt ∧ a0.toInt < 8 ∧ 0 ≤ a1.toInt ∧ a1.toInt < 100)) ∨ ((3 : Int32).toInt = 3 ∧ ¬ (0 ≤ a0.toInt ∧ a0.toInt < 8 ∧ 0 ≤ a1.toInt ∧ a1.toInt < 100)); omega)
  · rw [i_eq] at c_3
    have k_6 : (0 : Int32).toInt = 0 := by decide
    refine So.gd (i_in.mpr (by omega)) ?_
    refine So.gd (i_in.mpr (by omega)) ?_
    refine So.lt2 fun sVAL_4 e_7 => ?_
    exact So.one (by show ((0 : Int32).toInt = 0 ∧ (0 ≤ a0.toInt ∧ a0.toInt < 8 ∧ 0 ≤ a1.toInt ∧ a1.toInt < 100)) ∨ ((0 : Int32).toInt = 3 ∧ ¬ (0 ≤ a0.toInt ∧ a0.toInt < 8 ∧ 0 ≤ a1.toInt ∧ a1.toInt < 100)); omega)
theorem t_X_get {sX : S_X} {sVAL : (Nat → Nat → Int64)} {a0 : Int32} {a1 : Int32}  : So (X_get sX sVAL a0 a1) (fun r => ((r.1.toInt = 0 ∧ (0 ≤ a0.toInt ∧ a0.toInt < 8 ∧ 0 ≤ a1.toInt ∧ a1.toInt < 100)) ∨ (r.1.toInt = 3 ∧ ¬ (0 ≤ a0.toInt ∧ a0.toInt < 8 ∧ 0 ≤ a1.toInt ∧ a1.toInt < 100)))) := by
  unfold X_get
  refine So.bd (t_X_isValue ) fun q1 h_1 => ?_
  have p_2 := h_1
  refine So.ite (fun c_3 => ?_) (fun c_3 => ?_)
  · rw [i_eq] at c_3
    have k_4 : (0 : Int32).toInt = 0 := by decide
    have k_5 : (3 : Int32).toInt = 3 := by decide
    exact So.one (by show ((3 : Int32).toInt = 0 ∧ (0 ≤ a0.toInt ∧ a0.toInt < 8 ∧ 0 ≤ a1.toInt ∧ a1.toInt < 100)) ∨ ((3 : Int32).toInt = 3 ∧ ¬ (0 ≤ a0.toInt ∧ a0.toInt < 8 ∧ 0 ≤ a1.toInt ∧ a1.toInt < 100)); omega)
  · rw [i_eq] at c_3
    have k_6 : (0 : Int32).toInt = 0 := by decide
    refine So.gd (i_in.mpr (by omega)) ?_
    refine So.gd (i_in.mpr (by omega)) ?_
    exact So.one (by show ((0 : Int32).toInt = 0 ∧ (0 ≤ a0.toInt ∧ a0.toInt < 8 ∧ 0 ≤ a1.toInt ∧ a1.toInt < 100)) ∨ ((0 : Int32).toInt = 3 ∧ ¬ (0 ≤ a0.toInt ∧ a0.toInt < 8 ∧ 0 ≤ a1.toInt ∧ a1.toInt < 100)); omega)
theorem t_X_fields {fu : Nat} {sVAL : (Nat → Nat → Int64)} {sTab : S_Tab} {a0 : Int32} {sX : S_X} {sProg : S_Prog} {sWalk : S_Walk} {sFld : S_Fld} {sLps : S_Lps} (hf : 12000 ≤ fu) (I_sTab : I_Tab sTab) (I_sProg : I_Prog sProg) (I_sWalk : I_Walk sWalk) (I_sFld : I_Fld sFld) (I_sLps : I_Lps sLps) : So (X_fields fu sVAL sTab a0 sX sProg sWalk sFld sLps) (fun r => I_Prog r.2.2.2.1 ∧ I_Walk r.2.2.2.2.1 ∧ I_Fld r.2.2.2.2.2.1 ∧ I_Lps r.2.2.2.2.2.2 ∧ (r.1.toInt = 0 ∨ r.1.toInt = 1 ∨ r.1.toInt = 3)) := by
  unfold X_fields
  refine So.bd (t_X_setFault ) fun q1 h_1 => ?_
  refine So.bd (t_X_isSubset ) fun q2 h_2 => ?_
  have p_3 := h_2
  refine So.ite (fun c_4 => ?_) (fun c_4 => ?_)
  · rw [i_eq] at c_4
    have k_5 : (0 : Int32).toInt = 0 := by decide
    have k_6 : (3 : Int32).toInt = 3 := by decide
    exact So.one ⟨I_sProg, I_sWalk, I_sFld, I_sLps, (by show (3 : Int32).toInt = 0 ∨ (3 : Int32).toInt = 1 ∨ (3 : Int32).toInt = 3; omega)⟩
  · rw [i_eq] at c_4
    have k_7 : (0 : Int32).toInt = 0 := by decide
    refine So.bd (t_X_compileAnew hf I_sTab I_sProg) fun q3 h_8 => ?_
    obtain ⟨p_9, p_10⟩ := h_8
    refine So.ite (fun c_11 => ?_) (fun c_11 => ?_)
    · rw [i_eq] at c_11
      have k_12 : (1 : Int32).toInt = 1 := by decide
      exact So.one ⟨p_9, I_sWalk, I_sFld, I_sLps, (by show (1 : Int32).toInt = 0 ∨ (1 : Int32).toInt = 1 ∨ (1 : Int32).toInt = 3; omega)⟩
    · rw [i_eq] at c_11
      refine So.gd (i_in.mpr (by omega)) ?_
      have k_13 : (100 : Int32).toInt = 100 := by decide
      refine So.bd (t_Walk_over hf I_sTab p_9 I_sWalk I_sFld I_sLps (by show (100 : Int) = 100; omega)) fun q5 h_14 => ?_
      obtain ⟨p_15, p_16, p_17, p_18, p_19, p_20⟩ := h_14
      refine So.ite (fun c_21 => ?_) (fun c_21 => ?_)
      · rw [i_eq] at c_21
        exact So.one ⟨p_9, p_15, p_16, p_17, (by show (0 : Int32).toInt = 0 ∨ (0 : Int32).toInt = 1 ∨ (0 : Int32).toInt = 3; omega)⟩
      · rw [i_eq] at c_21
        refine So.bd (t_X_placeOf ) fun q6 h_22 => ?_
        refine So.bd (t_X_setFault ) fun q7 h_23 => ?_
        have k_24 : (1 : Int32).toInt = 1 := by decide
        exact So.one ⟨p_9, p_15, p_16, p_17, (by show (1 : Int32).toInt = 0 ∨ (1 : Int32).toInt = 1 ∨ (1 : Int32).toInt = 3; omega)⟩
theorem t_X_write {fu : Nat} {sVAL : (Nat → Nat → Int64)} {sTab : S_Tab} {sWri : S_Wri} {a0 : Int32} {a1 : Int32} {sX : S_X} {sProg : S_Prog} {sWalk : S_Walk} {sFld : S_Fld} {sLps : S_Lps} {sWB : S_Bits} (hf : 12000 ≤ fu) (I_sTab : I_Tab sTab) (I_sProg : I_Prog sProg) (I_sWalk : I_Walk sWalk) (I_sFld : I_Fld sFld) (I_sLps : I_Lps sLps) (I_sWB : I_Bits sWB) : So (X_write fu sVAL sTab sWri a0 a1 sX sProg sWalk sFld sLps sWB) (fun r => I_Prog r.2.2.2.1 ∧ I_Walk r.2.2.2.2.1 ∧ I_Fld r.2.2.2.2.2.1 ∧ I_Lps r.2.2.2.2.2.2.1 ∧ I_Bits r.2.2.2.2.2.2.2 ∧ (r.1.toInt = 0 ∨ r.1.toInt = 1)) := by
  unfold X_write
  have f_1 := I_Bits_length I_sWB
  refine So.bd (t_X_setFault ) fun q1 h_2 => ?_
  refine So.ite (fun c_3 => ?_) (fun c_3 => ?_)
  · rw [i_lt] at c_3
    have k_4 : (1 : Int32).toInt = 1 := by decide
    exact So.one ⟨I_sProg, I_sWalk, I_sFld, I_sLps, I_sWB, (by show (1 : Int32).toInt = 0 ∨ (1 : Int32).toInt = 1; omega)⟩
  · rw [i_lt] at c_3
    have k_5 : (1 : Int32).toInt = 1 := by decide
    refine So.ite (fun c_6 => ?_) (fun c_6 => ?_)
    · rw [i_le] at c_6
      have k_7 : (8 : Int32).toInt = 8 := by decide
      refine So.bd (t_X_compileAnew hf I_sTab I_sProg) fun q2 h_8 => ?_
      obtain ⟨p_9, p_10⟩ := h_8
      refine So.ite (fun c_11 => ?_) (fun c_11 => ?_)
      · rw [i_eq] at c_11
        have k_12 : (0 : Int32).toInt = 0 := by decide
        exact So.one ⟨p_9, I_sWalk, I_sFld, I_sLps, I_sWB, (by show (1 : Int32).toInt = 0 ∨ (1 : Int32).toInt = 1; omega)⟩
      · rw [i_eq] at c_11
        have k_13 : (0 : Int32).toInt = 0 := by decide
        refine So.bd (t_X_checkValues hf I_sTab p_9 I_sWalk I_sFld I_sLps (by show a0.toInt ≤ 8; omega)) fun q3 h_14 => ?_
        obtain ⟨p_15, p_16, p_17⟩ := h_14
        refine So.ite (fun c_18 => ?_) (fun c_18 => ?_)
        · rw [i_eq] at c_18
          exact So.one ⟨p_9, p_15, p_16, p_17, I_sWB, (by show (1 : Int32).toInt = 0 ∨ (1 : Int32).toInt = 1; omega)⟩
        · rw [i_eq] at c_18
          refine So.ite (fun c_19 => ?_) (fun c_19 => ?_)
          · rw [i_eq] at c_19
            unfold X_write_j64
            refine So.ite (fun c_20 => ?_) (fun c_20 => ?_)
            · rw [i_eq] at c_20
              refine So.bd (t_Wri_takePlain hf I_sTab p_9 p_15 p_16 p_17 I_sWB (by show a0.toInt ≤ 8; omega)) fun q11 h_21 => ?_
              obtain ⟨p_22, p_23, p_24, p_25⟩ := h_21
              have k_26 : (3679 : Int32).toInt = 3679 := by decide
              have f_27 := I_Bits_length p_25
              refine So.bd (t_Bits_byteCount p_25 (by show (3679 : Int) ≤ 3679; omega) (by show (Bits_length q11.2.2.2).toInt ≤ 8 * (3679 : Int); omega)) fun q12 h_28 => ?_
              obtain ⟨p_29, p_30, p_31⟩ := h_28
              exact So.one ⟨p_9, p_22, p_23, p_24, p_25, (by show (0 : Int32).toInt = 0 ∨ (0 : Int32).toInt = 1; omega)⟩
            · rw [i_eq] at c_20
              refine So.bd (t_Wri_takePacked hf I_sTab p_9 p_15 p_16 p_17 I_sWB (by show a0.toInt ≤ 8; omega)) fun q13 h_32 => ?_
              obtain ⟨p_33, p_34, p_35, p_36⟩ := h_32
              have k_37 : (3679 : Int32).toInt = 3679 := by decide
              have f_38 := I_Bits_length p_36
              refine So.bd (t_Bits_byteCount p_36 (by show (3679 : Int) ≤ 3679; omega) (by show (Bits_length q13.2.2.2).toInt ≤ 8 * (3679 : Int); omega)) fun q14 h_39 => ?_
              obtain ⟨p_40, p_41, p_42⟩ := h_39
              exact So.one ⟨p_9, p_33, p_34, p_35, p_36, (by show (0 : Int32).toInt = 0 ∨ (0 : Int32).toInt = 1; omega)⟩
          · rw [i_eq] at c_19
            refine So.bd (t_X_checkAlike hf I_sTab p_9 p_15 p_16 p_17 (by show a0.toInt ≤ 8; omega)) fun q4 h_43 => ?_
            obtain ⟨p_44, p_45, p_46⟩ := h_43
            refine So.ite (fun c_47 => ?_) (fun c_47 => ?_)
            · rw [i_eq] at c_47
              exact So.one ⟨p_9, p_44, p_45, p_46, I_sWB, (by show (1 : Int32).toInt = 0 ∨ (1 : Int32).toInt = 1; omega)⟩
            · rw [i_eq] at c_47
              unfold X_write_j64
              refine So.ite (fun c_48 => ?_) (fun c_48 => ?_)
              · rw [i_eq] at c_48
                refine So.bd (t_Wri_takePlain hf I_sTab p_9 p_44 p_45 p_46 I_sWB (by show a0.toInt ≤ 8; omega)) fun q11 h_49 => ?_
                obtain ⟨p_50, p_51, p_52, p_53⟩ := h_49
                have k_54 : (3679 : Int32).toInt = 3679 := by decide
                have f_55 := I_Bits_length p_53
                refine So.bd (t_Bits_byteCount p_53 (by show (3679 : Int) ≤ 3679; omega) (by show (Bits_length q11.2.2.2).toInt ≤ 8 * (3679 : Int); omega)) fun q12 h_56 => ?_
                obtain ⟨p_57, p_58, p_59⟩ := h_56
                exact So.one ⟨p_9, p_50, p_51, p_52, p_53, (by show (0 : Int32).toInt = 0 ∨ (0 : Int32).toInt = 1; omega)⟩
              · rw [i_eq] at c_48
                refine So.bd (t_Wri_takePacked hf I_sTab p_9 p_44 p_45 p_46 I_sWB (by show a0.toInt ≤ 8; omega)) fun q13 h_60 => ?_
                obtain ⟨p_61, p_62, p_63, p_64⟩ := h_60
                have k_65 : (3679 : Int32).toInt = 3679 := by decide
                have f_66 := I_Bits_length p_64
                refine So.bd (t_Bits_byteCount p_64 (by show (3679 : Int) ≤ 3679; omega) (by show (Bits_length q13.2.2.2).toInt ≤ 8 * (3679 : Int); omega)) fun q14 h_67 => ?_
                obtain ⟨p_68, p_69, p_70⟩ := h_67
                exact So.one ⟨p_9, p_61, p_62, p_63, p_64, (by show (0 : Int32).toInt = 0 ∨ (0 : Int32).toInt = 1; omega)⟩
    · rw [i_le] at c_6
      have k_71 : (8 : Int32).toInt = 8 := by decide
      exact So.one ⟨I_sProg, I_sWalk, I_sFld, I_sLps, I_sWB, (by show (1 : Int32).toInt = 0 ∨ (1 : Int32).toInt = 1; omega)⟩
theorem t_X_read_L93 {fu : Nat} {sTab : S_Tab} {sX_L93 : S_X} {sProg_L93 : S_Prog} {sWalk_L93 : S_Walk} {sFld_L93 : S_Fld} {sLps_L93 : S_Lps} {sRea_L93 : S_Rea} {sRR_L93 : (Nat → Nat → Int64)} {sTP_L93 : S_Bits} (hf : 12000 ≤ fu) (I_sTab : I_Tab sTab) (I_sProg_L93 : I_Prog sProg_L93) (I_sWalk_L93 : I_Walk sWalk_L93) (I_sFld_L93 : I_Fld sFld_L93) (I_sLps_L93 : I_Lps sLps_L93) (I_sTP_L93 : I_Bits sTP_L93) (g_0 : (Bits_length sTP_L93).toInt ≤ 8000) : ∀ (n : Nat) (x1_L93 : Int32) (sVAL_L93 : Nat → Nat → Int64), (0 ≤ x1_L93.toInt) → (x1_L93.toInt ≤ 8) → (8 - x1_L93.toInt < (n : Nat)) → So (X_read_L93 fu sTab sX_L93 sProg_L93 sWalk_L93 sFld_L93 sLps_L93 sRea_L93 sRR_L93 sTP_L93 n x1_L93 sVAL_L93) (fun r => I_Prog r.2.2.2.2.1 ∧ I_Walk r.2.2.2.2.2.1 ∧ I_Fld r.2.2.2.2.2.2.1 ∧ I_Lps r.2.2.2.2.2.2.2.1 ∧ I_Bits r.2.2.2.2.2.2.2.2.2.2 ∧ (r.1.toInt = 0 ∨ r.1.toInt = 1) ∧ ((Bits_length r.2.2.2.2.2.2.2.2.2.2).toInt ≤ 8000))
  | 0, x1_L93, sVAL_L93, l_0, l_1, l_2 => absurd l_2 (by omega)
  | n + 1, x1_L93, sVAL_L93, l_0, l_1, l_2 => by
    rw [X_read_L93]
    refine So.ite (fun c_1 => ?_) (fun c_1 => ?_)
    · rw [i_le] at c_1
      have k_2 : (8 : Int32).toInt = 8 := by decide
      have k_3 : (0 : Int32).toInt = 0 := by decide
      exact So.one ⟨I_sProg_L93, I_sWalk_L93, I_sFld_L93, I_sLps_L93, I_sTP_L93, (by show (0 : Int32).toInt = 0 ∨ (0 : Int32).toInt = 1; omega), (by show (Bits_length sTP_L93).toInt ≤ 8000; omega)⟩
    · rw [i_le] at c_1
      have k_4 : (8 : Int32).toInt = 8 := by decide
      refine So.gd (i_in.mpr (by omega)) ?_
      refine So.gd (i_in.mpr (by omega)) ?_
      have k_5 : (0 : Int32).toInt = 0 := by decide
      have k_6 : (100 : Int32).toInt = 100 := by decide
      refine So.gd (i_cp (by omega) (by omega) (by omega) (by omega) (by omega)) ?_
      refine So.lt2 fun sVAL_12 e_7 => ?_
      have f_8 := I_Bits_length I_sTP_L93
      have k_9 : (1 : Int32).toInt = 1 := by decide
      first | have f_10 := i_add (a := x1_L93) (b := 1) (by omega) (by omega) | have f_10 := i_addm x1_L93 1
      exact t_X_read_L93 hf I_sTab I_sProg_L93 I_sWalk_L93 I_sFld_L93 I_sLps_L93 I_sTP_L93 (by show (Bits_length sTP_L93).toInt ≤ 8000; omega)   n _ _ (by show 0 ≤ (x1_L93 + 1).toInt; omega) (by show (x1_L93 + 1).toInt ≤ 8; omega) (by show 8 - (x1_L93 + 1).toInt < (n : Nat); omega)
theorem t_X_read {fu : Nat} {sTab : S_Tab} {sX : S_X} {sVAL : (Nat → Nat → Int64)} {sProg : S_Prog} {sWalk : S_Walk} {sFld : S_Fld} {sLps : S_Lps} {sRea : S_Rea} {sRR : (Nat → Nat → Int64)} {sTP : S_Bits} (hf : 12000 ≤ fu) (I_sTab : I_Tab sTab) (I_sProg : I_Prog sProg) (I_sWalk : I_Walk sWalk) (I_sFld : I_Fld sFld) (I_sLps : I_Lps sLps) (I_sTP : I_Bits sTP) (g_0 : (Bits_length sTP).toInt ≤ 8000) : So (X_read fu sTab sX sVAL sProg sWalk sFld sLps sRea sRR sTP) (fun r => I_Prog r.2.2.2.2.1 ∧ I_Walk r.2.2.2.2.2.1 ∧ I_Fld r.2.2.2.2.2.2.1 ∧ I_Lps r.2.2.2.2.2.2.2.1 ∧ I_Bits r.2.2.2.2.2.2.2.2.2.2 ∧ (r.1.toInt = 0 ∨ r.1.toInt = 1) ∧ ((Bits_length r.2.2.2.2.2.2.2.2.2.2).toInt ≤ 8000)) := by
  unfold X_read
  refine So.bd (t_X_compileAnew hf I_sTab I_sProg) fun q1 h_1 => ?_
  obtain ⟨p_2, p_3⟩ := h_1
  refine So.ite (fun c_4 => ?_) (fun c_4 => ?_)
  · rw [i_eq] at c_4
    have k_5 : (0 : Int32).toInt = 0 := by decide
    unfold X_read_j67
    have k_6 : (1000 : Int32).toInt = 1000 := by decide
    refine So.bd (t_Bits_empty hf I_sTP (by show (1000 : Int) ≤ 3679; omega)) fun q9 h_7 => ?_
    obtain ⟨p_8, p_9⟩ := h_7
    refine So.ite (fun c_10 => ?_) (fun c_10 => ?_)
    · rw [i_eq] at c_10
      have f_11 := I_Bits_length p_8
      refine So.imp (t_X_read_L93 hf I_sTab p_2 I_sWalk I_sFld I_sLps p_8 (by show (Bits_length q9).toInt ≤ 8000; omega) fu _ _ (by show 0 ≤ (0 : Int32).toInt; omega) (by show (0 : Int32).toInt ≤ 8; omega) (by show 8 - (0 : Int32).toInt < (fu : Nat); omega)) fun q_z h_z => ?_
      obtain ⟨p_12, p_13, p_14, p_15, p_16, p_17, p_18⟩ := h_z
      exact ⟨p_12, p_13, p_14, p_15, p_16, (by show q_z.1.toInt = 0 ∨ q_z.1.toInt = 1; omega), (by show (Bits_length q_z.2.2.2.2.2.2.2.2.2.2).toInt ≤ 8000; omega)⟩
    · rw [i_eq] at c_10
      have k_19 : (1 : Int32).toInt = 1 := by decide
      exact So.one ⟨p_2, I_sWalk, I_sFld, I_sLps, p_8, (by show (1 : Int32).toInt = 0 ∨ (1 : Int32).toInt = 1; omega), (by show (Bits_length q9).toInt ≤ 8000; omega)⟩
  · rw [i_eq] at c_4
    have k_20 : (0 : Int32).toInt = 0 := by decide
    have f_21 := I_Bits_length I_sTP
    refine So.bd (t_X_openTape hf I_sTP (by show (Bits_length sTP).toInt ≤ 8000; omega)) fun q2 h_22 => ?_
    have p_23 := h_22
    refine So.ite (fun c_24 => ?_) (fun c_24 => ?_)
    · rw [i_eq] at c_24
      unfold X_read_j67
      have k_25 : (1000 : Int32).toInt = 1000 := by decide
      refine So.bd (t_Bits_empty hf I_sTP (by show (1000 : Int) ≤ 3679; omega)) fun q9 h_26 => ?_
      obtain ⟨p_27, p_28⟩ := h_26
      refine So.ite (fun c_29 => ?_) (fun c_29 => ?_)
      · rw [i_eq] at c_29
        have f_30 := I_Bits_length p_27
        refine So.imp (t_X_read_L93 hf I_sTab p_2 I_sWalk I_sFld I_sLps p_27 (by show (Bits_length q9).toInt ≤ 8000; omega) fu _ _ (by show 0 ≤ (0 : Int32).toInt; omega) (by show (0 : Int32).toInt ≤ 8; omega) (by show 8 - (0 : Int32).toInt < (fu : Nat); omega)) fun q_z h_z => ?_
        obtain ⟨p_31, p_32, p_33, p_34, p_35, p_36, p_37⟩ := h_z
        exact ⟨p_31, p_32, p_33, p_34, p_35, (by show q_z.1.toInt = 0 ∨ q_z.1.toInt = 1; omega), (by show (Bits_length q_z.2.2.2.2.2.2.2.2.2.2).toInt ≤ 8000; omega)⟩
      · rw [i_eq] at c_29
        have k_38 : (1 : Int32).toInt = 1 := by decide
        exact So.one ⟨p_2, I_sWalk, I_sFld, I_sLps, p_27, (by show (1 : Int32).toInt = 0 ∨ (1 : Int32).toInt = 1; omega), (by show (Bits_length q9).toInt ≤ 8000; omega)⟩
    · rw [i_eq] at c_24
      refine So.ite (fun c_39 => ?_) (fun c_39 => ?_)
      · rw [i_eq] at c_39
        refine So.bd (t_Rea_takePlain hf I_sTab p_2 I_sTP I_sWalk I_sFld I_sLps (by show (Bits_length sTP).toInt ≤ 8000; omega) (by show 1 ≤ (Rea_subsets q2.2.2.1).toInt; omega) (by show (Rea_subsets q2.2.2.1).toInt ≤ 8; omega) (by show -20 ≤ (Rea_end q2.2.2.1).toInt; omega) (by show (Rea_end q2.2.2.1).toInt ≤ 8000; omega) (by show (Rea_at q2.2.2.1).toInt = 32; omega)) fun q3 h_40 => ?_
        obtain ⟨p_41, p_42, p_43, p_44, p_45, p_46, p_47⟩ := h_40
        unfold X_read_j49
        refine So.bd (t_X_setFault ) fun q8 h_48 => ?_
        unfold X_read_j67
        have k_49 : (1000 : Int32).toInt = 1000 := by decide
        refine So.bd (t_Bits_empty hf I_sTP (by show (1000 : Int) ≤ 3679; omega)) fun q9 h_50 => ?_
        obtain ⟨p_51, p_52⟩ := h_50
        refine So.ite (fun c_53 => ?_) (fun c_53 => ?_)
        · rw [i_eq] at c_53
          have f_54 := I_Bits_length p_51
          refine So.imp (t_X_read_L93 hf I_sTab p_2 p_41 p_42 p_43 p_51 (by show (Bits_length q9).toInt ≤ 8000; omega) fu _ _ (by show 0 ≤ (0 : Int32).toInt; omega) (by show (0 : Int32).toInt ≤ 8; omega) (by show 8 - (0 : Int32).toInt < (fu : Nat); omega)) fun q_z h_z => ?_
          obtain ⟨p_55, p_56, p_57, p_58, p_59, p_60, p_61⟩ := h_z
          exact ⟨p_55, p_56, p_57, p_58, p_59, (by show q_z.1.toInt = 0 ∨ q_z.1.toInt = 1; omega), (by show (Bits_length q_z.2.2.2.2.2.2.2.2.2.2).toInt ≤ 8000; omega)⟩
        · rw [i_eq] at c_53
          have k_62 : (1 : Int32).toInt = 1 := by decide
          exact So.one ⟨p_2, p_41, p_42, p_43, p_51, (by show (1 : Int32).toInt = 0 ∨ (1 : Int32).toInt = 1; omega), (by show (Bits_length q9).toInt ≤ 8000; omega)⟩
      · rw [i_eq] at c_39
        refine So.bd (t_Rea_takePacked hf I_sTab p_2 I_sTP I_sWalk I_sFld I_sLps (by show (Bits_length sTP).toInt ≤ 8000; omega) (by show 1 ≤ (Rea_subsets q2.2.2.1).toInt; omega) (by show (Rea_subsets q2.2.2.1).toInt ≤ 8; omega) (by show -20 ≤ (Rea_end q2.2.2.1).toInt; omega) (by show (Rea_end q2.2.2.1).toInt ≤ 8000; omega) (by show (Rea_at q2.2.2.1).toInt = 32; omega)) fun q4 h_63 => ?_
        obtain ⟨p_64, p_65, p_66, p_67, p_68, p_69, p_70⟩ := h_63
        unfold X_read_j49
        refine So.bd (t_X_setFault ) fun q8 h_71 => ?_
        unfold X_read_j67
        have k_72 : (1000 : Int32).toInt = 1000 := by decide
        refine So.bd (t_Bits_empty hf I_sTP (by show (1000 : Int) ≤ 3679; omega)) fun q9 h_73 => ?_
        obtain ⟨p_74, p_75⟩ := h_73
        refine So.ite (fun c_76 => ?_) (fun c_76 => ?_)
        · rw [i_eq] at c_76
          have f_77 := I_Bits_length p_74
          refine So.imp (t_X_read_L93 hf I_sTab p_2 p_64 p_65 p_66 p_74 (by show (Bits_length q9).toInt ≤ 8000; omega) fu _ _ (by show 0 ≤ (0 : Int32).toInt; omega) (by show (0 : Int32).toInt ≤ 8; omega) (by show 8 - (0 : Int32).toInt < (fu : Nat); omega)) fun q_z h_z => ?_
          obtain ⟨p_78, p_79, p_80, p_81, p_82, p_83, p_84⟩ := h_z
          exact ⟨p_78, p_79, p_80, p_81, p_82, (by show q_z.1.toInt = 0 ∨ q_z.1.toInt = 1; omega), (by show (Bits_length q_z.2.2.2.2.2.2.2.2.2.2).toInt ≤ 8000; omega)⟩
        · rw [i_eq] at c_76
          have k_85 : (1 : Int32).toInt = 1 := by decide
          exact So.one ⟨p_2, p_64, p_65, p_66, p_74, (by show (1 : Int32).toInt = 0 ∨ (1 : Int32).toInt = 1; omega), (by show (Bits_length q9).toInt ≤ 8000; omega)⟩
theorem t_X_point {sX : S_X} {a0 : Int32} {a1 : Int64} {sGrd : S_Grd} (I_sGrd : I_Grd sGrd) : So (X_point sX a0 a1 sGrd) (fun r => I_Grd r.2 ∧ ((r.1.toInt = 3 ∧ ¬ (0 ≤ a0.toInt ∧ a0.toInt < 64)) ∨ (r.1.toInt = 1 ∧ (0 ≤ a0.toInt ∧ a0.toInt < 64) ∧ ¬ (a1.toInt = -9000000000000000000 ∨ (-2000000000 ≤ a1.toInt ∧ a1.toInt ≤ 2000000000))) ∨ (r.1.toInt = 0 ∧ (0 ≤ a0.toInt ∧ a0.toInt < 64) ∧ (a1.toInt = -9000000000000000000 ∨ (-2000000000 ≤ a1.toInt ∧ a1.toInt ≤ 2000000000))))) := by
  unfold X_point
  refine So.ite (fun c_1 => ?_) (fun c_1 => ?_)
  · rw [i_lt] at c_1
    have k_2 : (0 : Int32).toInt = 0 := by decide
    have k_3 : (3 : Int32).toInt = 3 := by decide
    exact So.one ⟨I_sGrd, (by show ((3 : Int32).toInt = 3 ∧ ¬ (0 ≤ a0.toInt ∧ a0.toInt < 64)) ∨ ((3 : Int32).toInt = 1 ∧ (0 ≤ a0.toInt ∧ a0.toInt < 64) ∧ ¬ (a1.toInt = -9000000000000000000 ∨ (-2000000000 ≤ a1.toInt ∧ a1.toInt ≤ 2000000000))) ∨ ((3 : Int32).toInt = 0 ∧ (0 ≤ a0.toInt ∧ a0.toInt < 64) ∧ (a1.toInt = -9000000000000000000 ∨ (-2000000000 ≤ a1.toInt ∧ a1.toInt ≤ 2000000000))); omega)⟩
  · rw [i_lt] at c_1
    have k_4 : (0 : Int32).toInt = 0 := by decide
    refine So.ite (fun c_5 => ?_) (fun c_5 => ?_)
    · rw [i_lt] at c_5
      have k_6 : (64 : Int32).toInt = 64 := by decide
      refine So.ite (fun c_7 => ?_) (fun c_7 => ?_)
      · rw [i64_eq] at c_7
        have k_8 : ((-9000000000000000000) : Int64).toInt = -9000000000000000000 := by decide
        unfold X_point_j56
        refine So.gd (i_in.mpr (by omega)) ?_
        refine So.lt2 fun sGrd_7 e_9 => ?_
        have I_10 : I_Grd sGrd_7 := by rw [e_9]; exact (I_Grd_put_points I_sGrd)
        exact So.one ⟨I_10, (by show ((0 : Int32).toInt = 3 ∧ ¬ (0 ≤ a0.toInt ∧ a0.toInt < 64)) ∨ ((0 : Int32).toInt = 1 ∧ (0 ≤ a0.toInt ∧ a0.toInt < 64) ∧ ¬ (a1.toInt = -9000000000000000000 ∨ (-2000000000 ≤ a1.toInt ∧ a1.toInt ≤ 2000000000))) ∨ ((0 : Int32).toInt = 0 ∧ (0 ≤ a0.toInt ∧ a0.toInt < 64) ∧ (a1.toInt = -9000000000000000000 ∨ (-2000000000 ≤ a1.toInt ∧ a1.toInt ≤ 2000000000))); omega)⟩
      · rw [i64_eq] at c_7
        have k_11 : ((-9000000000000000000) : Int64).toInt = -9000000000000000000 := by decide
        refine So.ite (fun c_12 => ?_) (fun c_12 => ?_)
        · rw [i64_lt] at c_12
          have k_13 : ((-2000000000) : Int64).toInt = -2000000000 := by decide
          have k_14 : (1 : Int32).toInt = 1 := by decide
          exact So.one ⟨I_sGrd, (by show ((1 : Int32).toInt = 3 ∧ ¬ (0 ≤ a0.toInt ∧ a0.toInt < 64)) ∨ ((1 : Int32).toInt = 1 ∧ (0 ≤ a0.toInt ∧ a0.toInt < 64) ∧ ¬ (a1.toInt = -9000000000000000000 ∨ (-2000000000 ≤ a1.toInt ∧ a1.toInt ≤ 2000000000))) ∨ ((1 : Int32).toInt = 0 ∧ (0 ≤ a0.toInt ∧ a0.toInt < 64) ∧ (a1.toInt = -9000000000000000000 ∨ (-2000000000 ≤ a1.toInt ∧ a1.toInt ≤ 2000000000))); omega)⟩
        · rw [i64_lt] at c_12
          have k_15 : ((-2000000000) : Int64).toInt = -2000000000 := by decide
          refine So.ite (fun c_16 => ?_) (fun c_16 => ?_)
          · rw [i64_le] at c_16
            have k_17 : (2000000000 : Int64).toInt = 2000000000 := by decide
            unfold X_point_j56
            refine So.gd (i_in.mpr (by omega)) ?_
            refine So.lt2 fun sGrd_7 e_18 => ?_
            have I_19 : I_Grd sGrd_7 := by rw [e_18]; exact (I_Grd_put_points I_sGrd)
            exact So.one ⟨I_19, (by show ((0 : Int32).toInt = 3 ∧ ¬ (0 ≤ a0.toInt ∧ a0.toInt < 64)) ∨ ((0 : Int32).toInt = 1 ∧ (0 ≤ a0.toInt ∧ a0.toInt < 64) ∧ ¬ (a1.toInt = -9000000000000000000 ∨ (-2000000000 ≤ a1.toInt ∧ a1.toInt ≤ 2000000000))) ∨ ((0 : Int32).toInt = 0 ∧ (0 ≤ a0.toInt ∧ a0.toInt < 64) ∧ (a1.toInt = -9000000000000000000 ∨ (-2000000000 ≤ a1.toInt ∧ a1.toInt ≤ 2000000000))); omega)⟩
          · rw [i64_le] at c_16
            have k_20 : (2000000000 : Int64).toInt = 2000000000 := by decide
            have k_21 : (1 : Int32).toInt = 1 := by decide
            exact So.one ⟨I_sGrd, (by show ((1 : Int32).toInt = 3 ∧ ¬ (0 ≤ a0.toInt ∧ a0.toInt < 64)) ∨ ((1 : Int32).toInt = 1 ∧ (0 ≤ a0.toInt ∧ a0.toInt < 64) ∧ ¬ (a1.toInt = -9000000000000000000 ∨ (-2000000000 ≤ a1.toInt ∧ a1.toInt ≤ 2000000000))) ∨ ((1 : Int32).toInt = 0 ∧ (0 ≤ a0.toInt ∧ a0.toInt < 64) ∧ (a1.toInt = -9000000000000000000 ∨ (-2000000000 ≤ a1.toInt ∧ a1.toInt ≤ 2000000000))); omega)⟩
    · rw [i_lt] at c_5
      have k_22 : (64 : Int32).toInt = 64 := by decide
      have k_23 : (3 : Int32).toInt = 3 := by decide
      exact So.one ⟨I_sGrd, (by show ((3 : Int32).toInt = 3 ∧ ¬ (0 ≤ a0.toInt ∧ a0.toInt < 64)) ∨ ((3 : Int32).toInt = 1 ∧ (0 ≤ a0.toInt ∧ a0.toInt < 64) ∧ ¬ (a1.toInt = -9000000000000000000 ∨ (-2000000000 ≤ a1.toInt ∧ a1.toInt ≤ 2000000000))) ∨ ((3 : Int32).toInt = 0 ∧ (0 ≤ a0.toInt ∧ a0.toInt < 64) ∧ (a1.toInt = -9000000000000000000 ∨ (-2000000000 ≤ a1.toInt ∧ a1.toInt ≤ 2000000000))); omega)⟩
theorem t_X_pack {fu : Nat} {sX : S_X} {a0 : Int32} {sGrd : S_Grd} (hf : 12000 ≤ fu) (I_sGrd : I_Grd sGrd) : So (X_pack fu sX a0 sGrd) (fun r => I_Grd r.2.2 ∧ (r.1.toInt = 0 ∨ r.1.toInt = 1 ∨ r.1.toInt = 2)) := by
  unfold X_pack
  refine So.ite (fun c_1 => ?_) (fun c_1 => ?_)
  · rw [i_lt] at c_1
    have k_2 : (1 : Int32).toInt = 1 := by decide
    exact So.one ⟨I_sGrd, (by show (1 : Int32).toInt = 0 ∨ (1 : Int32).toInt = 1 ∨ (1 : Int32).toInt = 2; omega)⟩
  · rw [i_lt] at c_1
    have k_3 : (1 : Int32).toInt = 1 := by decide
    refine So.ite (fun c_4 => ?_) (fun c_4 => ?_)
    · rw [i_le] at c_4
      have k_5 : (31 : Int32).toInt = 31 := by decide
      refine So.bd (t_Grd_isBare hf I_sGrd) fun q1 h_6 => ?_
      refine So.ite (fun c_7 => ?_) (fun c_7 => ?_)
      · rw [i_eq] at c_7
        have k_8 : (0 : Int32).toInt = 0 := by decide
        refine So.bd (t_Grd_takeCodes hf I_sGrd) fun q2 h_9 => ?_
        obtain ⟨p_10, p_11⟩ := h_9
        have f_12 := I_Grd_codeCount p_10
        refine So.bd (t_Grd_cut hf p_10 (by show 0 ≤ (Grd_codeCount q2.2).toInt; omega)) fun q3 h_13 => ?_
        have p_14 := h_13
        exact So.one ⟨p_14, (by show (0 : Int32).toInt = 0 ∨ (0 : Int32).toInt = 1 ∨ (0 : Int32).toInt = 2; omega)⟩
      · rw [i_eq] at c_7
        have k_15 : (0 : Int32).toInt = 0 := by decide
        have k_16 : (2 : Int32).toInt = 2 := by decide
        exact So.one ⟨I_sGrd, (by show (2 : Int32).toInt = 0 ∨ (2 : Int32).toInt = 1 ∨ (2 : Int32).toInt = 2; omega)⟩
    · rw [i_le] at c_4
      have k_17 : (31 : Int32).toInt = 31 := by decide
      exact So.one ⟨I_sGrd, (by show (1 : Int32).toInt = 0 ∨ (1 : Int32).toInt = 1 ∨ (1 : Int32).toInt = 2; omega)⟩

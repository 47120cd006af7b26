theorem t_Rea_take {fu : Nat} {sTP : S_Bits} {a0 : Int32} {sRea : S_Rea} (hf : 12000 ≤ fu) (I_sTP : I_Bits sTP) (g_0 : (Bits_length sTP).toInt ≤ 8000) (g_1 : -200000 ≤ (Rea_at sRea).toInt) (g_2 : (Rea_at sRea).toInt ≤ 10000) (g_3 : -100 ≤ a0.toInt) (g_4 : a0.toInt ≤ 120) : So (Rea_take fu sTP a0 sRea) (fun r => ((Rea_subsets r.2).toInt = (Rea_subsets sRea).toInt) ∧ ((Rea_end r.2).toInt = (Rea_end sRea).toInt) ∧ ((Rea_at r.2).toInt = (Rea_at sRea).toInt + a0.toInt) ∧ (a0.toInt ≠ 6 ∨ (0 ≤ r.1.toInt ∧ r.1.toInt ≤ 63))) := by
  unfold Rea_take
  have k_1 : (1000 : Int32).toInt = 1000 := by decide
  have f_2 := I_Bits_length I_sTP
  refine So.bd (t_Bits_numberAt hf I_sTP (by show (1000 : Int) ≤ 3679; omega) (by show (Bits_length sTP).toInt ≤ 8 * (1000 : Int); omega) (by show -1000000 ≤ (Rea_at sRea).toInt; omega) (by show (Rea_at sRea).toInt ≤ 1000000; omega) (by show -100 ≤ a0.toInt; omega) (by show a0.toInt ≤ 120; omega)) fun q1 h_3 => ?_
  have p_4 := h_3
  refine So.lt2 fun sRea_2 e_5 => ?_
  first | have f_6 := i_add (a := (Rea_at sRea)) (b := a0) (by omega) (by omega) | have f_6 := i_addm (Rea_at sRea) a0
  have f_7 : (Rea_subsets sRea_2).toInt = (Rea_subsets sRea).toInt := by subst e_5; rfl
  have f_8 : (Rea_at sRea_2).toInt = (((Rea_at sRea) + a0) : Int32).toInt := by subst e_5; rfl
  have f_9 : (Rea_end sRea_2).toInt = (Rea_end sRea).toInt := by subst e_5; rfl
  exact So.one ⟨(by show (Rea_subsets sRea_2).toInt = (Rea_subsets sRea).toInt; omega), (by show (Rea_end sRea_2).toInt = (Rea_end sRea).toInt; omega), (by show (Rea_at sRea_2).toInt = (Rea_at sRea).toInt + a0.toInt; omega), (by show a0.toInt ≠ 6 ∨ (0 ≤ q1.toInt ∧ q1.toInt ≤ 63); omega)⟩
theorem t_Rea_takePlainValue {fu : Nat} {nRW : Nat} {sFld : S_Fld} {sTP : S_Bits} {a1 : Int32} {sRea : S_Rea} {sRW : (Nat → Int64)} (hf : 12000 ≤ fu) (I_sFld : I_Fld sFld) (I_sTP : I_Bits sTP) (g_0 : (Bits_length sTP).toInt ≤ 8000) (g_1 : 1 ≤ (Rea_subsets sRea).toInt) (g_2 : (Rea_subsets sRea).toInt ≤ 8) (g_3 : -20 ≤ (Rea_end sRea).toInt) (g_4 : (Rea_end sRea).toInt ≤ 8000) (g_5 : -200000 ≤ (Rea_at sRea).toInt) (g_6 : (Rea_at sRea).toInt ≤ 10000) (g_7 : 0 ≤ a1.toInt) (g_8 : a1.toInt < 100) (g_9 : (nRW : Int) = 100) : So (Rea_takePlainValue fu nRW sFld sTP a1 sRea sRW) (fun r => ((Rea_subsets r.2.1).toInt = (Rea_subsets sRea).toInt) ∧ ((Rea_end r.2.1).toInt = (Rea_end sRea).toInt) ∧ ((Rea_at sRea).toInt - 100 ≤ (Rea_at r.2.1).toInt) ∧ ((Rea_at r.2.1).toInt ≤ (Rea_at sRea).toInt ∨ (Rea_at r.2.1).toInt ≤ (Rea_end sRea).toInt)) := by
  unfold Rea_takePlainValue
  refine So.gd (i_in.mpr (by omega)) ?_
  refine So.ite (fun c_1 => ?_) (fun c_1 => ?_)
  · rw [i_le] at c_1
    have f_2 := I_Fld_widths I_sFld (a1.toNatClampNeg)
    first | have f_3 := i_sub (a := (Rea_end sRea)) (b := (Rea_at sRea)) (by omega) (by omega) | have f_3 := i_subm (Rea_end sRea) (Rea_at sRea)
    have f_4 := I_Bits_length I_sTP
    refine So.bd (t_Rea_take hf I_sTP (by show (Bits_length sTP).toInt ≤ 8000; omega) (by show -200000 ≤ (Rea_at sRea).toInt; omega) (by show (Rea_at sRea).toInt ≤ 10000; omega) (by show -100 ≤ (Fld_widths sFld (a1.toNatClampNeg)).toInt; omega) (by show (Fld_widths sFld (a1.toNatClampNeg)).toInt ≤ 120; omega)) fun q2 h_5 => ?_
    obtain ⟨p_6, p_7, p_8, p_9⟩ := h_5
    refine So.bd (t_Fld_valueOf I_sFld (by show 0 ≤ a1.toInt; omega) (by show a1.toInt < 100; omega)) fun q3 h_10 => ?_
    refine So.gd (i_in.mpr (by omega)) ?_
    refine So.lt2 fun sRW_5 e_11 => ?_
    exact So.one ⟨(by show (Rea_subsets q2.2).toInt = (Rea_subsets sRea).toInt; omega), (by show (Rea_end q2.2).toInt = (Rea_end sRea).toInt; omega), (by show (Rea_at sRea).toInt - 100 ≤ (Rea_at q2.2).toInt; omega), (by show (Rea_at q2.2).toInt ≤ (Rea_at sRea).toInt ∨ (Rea_at q2.2).toInt ≤ (Rea_end sRea).toInt; omega)⟩
  · rw [i_le] at c_1
    have f_12 := I_Fld_widths I_sFld (a1.toNatClampNeg)
    first | have f_13 := i_sub (a := (Rea_end sRea)) (b := (Rea_at sRea)) (by omega) (by omega) | have f_13 := i_subm (Rea_end sRea) (Rea_at sRea)
    exact So.one ⟨(by show (Rea_subsets sRea).toInt = (Rea_subsets sRea).toInt; omega), (by show (Rea_end sRea).toInt = (Rea_end sRea).toInt; omega), (by show (Rea_at sRea).toInt - 100 ≤ (Rea_at sRea).toInt; omega), (by show (Rea_at sRea).toInt ≤ (Rea_at sRea).toInt ∨ (Rea_at sRea).toInt ≤ (Rea_end sRea).toInt; omega)⟩
theorem t_Rea_takeOneForAll_L3 {fu : Nat} {sFld : S_Fld} {sRea : S_Rea} {x2_L3 : Int32} {x3_L3 : Int64} {ke_3 : (Nat → Nat → Int64) → Option (Int32 × (Nat → Nat → Int64))} {P : Int32 × (Nat → Nat → Int64) → Prop} (hf : 12000 ≤ fu) (I_sFld : I_Fld sFld) (g_0 : 1 ≤ (Rea_subsets sRea).toInt) (g_1 : (Rea_subsets sRea).toInt ≤ 8) (g_2 : -20 ≤ (Rea_end sRea).toInt) (g_3 : (Rea_end sRea).toInt ≤ 8000) (g_4 : 0 ≤ x2_L3.toInt) (g_5 : x2_L3.toInt < 100) (hke_3 : ∀ (y0 : Nat → Nat → Int64), So (ke_3 y0) P) (hP : ∀ r, (r.1.toInt = 0 ∨ r.1.toInt = 1) → P r) : ∀ (n : Nat) (x5_L3 : Int32) (sRR_L3 : Nat → Nat → Int64), (0 ≤ x5_L3.toInt) → (x5_L3.toInt ≤ 8) → (8 - x5_L3.toInt < (n : Nat)) → So (Rea_takeOneForAll_L3 fu sFld sRea x2_L3 x3_L3 ke_3 n x5_L3 sRR_L3) P
  | 0, x5_L3, sRR_L3, l_0, l_1, l_2 => absurd l_2 (by omega)
  | n + 1, x5_L3, sRR_L3, l_0, l_1, l_2 => by
    rw [Rea_takeOneForAll_L3]
    refine So.ite (fun c_1 => ?_) (fun c_1 => ?_)
    · rw [i_le] at c_1
      exact hke_3 _ 
    · rw [i_le] at c_1
      refine So.gd (i_in.mpr (by omega)) ?_
      refine So.bd (t_Fld_valueOf I_sFld (by show 0 ≤ x2_L3.toInt; omega) (by show x2_L3.toInt < 100; omega)) fun q2 h_2 => ?_
      refine So.gd (i_in.mpr (by omega)) ?_
      refine So.lt2 fun sRR_4 e_3 => ?_
      have k_4 : (1 : Int32).toInt = 1 := by decide
      first | have f_5 := i_add (a := x5_L3) (b := 1) (by omega) (by omega) | have f_5 := i_addm x5_L3 1
      exact t_Rea_takeOneForAll_L3 hf I_sFld (by show 1 ≤ (Rea_subsets sRea).toInt; omega) (by show (Rea_subsets sRea).toInt ≤ 8; omega) (by show -20 ≤ (Rea_end sRea).toInt; omega) (by show (Rea_end sRea).toInt ≤ 8000; omega) (by show 0 ≤ x2_L3.toInt; omega) (by show x2_L3.toInt < 100; omega) hke_3 hP n _ _ (by show 0 ≤ (x5_L3 + 1).toInt; omega) (by show (x5_L3 + 1).toInt ≤ 8; omega) (by show 8 - (x5_L3 + 1).toInt < (n : Nat); omega)
theorem t_Rea_takeOneForAll {fu : Nat} {sFld : S_Fld} {sRea : S_Rea} {a1 : Int32} {a2 : Int64} {sRR : (Nat → Nat → Int64)} (hf : 12000 ≤ fu) (I_sFld : I_Fld sFld) (g_0 : 1 ≤ (Rea_subsets sRea).toInt) (g_1 : (Rea_subsets sRea).toInt ≤ 8) (g_2 : -20 ≤ (Rea_end sRea).toInt) (g_3 : (Rea_end sRea).toInt ≤ 8000) (g_4 : 0 ≤ a1.toInt) (g_5 : a1.toInt < 100) : So (Rea_takeOneForAll fu sFld sRea a1 a2 sRR) (fun r => (r.1.toInt = 0 ∨ r.1.toInt = 1)) := by
  unfold Rea_takeOneForAll
  have k_1 : (0 : Int32).toInt = 0 := by decide
  refine t_Rea_takeOneForAll_L3 hf I_sFld (by show 1 ≤ (Rea_subsets sRea).toInt; omega) (by show (Rea_subsets sRea).toInt ≤ 8; omega) (by show -20 ≤ (Rea_end sRea).toInt; omega) (by show (Rea_end sRea).toInt ≤ 8000; omega) (by show 0 ≤ a1.toInt; omega) (by show a1.toInt < 100; omega) ?_ ?_ fu _ _ (by show 0 ≤ (0 : Int32).toInt; omega) (by show (0 : Int32).toInt ≤ 8; omega) (by show 8 - (0 : Int32).toInt < (fu : Nat); omega)
  · intro zRR
    unfold Rea_takeOneForAll_j33
    refine So.gd (i_in.mpr (by omega)) ?_
    refine So.ite (fun c_2 => ?_) (fun c_2 => ?_)
    · rw [i_eq] at c_2
      have k_3 : (2 : Int32).toInt = 2 := by decide
      refine So.bd (t_Fld_isMissing I_sFld (by show 0 ≤ a1.toInt; omega) (by show a1.toInt < 100; omega)) fun q7 h_4 => ?_
      refine So.ite (fun c_5 => ?_) (fun c_5 => ?_)
      · rw [i_eq] at c_5
        have k_6 : (1 : Int32).toInt = 1 := by decide
        exact So.one (by show (1 : Int32).toInt = 0 ∨ (1 : Int32).toInt = 1; omega)
      · rw [i_eq] at c_5
        exact So.one (by show (0 : Int32).toInt = 0 ∨ (0 : Int32).toInt = 1; omega)
    · rw [i_eq] at c_2
      have k_7 : (2 : Int32).toInt = 2 := by decide
      have k_8 : (1 : Int32).toInt = 1 := by decide
      exact So.one (by show (1 : Int32).toInt = 0 ∨ (1 : Int32).toInt = 1; omega)
  · intro q_z h_z
    have p_9 := h_z
    exact (by show q_z.1.toInt = 0 ∨ q_z.1.toInt = 1; omega)
theorem t_Rea_takeDifferences_L3 {fu : Nat} {sFld : S_Fld} {sTP : S_Bits} {x2_L3 : Int32} {x3_L3 : Int64} {x5_L3 : Int32} (K : Int) (hf : 12000 ≤ fu) (I_sFld : I_Fld sFld) (I_sTP : I_Bits sTP) (g_0 : (Bits_length sTP).toInt ≤ 8000) (g_1 : 0 ≤ x2_L3.toInt) (g_2 : x2_L3.toInt < 100) (g_3 : 0 ≤ x5_L3.toInt) (g_4 : x5_L3.toInt ≤ 33) (g_5 : -200000 ≤ K) : ∀ (n : Nat) (x6_L3 : Int32) (sRea_L3 : S_Rea) (sRR_L3 : Nat → Nat → Int64), (0 ≤ x6_L3.toInt) → (x6_L3.toInt ≤ 8) → (1 ≤ (Rea_subsets sRea_L3).toInt) → ((Rea_subsets sRea_L3).toInt ≤ 8) → (-20 ≤ (Rea_end sRea_L3).toInt) → ((Rea_end sRea_L3).toInt ≤ 8000) → (K ≤ (Rea_at sRea_L3).toInt) → ((Rea_at sRea_L3).toInt ≤ 8000 + 40 * x6_L3.toInt) → (8 - x6_L3.toInt < (n : Nat)) → So (Rea_takeDifferences_L3 fu sFld sTP x2_L3 x3_L3 x5_L3 n x6_L3 sRea_L3 sRR_L3) (fun r => (1 ≤ (Rea_subsets r.2.1).toInt) ∧ ((Rea_subsets r.2.1).toInt ≤ 8) ∧ (-20 ≤ (Rea_end r.2.1).toInt) ∧ ((Rea_end r.2.1).toInt ≤ 8000) ∧ (K ≤ (Rea_at r.2.1).toInt) ∧ ((Rea_at r.2.1).toInt ≤ 8400))
  | 0, x6_L3, sRea_L3, sRR_L3, l_0, l_1, l_2, l_3, l_4, l_5, l_6, l_7, l_8 => absurd l_8 (by omega)
  | n + 1, x6_L3, sRea_L3, sRR_L3, l_0, l_1, l_2, l_3, l_4, l_5, l_6, l_7, l_8 => by
    rw [Rea_takeDifferences_L3]
    refine So.ite (fun c_1 => ?_) (fun c_1 => ?_)
    · rw [i_le] at c_1
      exact So.one ⟨(by show 1 ≤ (Rea_subsets sRea_L3).toInt; omega), (by show (Rea_subsets sRea_L3).toInt ≤ 8; omega), (by show -20 ≤ (Rea_end sRea_L3).toInt; omega), (by show (Rea_end sRea_L3).toInt ≤ 8000; omega), (by show K ≤ (Rea_at sRea_L3).toInt; omega), (by show (Rea_at sRea_L3).toInt ≤ 8400; omega)⟩
    · rw [i_le] at c_1
      have f_2 := I_Bits_length I_sTP
      refine So.bd (t_Rea_take hf I_sTP (by show (Bits_length sTP).toInt ≤ 8000; omega) (by show -200000 ≤ (Rea_at sRea_L3).toInt; omega) (by show (Rea_at sRea_L3).toInt ≤ 10000; omega) (by show -100 ≤ x5_L3.toInt; omega) (by show x5_L3.toInt ≤ 120; omega)) fun q1 h_3 => ?_
      obtain ⟨p_4, p_5, p_6, p_7⟩ := h_3
      refine So.bd (t_X_allOnes ) fun q2 h_8 => ?_
      refine So.ite (fun c_9 => ?_) (fun c_9 => ?_)
      · unfold Rea_takeDifferences_j36
        refine So.neg (by decide) ?_
        unfold Rea_takeDifferences_j62
        refine So.gd (i_in.mpr (by omega)) ?_
        refine So.neg (by decide) ?_
        unfold Rea_takeDifferences_j92
        refine So.gd (i_in.mpr (by omega)) ?_
        refine So.lt2 fun sRR_13 e_12 => ?_
        have k_13 : (1 : Int32).toInt = 1 := by decide
        first | have f_14 := i_add (a := x6_L3) (b := 1) (by omega) (by omega) | have f_14 := i_addm x6_L3 1
        exact t_Rea_takeDifferences_L3 (K) hf I_sFld I_sTP (by show (Bits_length sTP).toInt ≤ 8000; omega) (by show 0 ≤ x2_L3.toInt; omega) (by show x2_L3.toInt < 100; omega) (by show 0 ≤ x5_L3.toInt; omega) (by show x5_L3.toInt ≤ 33; omega) (by show -200000 ≤ K; omega)   n _ _ _ (by show 0 ≤ (x6_L3 + 1).toInt; omega) (by show (x6_L3 + 1).toInt ≤ 8; omega) (by show 1 ≤ (Rea_subsets q1.2).toInt; omega) (by show (Rea_subsets q1.2).toInt ≤ 8; omega) (by show -20 ≤ (Rea_end q1.2).toInt; omega) (by show (Rea_end q1.2).toInt ≤ 8000; omega) (by show K ≤ (Rea_at q1.2).toInt; omega) (by show (Rea_at q1.2).toInt ≤ 8000 + 40 * (x6_L3 + 1).toInt; omega) (by show 8 - (x6_L3 + 1).toInt < (n : Nat); omega)
      · unfold Rea_takeDifferences_j36
        refine So.pos (by decide) ?_
        refine So.gd (i_in.mpr (by omega)) ?_
        refine So.bd (t_X_allOnes ) fun q6 h_16 => ?_
        refine So.ite (fun c_17 => ?_) (fun c_17 => ?_)
        · unfold Rea_takeDifferences_j62
          refine So.gd (i_in.mpr (by omega)) ?_
          refine So.pos (by decide) ?_
          refine So.gd (i_in.mpr (by omega)) ?_
          unfold Rea_takeDifferences_j92
          refine So.gd (i_in.mpr (by omega)) ?_
          refine So.lt2 fun sRR_13 e_19 => ?_
          have k_20 : (1 : Int32).toInt = 1 := by decide
          first | have f_21 := i_add (a := x6_L3) (b := 1) (by omega) (by omega) | have f_21 := i_addm x6_L3 1
          exact t_Rea_takeDifferences_L3 (K) hf I_sFld I_sTP (by show (Bits_length sTP).toInt ≤ 8000; omega) (by show 0 ≤ x2_L3.toInt; omega) (by show x2_L3.toInt < 100; omega) (by show 0 ≤ x5_L3.toInt; omega) (by show x5_L3.toInt ≤ 33; omega) (by show -200000 ≤ K; omega)   n _ _ _ (by show 0 ≤ (x6_L3 + 1).toInt; omega) (by show (x6_L3 + 1).toInt ≤ 8; omega) (by show 1 ≤ (Rea_subsets q1.2).toInt; omega) (by show (Rea_subsets q1.2).toInt ≤ 8; omega) (by show -20 ≤ (Rea_end q1.2).toInt; omega) (by show (Rea_end q1.2).toInt ≤ 8000; omega) (by show K ≤ (Rea_at q1.2).toInt; omega) (by show (Rea_at q1.2).toInt ≤ 8000 + 40 * (x6_L3 + 1).toInt; omega) (by show 8 - (x6_L3 + 1).toInt < (n : Nat); omega)
        · exact So.one ⟨(by show 1 ≤ (Rea_subsets q1.2).toInt; omega), (by show (Rea_subsets q1.2).toInt ≤ 8; omega), (by show -20 ≤ (Rea_end q1.2).toInt; omega), (by show (Rea_end q1.2).toInt ≤ 8000; omega), (by show K ≤ (Rea_at q1.2).toInt; omega), (by show (Rea_at q1.2).toInt ≤ 8400; omega)⟩
theorem t_Rea_takeDifferences {fu : Nat} {sFld : S_Fld} {sTP : S_Bits} {a1 : Int32} {a2 : Int64} {a3 : Int32} {sRea : S_Rea} {sRR : (Nat → Nat → Int64)} (hf : 12000 ≤ fu) (I_sFld : I_Fld sFld) (I_sTP : I_Bits sTP) (g_0 : (Bits_length sTP).toInt ≤ 8000) (g_1 : 1 ≤ (Rea_subsets sRea).toInt) (g_2 : (Rea_subsets sRea).toInt ≤ 8) (g_3 : -20 ≤ (Rea_end sRea).toInt) (g_4 : (Rea_end sRea).toInt ≤ 8000) (g_5 : 0 ≤ a1.toInt) (g_6 : a1.toInt < 100) (g_7 : 0 ≤ a3.toInt) (g_8 : a3.toInt ≤ 33) (g_9 : -200000 ≤ (Rea_at sRea).toInt) (g_10 : (Rea_at sRea).toInt ≤ 8000) : So (Rea_takeDifferences fu sFld sTP a1 a2 a3 sRea sRR) (fun r => (1 ≤ (Rea_subsets r.2.1).toInt) ∧ ((Rea_subsets r.2.1).toInt ≤ 8) ∧ (-20 ≤ (Rea_end r.2.1).toInt) ∧ ((Rea_end r.2.1).toInt ≤ 8000) ∧ ((Rea_at sRea).toInt ≤ (Rea_at r.2.1).toInt) ∧ ((Rea_at r.2.1).toInt ≤ 8400)) := by
  unfold Rea_takeDifferences
  have f_1 := I_Bits_length I_sTP
  have k_2 : (0 : Int32).toInt = 0 := by decide
  refine So.imp (t_Rea_takeDifferences_L3 ((Rea_at sRea).toInt) hf I_sFld I_sTP (by show (Bits_length sTP).toInt ≤ 8000; omega) (by show 0 ≤ a1.toInt; omega) (by show a1.toInt < 100; omega) (by show 0 ≤ a3.toInt; omega) (by show a3.toInt ≤ 33; omega) (by show -200000 ≤ ((Rea_at sRea).toInt); omega) fu _ _ _ (by show 0 ≤ (0 : Int32).toInt; omega) (by show (0 : Int32).toInt ≤ 8; omega) (by show 1 ≤ (Rea_subsets sRea).toInt; omega) (by show (Rea_subsets sRea).toInt ≤ 8; omega) (by show -20 ≤ (Rea_end sRea).toInt; omega) (by show (Rea_end sRea).toInt ≤ 8000; omega) (by show ((Rea_at sRea).toInt) ≤ (Rea_at sRea).toInt; omega) (by show (Rea_at sRea).toInt ≤ 8000 + 40 * (0 : Int32).toInt; omega) (by show 8 - (0 : Int32).toInt < (fu : Nat); omega)) fun q_z h_z => ?_
  obtain ⟨p_3, p_4, p_5, p_6, p_7, p_8⟩ := h_z
  exact ⟨(by show 1 ≤ (Rea_subsets q_z.2.1).toInt; omega), (by show (Rea_subsets q_z.2.1).toInt ≤ 8; omega), (by show -20 ≤ (Rea_end q_z.2.1).toInt; omega), (by show (Rea_end q_z.2.1).toInt ≤ 8000; omega), (by show (Rea_at sRea).toInt ≤ (Rea_at q_z.2.1).toInt; omega), (by show (Rea_at q_z.2.1).toInt ≤ 8400; omega)⟩
theorem t_Rea_takePackedValues {fu : Nat} {sFld : S_Fld} {sTP : S_Bits} {a1 : Int32} {sRea : S_Rea} {sRR : (Nat → Nat → Int64)} (hf : 12000 ≤ fu) (I_sFld : I_Fld sFld) (I_sTP : I_Bits sTP) (g_0 : (Bits_length sTP).toInt ≤ 8000) (g_1 : 1 ≤ (Rea_subsets sRea).toInt) (g_2 : (Rea_subsets sRea).toInt ≤ 8) (g_3 : -20 ≤ (Rea_end sRea).toInt) (g_4 : (Rea_end sRea).toInt ≤ 8000) (g_5 : 0 ≤ a1.toInt) (g_6 : a1.toInt < 100) (g_7 : -190000 ≤ (Rea_at sRea).toInt) (g_8 : (Rea_at sRea).toInt ≤ 8400) : So (Rea_takePackedValues fu sFld sTP a1 sRea sRR) (fun r => (1 ≤ (Rea_subsets r.2.1).toInt) ∧ ((Rea_subsets r.2.1).toInt ≤ 8) ∧ (-20 ≤ (Rea_end r.2.1).toInt) ∧ ((Rea_end r.2.1).toInt ≤ 8000) ∧ ((Rea_at sRea).toInt - 100 ≤ (Rea_at r.2.1).toInt) ∧ ((Rea_at r.2.1).toInt ≤ 8400)) := by
  unfold Rea_takePackedValues
  refine So.gd (i_in.mpr (by omega)) ?_
  refine So.ite (fun c_1 => ?_) (fun c_1 => ?_)
  · rw [i_le] at c_1
    have f_2 := I_Fld_widths I_sFld (a1.toNatClampNeg)
    have k_3 : (6 : Int32).toInt = 6 := by decide
    first | have f_4 := i_add (a := (Fld_widths sFld (a1.toNatClampNeg))) (b := 6) (by omega) (by omega) | have f_4 := i_addm (Fld_widths sFld (a1.toNatClampNeg)) 6
    first | have f_5 := i_sub (a := (Rea_end sRea)) (b := (Rea_at sRea)) (by omega) (by omega) | have f_5 := i_subm (Rea_end sRea) (Rea_at sRea)
    have f_6 := I_Bits_length I_sTP
    refine So.bd (t_Rea_take hf I_sTP (by show (Bits_length sTP).toInt ≤ 8000; omega) (by show -200000 ≤ (Rea_at sRea).toInt; omega) (by show (Rea_at sRea).toInt ≤ 10000; omega) (by show -100 ≤ (Fld_widths sFld (a1.toNatClampNeg)).toInt; omega) (by show (Fld_widths sFld (a1.toNatClampNeg)).toInt ≤ 120; omega)) fun q2 h_7 => ?_
    obtain ⟨p_8, p_9, p_10, p_11⟩ := h_7
    refine So.bd (t_Rea_take hf I_sTP (by show (Bits_length sTP).toInt ≤ 8000; omega) (by show -200000 ≤ (Rea_at q2.2).toInt; omega) (by show (Rea_at q2.2).toInt ≤ 10000; omega) (by show -100 ≤ (6 : Int32).toInt; omega) (by show (6 : Int32).toInt ≤ 120; omega)) fun q3 h_12 => ?_
    obtain ⟨p_13, p_14, p_15, p_16⟩ := h_12
    refine So.ite (fun c_17 => ?_) (fun c_17 => ?_)
    · rw [i_lt] at c_17
      have k_18 : (33 : Int32).toInt = 33 := by decide
      have f_19 := i_64 q3.1
      exact So.one ⟨(by show 1 ≤ (Rea_subsets q3.2).toInt; omega), (by show (Rea_subsets q3.2).toInt ≤ 8; omega), (by show -20 ≤ (Rea_end q3.2).toInt; omega), (by show (Rea_end q3.2).toInt ≤ 8000; omega), (by show (Rea_at sRea).toInt - 100 ≤ (Rea_at q3.2).toInt; omega), (by show (Rea_at q3.2).toInt ≤ 8400; omega)⟩
    · rw [i_lt] at c_17
      have k_20 : (33 : Int32).toInt = 33 := by decide
      have f_21 := i_64 q3.1
      refine So.ite (fun c_22 => ?_) (fun c_22 => ?_)
      · rw [i_le] at c_22
        first | have f_24 := i_sub (a := (Rea_end q3.2)) (b := (Rea_at q3.2)) (by omega) (by omega) | have f_24 := i_subm (Rea_end q3.2) (Rea_at q3.2)
        refine So.ite (fun c_25 => ?_) (fun c_25 => ?_)
        · rw [i_eq] at c_25
          have k_26 : (0 : Int32).toInt = 0 := by decide
          refine So.bd (t_Rea_takeOneForAll hf I_sFld (by show 1 ≤ (Rea_subsets q3.2).toInt; omega) (by show (Rea_subsets q3.2).toInt ≤ 8; omega) (by show -20 ≤ (Rea_end q3.2).toInt; omega) (by show (Rea_end q3.2).toInt ≤ 8000; omega) (by show 0 ≤ a1.toInt; omega) (by show a1.toInt < 100; omega)) fun q8 h_27 => ?_
          have p_28 := h_27
          refine So.gd (i_bool (a := q8.1) (by omega)) ?_
          exact So.one ⟨(by show 1 ≤ (Rea_subsets q3.2).toInt; omega), (by show (Rea_subsets q3.2).toInt ≤ 8; omega), (by show -20 ≤ (Rea_end q3.2).toInt; omega), (by show (Rea_end q3.2).toInt ≤ 8000; omega), (by show (Rea_at sRea).toInt - 100 ≤ (Rea_at q3.2).toInt; omega), (by show (Rea_at q3.2).toInt ≤ 8400; omega)⟩
        · rw [i_eq] at c_25
          have k_29 : (0 : Int32).toInt = 0 := by decide
          refine So.bd (t_Fld_isCountOrBit I_sFld (by show 0 ≤ a1.toInt; omega) (by show a1.toInt < 100; omega)) fun q4 h_30 => ?_
          have p_31 := h_30
          refine So.ite (fun c_32 => ?_) (fun c_32 => ?_)
          · rw [i_eq] at c_32
            refine So.bd (t_Rea_takeDifferences hf I_sFld I_sTP (by show (Bits_length sTP).toInt ≤ 8000; omega) (by show 1 ≤ (Rea_subsets q3.2).toInt; omega) (by show (Rea_subsets q3.2).toInt ≤ 8; omega) (by show -20 ≤ (Rea_end q3.2).toInt; omega) (by show (Rea_end q3.2).toInt ≤ 8000; omega) (by show 0 ≤ a1.toInt; omega) (by show a1.toInt < 100; omega) (by show 0 ≤ (q3.1.toInt32).toInt; omega) (by show (q3.1.toInt32).toInt ≤ 33; omega) (by show -200000 ≤ (Rea_at q3.2).toInt; omega) (by show (Rea_at q3.2).toInt ≤ 8000; omega)) fun q5 h_33 => ?_
            obtain ⟨p_34, p_35, p_36, p_37, p_38, p_39⟩ := h_33
            refine So.ite (fun c_40 => ?_) (fun c_40 => ?_)
            · rw [i_eq] at c_40
              exact So.one ⟨(by show 1 ≤ (Rea_subsets q5.2.1).toInt; omega), (by show (Rea_subsets q5.2.1).toInt ≤ 8; omega), (by show -20 ≤ (Rea_end q5.2.1).toInt; omega), (by show (Rea_end q5.2.1).toInt ≤ 8000; omega), (by show (Rea_at sRea).toInt - 100 ≤ (Rea_at q5.2.1).toInt; omega), (by show (Rea_at q5.2.1).toInt ≤ 8400; omega)⟩
            · rw [i_eq] at c_40
              exact So.one ⟨(by show 1 ≤ (Rea_subsets q5.2.1).toInt; omega), (by show (Rea_subsets q5.2.1).toInt ≤ 8; omega), (by show -20 ≤ (Rea_end q5.2.1).toInt; omega), (by show (Rea_end q5.2.1).toInt ≤ 8000; omega), (by show (Rea_at sRea).toInt - 100 ≤ (Rea_at q5.2.1).toInt; omega), (by show (Rea_at q5.2.1).toInt ≤ 8400; omega)⟩
          · rw [i_eq] at c_32
            exact So.one ⟨(by show 1 ≤ (Rea_subsets q3.2).toInt; omega), (by show (Rea_subsets q3.2).toInt ≤ 8; omega), (by show -20 ≤ (Rea_end q3.2).toInt; omega), (by show (Rea_end q3.2).toInt ≤ 8000; omega), (by show (Rea_at sRea).toInt - 100 ≤ (Rea_at q3.2).toInt; omega), (by show (Rea_at q3.2).toInt ≤ 8400; omega)⟩
      · rw [i_le] at c_22
        first | have f_42 := i_sub (a := (Rea_end q3.2)) (b := (Rea_at q3.2)) (by omega) (by omega) | have f_42 := i_subm (Rea_end q3.2) (Rea_at q3.2)
        exact So.one ⟨(by show 1 ≤ (Rea_subsets q3.2).toInt; omega), (by show (Rea_subsets q3.2).toInt ≤ 8; omega), (by show -20 ≤ (Rea_end q3.2).toInt; omega), (by show (Rea_end q3.2).toInt ≤ 8000; omega), (by show (Rea_at sRea).toInt - 100 ≤ (Rea_at q3.2).toInt; omega), (by show (Rea_at q3.2).toInt ≤ 8400; omega)⟩
  · rw [i_le] at c_1
    have f_43 := I_Fld_widths I_sFld (a1.toNatClampNeg)
    have k_44 : (6 : Int32).toInt = 6 := by decide
    first | have f_45 := i_add (a := (Fld_widths sFld (a1.toNatClampNeg))) (b := 6) (by omega) (by omega) | have f_45 := i_addm (Fld_widths sFld (a1.toNatClampNeg)) 6
    first | have f_46 := i_sub (a := (Rea_end sRea)) (b := (Rea_at sRea)) (by omega) (by omega) | have f_46 := i_subm (Rea_end sRea) (Rea_at sRea)
    exact So.one ⟨(by show 1 ≤ (Rea_subsets sRea).toInt; omega), (by show (Rea_subsets sRea).toInt ≤ 8; omega), (by show -20 ≤ (Rea_end sRea).toInt; omega), (by show (Rea_end sRea).toInt ≤ 8000; omega), (by show (Rea_at sRea).toInt - 100 ≤ (Rea_at sRea).toInt; omega), (by show (Rea_at sRea).toInt ≤ 8400; omega)⟩
theorem t_Rea_endWalk {sFld : S_Fld} {a1 : Int32} {a2 : Int32} {sWalk : S_Walk} {sRea : S_Rea} (I_sFld : I_Fld sFld) (I_sWalk : I_Walk sWalk) : So (Rea_endWalk sFld a1 a2 sWalk sRea) (fun r => I_Walk r.1 ∧ ((Rea_subsets r.2).toInt = (Rea_subsets sRea).toInt) ∧ ((Rea_end r.2).toInt = (Rea_end sRea).toInt) ∧ ((Rea_at r.2).toInt = (Rea_at sRea).toInt)) := by
  unfold Rea_endWalk
  refine So.ite (fun c_1 => ?_) (fun c_1 => ?_)
  · rw [i_eq] at c_1
    have k_2 : (0 : Int32).toInt = 0 := by decide
    refine So.ite (fun c_3 => ?_) (fun c_3 => ?_)
    · rw [i_eq] at c_3
      unfold Rea_endWalk_j35
      refine So.ite (fun c_4 => ?_) (fun c_4 => ?_)
      · rw [i_eq] at c_4
        exact So.one ⟨I_sWalk, (by show (Rea_subsets sRea).toInt = (Rea_subsets sRea).toInt; omega), (by show (Rea_end sRea).toInt = (Rea_end sRea).toInt; omega), (by show (Rea_at sRea).toInt = (Rea_at sRea).toInt; omega)⟩
      · rw [i_eq] at c_4
        refine So.lt2 fun sRea_5 e_5 => ?_
        have f_6 : (Rea_subsets sRea_5).toInt = (Rea_subsets sRea).toInt := by subst e_5; rfl
        have f_7 : (Rea_at sRea_5).toInt = (Rea_at sRea).toInt := by subst e_5; rfl
        have f_8 : (Rea_end sRea_5).toInt = (Rea_end sRea).toInt := by subst e_5; rfl
        refine So.bd (t_X_placeOf ) fun q6 h_9 => ?_
        refine So.lt2 fun sRea_7 e_10 => ?_
        have f_11 : (Rea_subsets sRea_7).toInt = (Rea_subsets sRea_5).toInt := by subst e_10; rfl
        have f_12 : (Rea_at sRea_7).toInt = (Rea_at sRea_5).toInt := by subst e_10; rfl
        have f_13 : (Rea_end sRea_7).toInt = (Rea_end sRea_5).toInt := by subst e_10; rfl
        exact So.one ⟨I_sWalk, (by show (Rea_subsets sRea_7).toInt = (Rea_subsets sRea).toInt; omega), (by show (Rea_end sRea_7).toInt = (Rea_end sRea).toInt; omega), (by show (Rea_at sRea_7).toInt = (Rea_at sRea).toInt; omega)⟩
    · rw [i_eq] at c_3
      refine So.ite (fun c_14 => ?_) (fun c_14 => ?_)
      · rw [i_le] at c_14
        unfold Rea_endWalk_j35
        refine So.ite (fun c_15 => ?_) (fun c_15 => ?_)
        · rw [i_eq] at c_15
          exact So.one ⟨I_sWalk, (by show (Rea_subsets sRea).toInt = (Rea_subsets sRea).toInt; omega), (by show (Rea_end sRea).toInt = (Rea_end sRea).toInt; omega), (by show (Rea_at sRea).toInt = (Rea_at sRea).toInt; omega)⟩
        · rw [i_eq] at c_15
          refine So.lt2 fun sRea_5 e_16 => ?_
          have f_17 : (Rea_subsets sRea_5).toInt = (Rea_subsets sRea).toInt := by subst e_16; rfl
          have f_18 : (Rea_at sRea_5).toInt = (Rea_at sRea).toInt := by subst e_16; rfl
          have f_19 : (Rea_end sRea_5).toInt = (Rea_end sRea).toInt := by subst e_16; rfl
          refine So.bd (t_X_placeOf ) fun q6 h_20 => ?_
          refine So.lt2 fun sRea_7 e_21 => ?_
          have f_22 : (Rea_subsets sRea_7).toInt = (Rea_subsets sRea_5).toInt := by subst e_21; rfl
          have f_23 : (Rea_at sRea_7).toInt = (Rea_at sRea_5).toInt := by subst e_21; rfl
          have f_24 : (Rea_end sRea_7).toInt = (Rea_end sRea_5).toInt := by subst e_21; rfl
          exact So.one ⟨I_sWalk, (by show (Rea_subsets sRea_7).toInt = (Rea_subsets sRea).toInt; omega), (by show (Rea_end sRea_7).toInt = (Rea_end sRea).toInt; omega), (by show (Rea_at sRea_7).toInt = (Rea_at sRea).toInt; omega)⟩
      · rw [i_le] at c_14
        have f_25 := I_Walk_elementCount I_sWalk
        refine So.bd (t_Walk_fail I_sWalk) fun q1 h_26 => ?_
        obtain ⟨p_27, p_28, p_29, p_30, p_31⟩ := h_26
        unfold Rea_endWalk_j35
        refine So.ite (fun c_32 => ?_) (fun c_32 => ?_)
        · rw [i_eq] at c_32
          exact So.one ⟨p_27, (by show (Rea_subsets sRea).toInt = (Rea_subsets sRea).toInt; omega), (by show (Rea_end sRea).toInt = (Rea_end sRea).toInt; omega), (by show (Rea_at sRea).toInt = (Rea_at sRea).toInt; omega)⟩
        · rw [i_eq] at c_32
          refine So.lt2 fun sRea_5 e_33 => ?_
          have f_34 : (Rea_subsets sRea_5).toInt = (Rea_subsets sRea).toInt := by subst e_33; rfl
          have f_35 : (Rea_at sRea_5).toInt = (Rea_at sRea).toInt := by subst e_33; rfl
          have f_36 : (Rea_end sRea_5).toInt = (Rea_end sRea).toInt := by subst e_33; rfl
          refine So.bd (t_X_placeOf ) fun q6 h_37 => ?_
          refine So.lt2 fun sRea_7 e_38 => ?_
          have f_39 : (Rea_subsets sRea_7).toInt = (Rea_subsets sRea_5).toInt := by subst e_38; rfl
          have f_40 : (Rea_at sRea_7).toInt = (Rea_at sRea_5).toInt := by subst e_38; rfl
          have f_41 : (Rea_end sRea_7).toInt = (Rea_end sRea_5).toInt := by subst e_38; rfl
          exact So.one ⟨p_27, (by show (Rea_subsets sRea_7).toInt = (Rea_subsets sRea).toInt; omega), (by show (Rea_end sRea_7).toInt = (Rea_end sRea).toInt; omega), (by show (Rea_at sRea_7).toInt = (Rea_at sRea).toInt; omega)⟩
  · rw [i_eq] at c_1
    have k_42 : (0 : Int32).toInt = 0 := by decide
    unfold Rea_endWalk_j35
    refine So.ite (fun c_43 => ?_) (fun c_43 => ?_)
    · rw [i_eq] at c_43
      exact So.one ⟨I_sWalk, (by show (Rea_subsets sRea).toInt = (Rea_subsets sRea).toInt; omega), (by show (Rea_end sRea).toInt = (Rea_end sRea).toInt; omega), (by show (Rea_at sRea).toInt = (Rea_at sRea).toInt; omega)⟩
    · rw [i_eq] at c_43
      refine So.lt2 fun sRea_5 e_44 => ?_
      have f_45 : (Rea_subsets sRea_5).toInt = (Rea_subsets sRea).toInt := by subst e_44; rfl
      have f_46 : (Rea_at sRea_5).toInt = (Rea_at sRea).toInt := by subst e_44; rfl
      have f_47 : (Rea_end sRea_5).toInt = (Rea_end sRea).toInt := by subst e_44; rfl
      refine So.bd (t_X_placeOf ) fun q6 h_48 => ?_
      refine So.lt2 fun sRea_7 e_49 => ?_
      have f_50 : (Rea_subsets sRea_7).toInt = (Rea_subsets sRea_5).toInt := by subst e_49; rfl
      have f_51 : (Rea_at sRea_7).toInt = (Rea_at sRea_5).toInt := by subst e_49; rfl
      have f_52 : (Rea_end sRea_7).toInt = (Rea_end sRea_5).toInt := by subst e_49; rfl
      exact So.one ⟨I_sWalk, (by show (Rea_subsets sRea_7).toInt = (Rea_subsets sRea).toInt; omega), (by show (Rea_end sRea_7).toInt = (Rea_end sRea).toInt; omega), (by show (Rea_at sRea_7).toInt = (Rea_at sRea).toInt; omega)⟩
theorem t_Rea_open_L101 {fu : Nat} {sTP : S_Bits} {x1_L101 : Int32} {sRea_L101 : S_Rea} {ke_101 : (Nat → Nat → Int64) → Option (Int32 × S_Rea × (Nat → Nat → Int64))} {P : Int32 × S_Rea × (Nat → Nat → Int64) → Prop} (hf : 12000 ≤ fu) (I_sTP : I_Bits sTP) (hke_101 : ∀ (y0 : Nat → Nat → Int64), So (ke_101 y0) P) (hP : ∀ r, (r.1.toInt = 0 ∨ (1 ≤ (Rea_subsets r.2.1).toInt ∧ (Rea_subsets r.2.1).toInt ≤ 8 ∧ -20 ≤ (Rea_end r.2.1).toInt ∧ (Rea_end r.2.1).toInt ≤ 8000 ∧ (Rea_at r.2.1).toInt = 32)) → P r) : ∀ (n : Nat) (x2_L101 : Int32) (sRR_L101 : Nat → Nat → Int64), (0 ≤ x2_L101.toInt) → (x2_L101.toInt ≤ 8) → (8 - x2_L101.toInt < (n : Nat)) → So (Rea_open_L101 fu sTP x1_L101 sRea_L101 ke_101 n x2_L101 sRR_L101) P
  | 0, x2_L101, sRR_L101, l_0, l_1, l_2 => absurd l_2 (by omega)
  | n + 1, x2_L101, sRR_L101, l_0, l_1, l_2 => by
    rw [Rea_open_L101]
    refine So.ite (fun c_1 => ?_) (fun c_1 => ?_)
    · rw [i_le] at c_1
      have k_2 : (8 : Int32).toInt = 8 := by decide
      exact hke_101 _ 
    · rw [i_le] at c_1
      have k_3 : (8 : Int32).toInt = 8 := by decide
      refine So.gd (i_in.mpr (by omega)) ?_
      have k_4 : (100 : Int32).toInt = 100 := by decide
      refine So.bd (t_Arr_fill_aJJ hf (by show (100 : Int) ≤ 10000; omega)) fun q15 h_5 => ?_
      have k_6 : (1 : Int32).toInt = 1 := by decide
      first | have f_7 := i_add (a := x2_L101) (b := 1) (by omega) (by omega) | have f_7 := i_addm x2_L101 1
      exact t_Rea_open_L101 hf I_sTP hke_101 hP n _ _ (by show 0 ≤ (x2_L101 + 1).toInt; omega) (by show (x2_L101 + 1).toInt ≤ 8; omega) (by show 8 - (x2_L101 + 1).toInt < (n : Nat); omega)
theorem t_Rea_open {fu : Nat} {sTP : S_Bits} {sRea : S_Rea} {sRR : (Nat → Nat → Int64)} (hf : 12000 ≤ fu) (I_sTP : I_Bits sTP) (g_0 : (Bits_length sTP).toInt ≤ 8000) : So (Rea_open fu sTP sRea sRR) (fun r => (r.1.toInt = 0 ∨ (1 ≤ (Rea_subsets r.2.1).toInt ∧ (Rea_subsets r.2.1).toInt ≤ 8 ∧ -20 ≤ (Rea_end r.2.1).toInt ∧ (Rea_end r.2.1).toInt ≤ 8000 ∧ (Rea_at r.2.1).toInt = 32))) := by
  unfold Rea_open
  refine So.lt2 fun sRea_1 e_1 => ?_
  have k_2 : (0 : Int32).toInt = 0 := by decide
  have f_3 : (Rea_subsets sRea_1).toInt = (Rea_subsets sRea).toInt := by subst e_1; rfl
  have f_4 : (Rea_packed sRea_1).toInt = (Rea_packed sRea).toInt := by subst e_1; rfl
  have f_5 : (Rea_at sRea_1).toInt = (Rea_at sRea).toInt := by subst e_1; rfl
  have f_6 : (Rea_end sRea_1).toInt = (Rea_end sRea).toInt := by subst e_1; rfl
  refine So.lt2 fun sRea_2 e_7 => ?_
  have k_8 : ((-1) : Int32).toInt = -1 := by decide
  have f_9 : (Rea_subsets sRea_2).toInt = (Rea_subsets sRea_1).toInt := by subst e_7; rfl
  have f_10 : (Rea_packed sRea_2).toInt = (Rea_packed sRea_1).toInt := by subst e_7; rfl
  have f_11 : (Rea_at sRea_2).toInt = (Rea_at sRea_1).toInt := by subst e_7; rfl
  have f_12 : (Rea_end sRea_2).toInt = (Rea_end sRea_1).toInt := by subst e_7; rfl
  have k_13 : (1000 : Int32).toInt = 1000 := by decide
  have f_14 := I_Bits_length I_sTP
  refine So.bd (t_Bits_byteCount I_sTP (by show (1000 : Int) ≤ 3679; omega) (by show (Bits_length sTP).toInt ≤ 8 * (1000 : Int); omega)) fun q3 h_15 => ?_
  obtain ⟨p_16, p_17, p_18⟩ := h_15
  refine So.ite (fun c_19 => ?_) (fun c_19 => ?_)
  · rw [i_le] at c_19
    have k_20 : (4 : Int32).toInt = 4 := by decide
    refine So.gd (i_in.mpr (by omega)) ?_
    have k_21 : (1 : Int32).toInt = 1 := by decide
    refine So.gd (i_in.mpr (by omega)) ?_
    refine So.lt2 fun sRea_6 e_22 => ?_
    have f_23 : (Rea_subsets sRea_6).toInt = ((Bits_bytes sTP ((1 : Int32).toNatClampNeg)) : Int32).toInt := by subst e_22; rfl
    have f_24 : (Rea_packed sRea_6).toInt = (Rea_packed sRea_2).toInt := by subst e_22; rfl
    have f_25 : (Rea_at sRea_6).toInt = (Rea_at sRea_2).toInt := by subst e_22; rfl
    have f_26 : (Rea_end sRea_6).toInt = (Rea_end sRea_2).toInt := by subst e_22; rfl
    refine So.ite (fun c_27 => ?_) (fun c_27 => ?_)
    · rw [i_eq] at c_27
      have k_28 : (67 : Int32).toInt = 67 := by decide
      unfold Rea_open_j58
      refine So.gd (i_bool (a := (1 : Int32)) (by omega)) ?_
      refine So.lt2 fun sRea_9 e_29 => ?_
      have f_30 : (Rea_subsets sRea_9).toInt = (Rea_subsets sRea_6).toInt := by subst e_29; rfl
      have f_31 : (Rea_packed sRea_9).toInt = (1 : Int32).toInt := by subst e_29; rfl
      have f_32 : (Rea_at sRea_9).toInt = (Rea_at sRea_6).toInt := by subst e_29; rfl
      have f_33 : (Rea_end sRea_9).toInt = (Rea_end sRea_6).toInt := by subst e_29; rfl
      refine So.lt2 fun sRea_10 e_34 => ?_
      have k_35 : (32 : Int32).toInt = 32 := by decide
      have f_36 : (Rea_subsets sRea_10).toInt = (Rea_subsets sRea_9).toInt := by subst e_34; rfl
      have f_37 : (Rea_packed sRea_10).toInt = (Rea_packed sRea_9).toInt := by subst e_34; rfl
      have f_38 : (Rea_at sRea_10).toInt = (32 : Int32).toInt := by subst e_34; rfl
      have f_39 : (Rea_end sRea_10).toInt = (Rea_end sRea_9).toInt := by subst e_34; rfl
      have k_40 : (2 : Int32).toInt = 2 := by decide
      refine So.gd (i_in.mpr (by omega)) ?_
      have k_41 : (3 : Int32).toInt = 3 := by decide
      refine So.gd (i_in.mpr (by omega)) ?_
      refine So.lt2 fun sRea_13 e_42 => ?_
      have k_43 : (256 : Int32).toInt = 256 := by decide
      first | have f_44 := i_mull 256 (Bits_bytes sTP ((2 : Int32).toNatClampNeg)) (256) (by decide) (by omega) (by omega) | have f_44 := i_mullm 256 (Bits_bytes sTP ((2 : Int32).toNatClampNeg)) (256) (by decide)
      first | have f_45 := i_add (a := (Rea_at sRea_10)) (b := (256 * (Bits_bytes sTP ((2 : Int32).toNatClampNeg)))) (by omega) (by omega) | have f_45 := i_addm (Rea_at sRea_10) (256 * (Bits_bytes sTP ((2 : Int32).toNatClampNeg)))
      first | have f_46 := i_add (a := ((Rea_at sRea_10) + (256 * (Bits_bytes sTP ((2 : Int32).toNatClampNeg))))) (b := (Bits_bytes sTP ((3 : Int32).toNatClampNeg))) (by omega) (by omega) | have f_46 := i_addm ((Rea_at sRea_10) + (256 * (Bits_bytes sTP ((2 : Int32).toNatClampNeg)))) (Bits_bytes sTP ((3 : Int32).toNatClampNeg))
      have f_47 : (Rea_subsets sRea_13).toInt = (Rea_subsets sRea_10).toInt := by subst e_42; rfl
      have f_48 : (Rea_packed sRea_13).toInt = (Rea_packed sRea_10).toInt := by subst e_42; rfl
      have f_49 : (Rea_at sRea_13).toInt = (Rea_at sRea_10).toInt := by subst e_42; rfl
      have f_50 : (Rea_end sRea_13).toInt = ((((Rea_at sRea_10) + (256 * (Bits_bytes sTP ((2 : Int32).toNatClampNeg)))) + (Bits_bytes sTP ((3 : Int32).toNatClampNeg))) : Int32).toInt := by subst e_42; rfl
      refine t_Rea_open_L101 hf I_sTP ?_ ?_ fu _ _ (by show 0 ≤ (0 : Int32).toInt; omega) (by show (0 : Int32).toInt ≤ 8; omega) (by show 8 - (0 : Int32).toInt < (fu : Nat); omega)
      · intro zRR
        unfold Rea_open_j125
        refine So.ite (fun c_51 => ?_) (fun c_51 => ?_)
        · rw [i_eq] at c_51
          refine So.ite (fun c_52 => ?_) (fun c_52 => ?_)
          · rw [i_eq] at c_52
            have k_53 : (66 : Int32).toInt = 66 := by decide
            unfold Rea_open_j138
            refine So.ite (fun c_54 => ?_) (fun c_54 => ?_)
            · rw [i_lt] at c_54
              exact So.one (by show (0 : Int32).toInt = 0 ∨ (1 ≤ (Rea_subsets sRea_13).toInt ∧ (Rea_subsets sRea_13).toInt ≤ 8 ∧ -20 ≤ (Rea_end sRea_13).toInt ∧ (Rea_end sRea_13).toInt ≤ 8000 ∧ (Rea_at sRea_13).toInt = 32); omega)
            · rw [i_lt] at c_54
              refine So.ite (fun c_55 => ?_) (fun c_55 => ?_)
              · rw [i_lt] at c_55
                have k_56 : (8 : Int32).toInt = 8 := by decide
                exact So.one (by show (0 : Int32).toInt = 0 ∨ (1 ≤ (Rea_subsets sRea_13).toInt ∧ (Rea_subsets sRea_13).toInt ≤ 8 ∧ -20 ≤ (Rea_end sRea_13).toInt ∧ (Rea_end sRea_13).toInt ≤ 8000 ∧ (Rea_at sRea_13).toInt = 32); omega)
              · rw [i_lt] at c_55
                have k_57 : (8 : Int32).toInt = 8 := by decide
                refine So.bd (t_Bits_byteCount I_sTP (by show (1000 : Int) ≤ 3679; omega) (by show (Bits_length sTP).toInt ≤ 8 * (1000 : Int); omega)) fun q19 h_58 => ?_
                obtain ⟨p_59, p_60, p_61⟩ := h_58
                refine So.ite (fun c_62 => ?_) (fun c_62 => ?_)
                · rw [i_eq] at c_62
                  have k_63 : (7 : Int32).toInt = 7 := by decide
                  first | have f_64 := i_add (a := (Rea_end sRea_13)) (b := 7) (by omega) (by omega) | have f_64 := i_addm (Rea_end sRea_13) 7
                  first | have f_65 := i_divk ((Rea_end sRea_13) + 7) 8 8 (by decide) (by decide) (by omega) | have f_65 := i_diva ((Rea_end sRea_13) + 7) 8 8 (by decide) (by decide)
                  first | have f_66 := i_sub (a := (Bits_length sTP)) (b := (Rea_end sRea_13)) (by omega) (by omega) | have f_66 := i_subm (Bits_length sTP) (Rea_end sRea_13)
                  refine So.bd (t_Bits_numberAt hf I_sTP (by show (1000 : Int) ≤ 3679; omega) (by show (Bits_length sTP).toInt ≤ 8 * (1000 : Int); omega) (by show -1000000 ≤ (Rea_end sRea_13).toInt; omega) (by show (Rea_end sRea_13).toInt ≤ 1000000; omega) (by show -100 ≤ ((Bits_length sTP) - (Rea_end sRea_13)).toInt; omega) (by show ((Bits_length sTP) - (Rea_end sRea_13)).toInt ≤ 120; omega)) fun q20 h_67 => ?_
                  have p_68 := h_67
                  refine So.ite (fun c_69 => ?_) (fun c_69 => ?_)
                  · exact So.one (by show (1 : Int32).toInt = 0 ∨ (1 ≤ (Rea_subsets sRea_13).toInt ∧ (Rea_subsets sRea_13).toInt ≤ 8 ∧ -20 ≤ (Rea_end sRea_13).toInt ∧ (Rea_end sRea_13).toInt ≤ 8000 ∧ (Rea_at sRea_13).toInt = 32); omega)
                  · exact So.one (by show (0 : Int32).toInt = 0 ∨ (1 ≤ (Rea_subsets sRea_13).toInt ∧ (Rea_subsets sRea_13).toInt ≤ 8 ∧ -20 ≤ (Rea_end sRea_13).toInt ∧ (Rea_end sRea_13).toInt ≤ 8000 ∧ (Rea_at sRea_13).toInt = 32); omega)
                · rw [i_eq] at c_62
                  have k_70 : (7 : Int32).toInt = 7 := by decide
                  first | have f_71 := i_add (a := (Rea_end sRea_13)) (b := 7) (by omega) (by omega) | have f_71 := i_addm (Rea_end sRea_13) 7
                  first | have f_72 := i_divk ((Rea_end sRea_13) + 7) 8 8 (by decide) (by decide) (by omega) | have f_72 := i_diva ((Rea_end sRea_13) + 7) 8 8 (by decide) (by decide)
                  exact So.one (by show (0 : Int32).toInt = 0 ∨ (1 ≤ (Rea_subsets sRea_13).toInt ∧ (Rea_subsets sRea_13).toInt ≤ 8 ∧ -20 ≤ (Rea_end sRea_13).toInt ∧ (Rea_end sRea_13).toInt ≤ 8000 ∧ (Rea_at sRea_13).toInt = 32); omega)
          · rw [i_eq] at c_52
            have k_73 : (66 : Int32).toInt = 66 := by decide
            exact So.one (by show (0 : Int32).toInt = 0 ∨ (1 ≤ (Rea_subsets sRea_13).toInt ∧ (Rea_subsets sRea_13).toInt ≤ 8 ∧ -20 ≤ (Rea_end sRea_13).toInt ∧ (Rea_end sRea_13).toInt ≤ 8000 ∧ (Rea_at sRea_13).toInt = 32); omega)
        · rw [i_eq] at c_51
          unfold Rea_open_j138
          refine So.ite (fun c_74 => ?_) (fun c_74 => ?_)
          · rw [i_lt] at c_74
            exact So.one (by show (0 : Int32).toInt = 0 ∨ (1 ≤ (Rea_subsets sRea_13).toInt ∧ (Rea_subsets sRea_13).toInt ≤ 8 ∧ -20 ≤ (Rea_end sRea_13).toInt ∧ (Rea_end sRea_13).toInt ≤ 8000 ∧ (Rea_at sRea_13).toInt = 32); omega)
          · rw [i_lt] at c_74
            refine So.ite (fun c_75 => ?_) (fun c_75 => ?_)
            · rw [i_lt] at c_75
              have k_76 : (8 : Int32).toInt = 8 := by decide
              exact So.one (by show (0 : Int32).toInt = 0 ∨ (1 ≤ (Rea_subsets sRea_13).toInt ∧ (Rea_subsets sRea_13).toInt ≤ 8 ∧ -20 ≤ (Rea_end sRea_13).toInt ∧ (Rea_end sRea_13).toInt ≤ 8000 ∧ (Rea_at sRea_13).toInt = 32); omega)
            · rw [i_lt] at c_75
              have k_77 : (8 : Int32).toInt = 8 := by decide
              refine So.bd (t_Bits_byteCount I_sTP (by show (1000 : Int) ≤ 3679; omega) (by show (Bits_length sTP).toInt ≤ 8 * (1000 : Int); omega)) fun q19 h_78 => ?_
              obtain ⟨p_79, p_80, p_81⟩ := h_78
              refine So.ite (fun c_82 => ?_) (fun c_82 => ?_)
              · rw [i_eq] at c_82
                have k_83 : (7 : Int32).toInt = 7 := by decide
                first | have f_84 := i_add (a := (Rea_end sRea_13)) (b := 7) (by omega) (by omega) | have f_84 := i_addm (Rea_end sRea_13) 7
                first | have f_85 := i_divk ((Rea_end sRea_13) + 7) 8 8 (by decide) (by decide) (by omega) | have f_85 := i_diva ((Rea_end sRea_13) + 7) 8 8 (by decide) (by decide)
                first | have f_86 := i_sub (a := (Bits_length sTP)) (b := (Rea_end sRea_13)) (by omega) (by omega) | have f_86 := i_subm (Bits_length sTP) (Rea_end sRea_13)
                refine So.bd (t_Bits_numberAt hf I_sTP (by show (1000 : Int) ≤ 3679; omega) (by show (Bits_length sTP).toInt ≤ 8 * (1000 : Int); omega) (by show -1000000 ≤ (Rea_end sRea_13).toInt; omega) (by show (Rea_end sRea_13).toInt ≤ 1000000; omega) (by show -100 ≤ ((Bits_length sTP) - (Rea_end sRea_13)).toInt; omega) (by show ((Bits_length sTP) - (Rea_end sRea_13)).toInt ≤ 120; omega)) fun q20 h_87 => ?_
                have p_88 := h_87
                refine So.ite (fun c_89 => ?_) (fun c_89 => ?_)
                · exact So.one (by show (1 : Int32).toInt = 0 ∨ (1 ≤ (Rea_subsets sRea_13).toInt ∧ (Rea_subsets sRea_13).toInt ≤ 8 ∧ -20 ≤ (Rea_end sRea_13).toInt ∧ (Rea_end sRea_13).toInt ≤ 8000 ∧ (Rea_at sRea_13).toInt = 32); omega)
                · exact So.one (by show (0 : Int32).toInt = 0 ∨ (1 ≤ (Rea_subsets sRea_13).toInt ∧ (Rea_subsets sRea_13).toInt ≤ 8 ∧ -20 ≤ (Rea_end sRea_13).toInt ∧ (Rea_end sRea_13).toInt ≤ 8000 ∧ (Rea_at sRea_13).toInt = 32); omega)
              · rw [i_eq] at c_82
                have k_90 : (7 : Int32).toInt = 7 := by decide
                first | have f_91 := i_add (a := (Rea_end sRea_13)) (b := 7) (by omega) (by omega) | have f_91 := i_addm (Rea_end sRea_13) 7
                first | have f_92 := i_divk ((Rea_end sRea_13) + 7) 8 8 (by decide) (by decide) (by omega) | have f_92 := i_diva ((Rea_end sRea_13) + 7) 8 8 (by decide) (by decide)
                exact So.one (by show (0 : Int32).toInt = 0 ∨ (1 ≤ (Rea_subsets sRea_13).toInt ∧ (Rea_subsets sRea_13).toInt ≤ 8 ∧ -20 ≤ (Rea_end sRea_13).toInt ∧ (Rea_end sRea_13).toInt ≤ 8000 ∧ (Rea_at sRea_13).toInt = 32); omega)
      · intro q_z h_z
        have p_93 := h_z
        exact (by show q_z.1.toInt = 0 ∨ (1 ≤ (Rea_subsets q_z.2.1).toInt ∧ (Rea_subsets q_z.2.1).toInt ≤ 8 ∧ -20 ≤ (Rea_end q_z.2.1).toInt ∧ (Rea_end q_z.2.1).toInt ≤ 8000 ∧ (Rea_at q_z.2.1).toInt = 32); omega)
    · rw [i_eq] at c_27
      have k_94 : (67 : Int32).toInt = 67 := by decide
      unfold Rea_open_j58
      refine So.gd (i_bool (a := (0 : Int32)) (by omega)) ?_
      refine So.lt2 fun sRea_9 e_95 => ?_
      have f_96 : (Rea_subsets sRea_9).toInt = (Rea_subsets sRea_6).toInt := by subst e_95; rfl
      have f_97 : (Rea_packed sRea_9).toInt = (0 : Int32).toInt := by subst e_95; rfl
      have f_98 : (Rea_at sRea_9).toInt = (Rea_at sRea_6).toInt := by subst e_95; rfl
      have f_99 : (Rea_end sRea_9).toInt = (Rea_end sRea_6).toInt := by subst e_95; rfl
      refine So.lt2 fun sRea_10 e_100 => ?_
      have k_101 : (32 : Int32).toInt = 32 := by decide
      have f_102 : (Rea_subsets sRea_10).toInt = (Rea_subsets sRea_9).toInt := by subst e_100; rfl
      have f_103 : (Rea_packed sRea_10).toInt = (Rea_packed sRea_9).toInt := by subst e_100; rfl
      have f_104 : (Rea_at sRea_10).toInt = (32 : Int32).toInt := by subst e_100; rfl
      have f_105 : (Rea_end sRea_10).toInt = (Rea_end sRea_9).toInt := by subst e_100; rfl
      have k_106 : (2 : Int32).toInt = 2 := by decide
      refine So.gd (i_in.mpr (by omega)) ?_
      have k_107 : (3 : Int32).toInt = 3 := by decide
      refine So.gd (i_in.mpr (by omega)) ?_
      refine So.lt2 fun sRea_13 e_108 => ?_
      have k_109 : (256 : Int32).toInt = 256 := by decide
      first | have f_110 := i_mull 256 (Bits_bytes sTP ((2 : Int32).toNatClampNeg)) (256) (by decide) (by omega) (by omega) | have f_110 := i_mullm 256 (Bits_bytes sTP ((2 : Int32).toNatClampNeg)) (256) (by decide)
      first | have f_111 := i_add (a := (Rea_at sRea_10)) (b := (256 * (Bits_bytes sTP ((2 : Int32).toNatClampNeg)))) (by omega) (by omega) | have f_111 := i_addm (Rea_at sRea_10) (256 * (Bits_bytes sTP ((2 : Int32).toNatClampNeg)))
      first | have f_112 := i_add (a := ((Rea_at sRea_10) + (256 * (Bits_bytes sTP ((2 : Int32).toNatClampNeg))))) (b := (Bits_bytes sTP ((3 : Int32).toNatClampNeg))) (by omega) (by omega) | have f_112 := i_addm ((Rea_at sRea_10) + (256 * (Bits_bytes sTP ((2 : Int32).toNatClampNeg)))) (Bits_bytes sTP ((3 : Int32).toNatClampNeg))
      have f_113 : (Rea_subsets sRea_13).toInt = (Rea_subsets sRea_10).toInt := by subst e_108; rfl
      have f_114 : (Rea_packed sRea_13).toInt = (Rea_packed sRea_10).toInt := by subst e_108; rfl
      have f_115 : (Rea_at sRea_13).toInt = (Rea_at sRea_10).toInt := by subst e_108; rfl
      have f_116 : (Rea_end sRea_13).toInt = ((((Rea_at sRea_10) + (256 * (Bits_bytes sTP ((2 : Int32).toNatClampNeg)))) + (Bits_bytes sTP ((3 : Int32).toNatClampNeg))) : Int32).toInt := by subst e_108; rfl
      refine t_Rea_open_L101 hf I_sTP ?_ ?_ fu _ _ (by show 0 ≤ (0 : Int32).toInt; omega) (by show (0 : Int32).toInt ≤ 8; omega) (by show 8 - (0 : Int32).toInt < (fu : Nat); omega)
      · intro zRR
        unfold Rea_open_j125
        refine So.ite (fun c_117 => ?_) (fun c_117 => ?_)
        · rw [i_eq] at c_117
          refine So.ite (fun c_118 => ?_) (fun c_118 => ?_)
          · rw [i_eq] at c_118
            have k_119 : (66 : Int32).toInt = 66 := by decide
            unfold Rea_open_j138
            refine So.ite (fun c_120 => ?_) (fun c_120 => ?_)
            · rw [i_lt] at c_120
              exact So.one (by show (0 : Int32).toInt = 0 ∨ (1 ≤ (Rea_subsets sRea_13).toInt ∧ (Rea_subsets sRea_13).toInt ≤ 8 ∧ -20 ≤ (Rea_end sRea_13).toInt ∧ (Rea_end sRea_13).toInt ≤ 8000 ∧ (Rea_at sRea_13).toInt = 32); omega)
            · rw [i_lt] at c_120
              refine So.ite (fun c_121 => ?_) (fun c_121 => ?_)
              · rw [i_lt] at c_121
                have k_122 : (8 : Int32).toInt = 8 := by decide
                exact So.one (by show (0 : Int32).toInt = 0 ∨ (1 ≤ (Rea_subsets sRea_13).toInt ∧ (Rea_subsets sRea_13).toInt ≤ 8 ∧ -20 ≤ (Rea_end sRea_13).toInt ∧ (Rea_end sRea_13).toInt ≤ 8000 ∧ (Rea_at sRea_13).toInt = 32); omega)
              · rw [i_lt] at c_121
                have k_123 : (8 : Int32).toInt = 8 := by decide
                refine So.bd (t_Bits_byteCount I_sTP (by show (1000 : Int) ≤ 3679; omega) (by show (Bits_length sTP).toInt ≤ 8 * (1000 : Int); omega)) fun q19 h_124 => ?_
                obtain ⟨p_125, p_126, p_127⟩ := h_124
                refine So.ite (fun c_128 => ?_) (fun c_128 => ?_)
                · rw [i_eq] at c_128
                  have k_129 : (7 : Int32).toInt = 7 := by decide
                  first | have f_130 := i_add (a := (Rea_end sRea_13)) (b := 7) (by omega) (by omega) | have f_130 := i_addm (Rea_end sRea_13) 7
                  first | have f_131 := i_divk ((Rea_end sRea_13) + 7) 8 8 (by decide) (by decide) (by omega) | have f_131 := i_diva ((Rea_end sRea_13) + 7) 8 8 (by decide) (by decide)
                  first | have f_132 := i_sub (a := (Bits_length sTP)) (b := (Rea_end sRea_13)) (by omega) (by omega) | have f_132 := i_subm (Bits_length sTP) (Rea_end sRea_13)
                  refine So.bd (t_Bits_numberAt hf I_sTP (by show (1000 : Int) ≤ 3679; omega) (by show (Bits_length sTP).toInt ≤ 8 * (1000 : Int); omega) (by show -1000000 ≤ (Rea_end sRea_13).toInt; omega) (by show (Rea_end sRea_13).toInt ≤ 1000000; omega) (by show -100 ≤ ((Bits_length sTP) - (Rea_end sRea_13)).toInt; omega) (by show ((Bits_length sTP) - (Rea_end sRea_13)).toInt ≤ 120; omega)) fun q20 h_133 => ?_
                  have p_134 := h_133
                  refine So.ite (fun c_135 => ?_) (fun c_135 => ?_)
                  · exact So.one (by show (1 : Int32).toInt = 0 ∨ (1 ≤ (Rea_subsets sRea_13).toInt ∧ (Rea_subsets sRea_13).toInt ≤ 8 ∧ -20 ≤ (Rea_end sRea_13).toInt ∧ (Rea_end sRea_13).toInt ≤ 8000 ∧ (Rea_at sRea_13).toInt = 32); omega)
                  · exact So.one (by show (0 : Int32).toInt = 0 ∨ (1 ≤ (Rea_subsets sRea_13).toInt ∧ (Rea_subsets sRea_13).toInt ≤ 8 ∧ -20 ≤ (Rea_end sRea_13).toInt ∧ (Rea_end sRea_13).toInt ≤ 8000 ∧ (Rea_at sRea_13).toInt = 32); omega)
                · rw [i_eq] at c_128
                  have k_136 : (7 : Int32).toInt = 7 := by decide
                  first | have f_137 := i_add (a := (Rea_end sRea_13)) (b := 7) (by omega) (by omega) | have f_137 := i_addm (Rea_end sRea_13) 7
                  first | have f_138 := i_divk ((Rea_end sRea_13) + 7) 8 8 (by decide) (by decide) (by omega) | have f_138 := i_diva ((Rea_end sRea_13) + 7) 8 8 (by decide) (by decide)
                  exact So.one (by show (0 : Int32).toInt = 0 ∨ (1 ≤ (Rea_subsets sRea_13).toInt ∧ (Rea_subsets sRea_13).toInt ≤ 8 ∧ -20 ≤ (Rea_end sRea_13).toInt ∧ (Rea_end sRea_13).toInt ≤ 8000 ∧ (Rea_at sRea_13).toInt = 32); omega)
          · rw [i_eq] at c_118
            have k_139 : (66 : Int32).toInt = 66 := by decide
            exact So.one (by show (0 : Int32).toInt = 0 ∨ (1 ≤ (Rea_subsets sRea_13).toInt ∧ (Rea_subsets sRea_13).toInt ≤ 8 ∧ -20 ≤ (Rea_end sRea_13).toInt ∧ (Rea_end sRea_13).toInt ≤ 8000 ∧ (Rea_at sRea_13).toInt = 32); omega)
        · rw [i_eq] at c_117
          unfold Rea_open_j138
          refine So.ite (fun c_140 => ?_) (fun c_140 => ?_)
          · rw [i_lt] at c_140
            exact So.one (by show (0 : Int32).toInt = 0 ∨ (1 ≤ (Rea_subsets sRea_13).toInt ∧ (Rea_subsets sRea_13).toInt ≤ 8 ∧ -20 ≤ (Rea_end sRea_13).toInt ∧ (Rea_end sRea_13).toInt ≤ 8000 ∧ (Rea_at sRea_13).toInt = 32); omega)
          · rw [i_lt] at c_140
            refine So.ite (fun c_141 => ?_) (fun c_141 => ?_)
            · rw [i_lt] at c_141
              have k_142 : (8 : Int32).toInt = 8 := by decide
              exact So.one (by show (0 : Int32).toInt = 0 ∨ (1 ≤ (Rea_subsets sRea_13).toInt ∧ (Rea_subsets sRea_13).toInt ≤ 8 ∧ -20 ≤ (Rea_end sRea_13).toInt ∧ (Rea_end sRea_13).toInt ≤ 8000 ∧ (Rea_at sRea_13).toInt = 32); omega)
            · rw [i_lt] at c_141
              have k_143 : (8 : Int32).toInt = 8 := by decide
              refine So.bd (t_Bits_byteCount I_sTP (by show (1000 : Int) ≤ 3679; omega) (by show (Bits_length sTP).toInt ≤ 8 * (1000 : Int); omega)) fun q19 h_144 => ?_
              obtain ⟨p_145, p_146, p_147⟩ := h_144
              refine So.ite (fun c_148 => ?_) (fun c_148 => ?_)
              · rw [i_eq] at c_148
                have k_149 : (7 : Int32).toInt = 7 := by decide
                first | have f_150 := i_add (a := (Rea_end sRea_13)) (b := 7) (by omega) (by omega) | have f_150 := i_addm (Rea_end sRea_13) 7
                first | have f_151 := i_divk ((Rea_end sRea_13) + 7) 8 8 (by decide) (by decide) (by omega) | have f_151 := i_diva ((Rea_end sRea_13) + 7) 8 8 (by decide) (by decide)
                first | have f_152 := i_sub (a := (Bits_length sTP)) (b := (Rea_end sRea_13)) (by omega) (by omega) | have f_152 := i_subm (Bits_length sTP) (Rea_end sRea_13)
                refine So.bd (t_Bits_numberAt hf I_sTP (by show (1000 : Int) ≤ 3679; omega) (by show (Bits_length sTP).toInt ≤ 8 * (1000 : Int); omega) (by show -1000000 ≤ (Rea_end sRea_13).toInt; omega) (by show (Rea_end sRea_13).toInt ≤ 1000000; omega) (by show -100 ≤ ((Bits_length sTP) - (Rea_end sRea_13)).toInt; omega) (by show ((Bits_length sTP) - (Rea_end sRea_13)).toInt ≤ 120; omega)) fun q20 h_153 => ?_
                have p_154 := h_153
                refine So.ite (fun c_155 => ?_) (fun c_155 => ?_)
                · exact So.one (by show (1 : Int32).toInt = 0 ∨ (1 ≤ (Rea_subsets sRea_13).toInt ∧ (Rea_subsets sRea_13).toInt ≤ 8 ∧ -20 ≤ (Rea_end sRea_13).toInt ∧ (Rea_end sRea_13).toInt ≤ 8000 ∧ (Rea_at sRea_13).toInt = 32); omega)
                · exact So.one (by show (0 : Int32).toInt = 0 ∨ (1 ≤ (Rea_subsets sRea_13).toInt ∧ (Rea_subsets sRea_13).toInt ≤ 8 ∧ -20 ≤ (Rea_end sRea_13).toInt ∧ (Rea_end sRea_13).toInt ≤ 8000 ∧ (Rea_at sRea_13).toInt = 32); omega)
              · rw [i_eq] at c_148
                have k_156 : (7 : Int32).toInt = 7 := by decide
                first | have f_157 := i_add (a := (Rea_end sRea_13)) (b := 7) (by omega) (by omega) | have f_157 := i_addm (Rea_end sRea_13) 7
                first | have f_158 := i_divk ((Rea_end sRea_13) + 7) 8 8 (by decide) (by decide) (by omega) | have f_158 := i_diva ((Rea_end sRea_13) + 7) 8 8 (by decide) (by decide)
                exact So.one (by show (0 : Int32).toInt = 0 ∨ (1 ≤ (Rea_subsets sRea_13).toInt ∧ (Rea_subsets sRea_13).toInt ≤ 8 ∧ -20 ≤ (Rea_end sRea_13).toInt ∧ (Rea_end sRea_13).toInt ≤ 8000 ∧ (Rea_at sRea_13).toInt = 32); omega)
      · intro q_z h_z
        have p_159 := h_z
        exact (by show q_z.1.toInt = 0 ∨ (1 ≤ (Rea_subsets q_z.2.1).toInt ∧ (Rea_subsets q_z.2.1).toInt ≤ 8 ∧ -20 ≤ (Rea_end q_z.2.1).toInt ∧ (Rea_end q_z.2.1).toInt ≤ 8000 ∧ (Rea_at q_z.2.1).toInt = 32); omega)
  · rw [i_le] at c_19
    have k_160 : (4 : Int32).toInt = 4 := by decide
    exact So.one (by show (0 : Int32).toInt = 0 ∨ (1 ≤ (Rea_subsets sRea_2).toInt ∧ (Rea_subsets sRea_2).toInt ≤ 8 ∧ -20 ≤ (Rea_end sRea_2).toInt ∧ (Rea_end sRea_2).toInt ≤ 8000 ∧ (Rea_at sRea_2).toInt = 32); omega)
theorem t_Rea_takePlain_L23 {fu : Nat} {sTab : S_Tab} {sProg : S_Prog} {sTP : S_Bits} {x2_L23 : Int32} {ke_23 : S_Walk → S_Fld → S_Lps → S_Rea → (Nat → Nat → Int64) → Option (S_Walk × S_Fld × S_Lps × S_Rea × (Nat → Nat → Int64))} {P : S_Walk × S_Fld × S_Lps × S_Rea × (Nat → Nat → Int64) → Prop} (hf : 12000 ≤ fu) (I_sTab : I_Tab sTab) (I_sProg : I_Prog sProg) (I_sTP : I_Bits sTP) (g_0 : (Bits_length sTP).toInt ≤ 8000) (g_1 : 0 ≤ x2_L23.toInt) (g_2 : x2_L23.toInt < 8) (hke_23 : ∀ (y0 : S_Walk) (y1 : S_Fld) (y2 : S_Lps) (y3 : S_Rea) (y4 : Nat → Nat → Int64), I_Walk y0 → I_Fld y1 → I_Lps y2 → (1 ≤ (Rea_subsets y3).toInt) → ((Rea_subsets y3).toInt ≤ 8) → (-20 ≤ (Rea_end y3).toInt) → ((Rea_end y3).toInt ≤ 8000) → (-(10000 * x2_L23.toInt + 10000) ≤ (Rea_at y3).toInt) → ((Rea_at y3).toInt ≤ 8000) → So (ke_23 y0 y1 y2 y3 y4) P) (hP : ∀ r, I_Walk r.1 ∧ I_Fld r.2.1 ∧ I_Lps r.2.2.1 ∧ (1 ≤ (Rea_subsets r.2.2.2.1).toInt) ∧ ((Rea_subsets r.2.2.2.1).toInt ≤ 8) ∧ (-20 ≤ (Rea_end r.2.2.2.1).toInt) ∧ ((Rea_end r.2.2.2.1).toInt ≤ 8000) → P r) : ∀ (n : Nat) (x3_L23 : Int32) (sWalk_L23 : S_Walk) (sFld_L23 : S_Fld) (sLps_L23 : S_Lps) (sRea_L23 : S_Rea) (sRR_L23 : Nat → Nat → Int64), I_Walk sWalk_L23 → I_Fld sFld_L23 → I_Lps sLps_L23 → (0 ≤ x3_L23.toInt) → (x3_L23.toInt ≤ 100) → ((Walk_elementCount sWalk_L23).toInt ≤ (Fld_count sFld_L23).toInt) → ((Walk_dueKind sWalk_L23).toInt ≠ 3 ∨ (1 ≤ (Walk_dueBits sWalk_L23).toInt ∧ (Walk_dueBits sWalk_L23).toInt ≤ (Walk_elementCount sWalk_L23).toInt)) → ((Walk_dueKind sWalk_L23).toInt < 0 ∨ 3 ≤ (Walk_dueKind sWalk_L23).toInt ∨ (0 ≤ (Walk_dueCode sWalk_L23).toInt ∧ (Walk_dueCode sWalk_L23).toInt < 64)) → (1 ≤ (Rea_subsets sRea_L23).toInt) → ((Rea_subsets sRea_L23).toInt ≤ 8) → (-20 ≤ (Rea_end sRea_L23).toInt) → ((Rea_end sRea_L23).toInt ≤ 8000) → (-(10000 * x2_L23.toInt + 100 * x3_L23.toInt) ≤ (Rea_at sRea_L23).toInt) → ((Rea_at sRea_L23).toInt ≤ 8000) → (100 - x3_L23.toInt < (n : Nat)) → So (Rea_takePlain_L23 fu sTab sProg sTP x2_L23 ke_23 n x3_L23 sWalk_L23 sFld_L23 sLps_L23 sRea_L23 sRR_L23) P
  | 0, x3_L23, sWalk_L23, sFld_L23, sLps_L23, sRea_L23, sRR_L23, I_sWalk_L23, I_sFld_L23, I_sLps_L23, l_0, l_1, l_2, l_3, l_4, l_5, l_6, l_7, l_8, l_9, l_10, l_11 => absurd l_11 (by omega)
  | n + 1, x3_L23, sWalk_L23, sFld_L23, sLps_L23, sRea_L23, sRR_L23, I_sWalk_L23, I_sFld_L23, I_sLps_L23, l_0, l_1, l_2, l_3, l_4, l_5, l_6, l_7, l_8, l_9, l_10, l_11 => by
    rw [Rea_takePlain_L23]
    have f_1 := I_Walk_elementCount I_sWalk_L23
    have f_2 := I_Fld_count I_sFld_L23
    refine So.bd (t_Walk_advance hf I_sTab I_sProg I_sWalk_L23 I_sFld_L23 I_sLps_L23 (by show (Walk_elementCount sWalk_L23).toInt ≤ (Fld_count sFld_L23).toInt; omega) (by show (Walk_dueKind sWalk_L23).toInt ≠ 3 ∨ (1 ≤ (Walk_dueBits sWalk_L23).toInt ∧ (Walk_dueBits sWalk_L23).toInt ≤ (Walk_elementCount sWalk_L23).toInt); omega) (by show (Walk_dueKind sWalk_L23).toInt < 0 ∨ 3 ≤ (Walk_dueKind sWalk_L23).toInt ∨ (0 ≤ (Walk_dueCode sWalk_L23).toInt ∧ (Walk_dueCode sWalk_L23).toInt < 64); omega)) fun q2 h_3 => ?_
    obtain ⟨p_4, p_5, p_6, p_7, p_8, p_9, p_10⟩ := h_3
    refine So.ite (fun c_11 => ?_) (fun c_11 => ?_)
    · rw [i_eq] at c_11
      have k_12 : (0 : Int32).toInt = 0 := by decide
      exact hke_23 _ _ _ _ _ p_4 p_5 p_6 (by show 1 ≤ (Rea_subsets sRea_L23).toInt; omega) (by show (Rea_subsets sRea_L23).toInt ≤ 8; omega) (by show -20 ≤ (Rea_end sRea_L23).toInt; omega) (by show (Rea_end sRea_L23).toInt ≤ 8000; omega) (by show -(10000 * x2_L23.toInt + 10000) ≤ (Rea_at sRea_L23).toInt; omega) (by show (Rea_at sRea_L23).toInt ≤ 8000; omega)
    · rw [i_eq] at c_11
      have k_13 : (0 : Int32).toInt = 0 := by decide
      refine So.ite (fun c_14 => ?_) (fun c_14 => ?_)
      · rw [i_le] at c_14
        have k_15 : (100 : Int32).toInt = 100 := by decide
        exact hke_23 _ _ _ _ _ p_4 p_5 p_6 (by show 1 ≤ (Rea_subsets sRea_L23).toInt; omega) (by show (Rea_subsets sRea_L23).toInt ≤ 8; omega) (by show -20 ≤ (Rea_end sRea_L23).toInt; omega) (by show (Rea_end sRea_L23).toInt ≤ 8000; omega) (by show -(10000 * x2_L23.toInt + 10000) ≤ (Rea_at sRea_L23).toInt; omega) (by show (Rea_at sRea_L23).toInt ≤ 8000; omega)
      · rw [i_le] at c_14
        have k_16 : (100 : Int32).toInt = 100 := by decide
        refine So.gd (i_in.mpr (by omega)) ?_
        have f_17 := I_Bits_length I_sTP
        refine So.bd (t_Rea_takePlainValue hf p_5 I_sTP (by show (Bits_length sTP).toInt ≤ 8000; omega) (by show 1 ≤ (Rea_subsets sRea_L23).toInt; omega) (by show (Rea_subsets sRea_L23).toInt ≤ 8; omega) (by show -20 ≤ (Rea_end sRea_L23).toInt; omega) (by show (Rea_end sRea_L23).toInt ≤ 8000; omega) (by show -200000 ≤ (Rea_at sRea_L23).toInt; omega) (by show (Rea_at sRea_L23).toInt ≤ 10000; omega) (by show 0 ≤ x3_L23.toInt; omega) (by show x3_L23.toInt < 100; omega) (by show (100 : Int) = 100; omega)) fun q4 h_18 => ?_
        obtain ⟨p_19, p_20, p_21, p_22⟩ := h_18
        refine So.ite (fun c_23 => ?_) (fun c_23 => ?_)
        · rw [i_eq] at c_23
          have f_24 := I_Walk_elementCount p_4
          refine So.bd (t_Walk_fail p_4) fun q5 h_25 => ?_
          obtain ⟨p_26, p_27, p_28, p_29, p_30⟩ := h_25
          unfold Rea_takePlain_j76
          have k_31 : (1 : Int32).toInt = 1 := by decide
          first | have f_32 := i_add (a := x3_L23) (b := 1) (by omega) (by omega) | have f_32 := i_addm x3_L23 1
          have f_33 := I_Walk_elementCount p_26
          have f_34 := I_Fld_count p_5
          exact t_Rea_takePlain_L23 hf I_sTab I_sProg I_sTP (by show (Bits_length sTP).toInt ≤ 8000; omega) (by show 0 ≤ x2_L23.toInt; omega) (by show x2_L23.toInt < 8; omega) hke_23 hP n _ _ _ _ _ _ p_26 p_5 p_6 (by show 0 ≤ (x3_L23 + 1).toInt; omega) (by show (x3_L23 + 1).toInt ≤ 100; omega) (by show (Walk_elementCount q5).toInt ≤ (Fld_count q2.2.2.1).toInt; omega) (by show (Walk_dueKind q5).toInt ≠ 3 ∨ (1 ≤ (Walk_dueBits q5).toInt ∧ (Walk_dueBits q5).toInt ≤ (Walk_elementCount q5).toInt); omega) (by show (Walk_dueKind q5).toInt < 0 ∨ 3 ≤ (Walk_dueKind q5).toInt ∨ (0 ≤ (Walk_dueCode q5).toInt ∧ (Walk_dueCode q5).toInt < 64); omega) (by show 1 ≤ (Rea_subsets q4.2.1).toInt; omega) (by show (Rea_subsets q4.2.1).toInt ≤ 8; omega) (by show -20 ≤ (Rea_end q4.2.1).toInt; omega) (by show (Rea_end q4.2.1).toInt ≤ 8000; omega) (by show -(10000 * x2_L23.toInt + 100 * (x3_L23 + 1).toInt) ≤ (Rea_at q4.2.1).toInt; omega) (by show (Rea_at q4.2.1).toInt ≤ 8000; omega) (by show 100 - (x3_L23 + 1).toInt < (n : Nat); omega)
        · rw [i_eq] at c_23
          refine So.gd (i_in.mpr (by omega)) ?_
          refine So.gd (i_in.mpr (by omega)) ?_
          have f_35 := I_Fld_count p_5
          have f_36 := I_Walk_elementCount p_4
          refine So.bd (t_Walk_settle p_5 p_4 p_6 (by show (Walk_elementCount q2.2.1).toInt ≤ (Fld_count q2.2.2.1).toInt; omega) (by show (Walk_dueKind q2.2.1).toInt ≠ 3 ∨ (1 ≤ (Walk_dueBits q2.2.1).toInt ∧ (Walk_dueBits q2.2.1).toInt ≤ (Walk_elementCount q2.2.1).toInt); omega) (by show (Walk_dueKind q2.2.1).toInt < 0 ∨ 3 ≤ (Walk_dueKind q2.2.1).toInt ∨ (0 ≤ (Walk_dueCode q2.2.1).toInt ∧ (Walk_dueCode q2.2.1).toInt < 64); omega) (by show (Fld_kinds q2.2.2.1 ((Fld_count q2.2.2.1) - 1).toNatClampNeg).toInt ≠ 3 ∨ (0 ≤ (Fld_targets q2.2.2.1 ((Fld_count q2.2.2.1) - 1).toNatClampNeg).toInt ∧ (Fld_targets q2.2.2.1 ((Fld_count q2.2.2.1) - 1).toNatClampNeg).toInt ≤ 99); omega)) fun q8 h_37 => ?_
          obtain ⟨p_38, p_39, p_40, p_41, p_42⟩ := h_37
          unfold Rea_takePlain_j76
          have k_43 : (1 : Int32).toInt = 1 := by decide
          first | have f_44 := i_add (a := x3_L23) (b := 1) (by omega) (by omega) | have f_44 := i_addm x3_L23 1
          have f_45 := I_Walk_elementCount p_38
          exact t_Rea_takePlain_L23 hf I_sTab I_sProg I_sTP (by show (Bits_length sTP).toInt ≤ 8000; omega) (by show 0 ≤ x2_L23.toInt; omega) (by show x2_L23.toInt < 8; omega) hke_23 hP n _ _ _ _ _ _ p_38 p_5 p_39 (by show 0 ≤ (x3_L23 + 1).toInt; omega) (by show (x3_L23 + 1).toInt ≤ 100; omega) (by show (Walk_elementCount q8.1).toInt ≤ (Fld_count q2.2.2.1).toInt; omega) (by show (Walk_dueKind q8.1).toInt ≠ 3 ∨ (1 ≤ (Walk_dueBits q8.1).toInt ∧ (Walk_dueBits q8.1).toInt ≤ (Walk_elementCount q8.1).toInt); omega) (by show (Walk_dueKind q8.1).toInt < 0 ∨ 3 ≤ (Walk_dueKind q8.1).toInt ∨ (0 ≤ (Walk_dueCode q8.1).toInt ∧ (Walk_dueCode q8.1).toInt < 64); omega) (by show 1 ≤ (Rea_subsets q4.2.1).toInt; omega) (by show (Rea_subsets q4.2.1).toInt ≤ 8; omega) (by show -20 ≤ (Rea_end q4.2.1).toInt; omega) (by show (Rea_end q4.2.1).toInt ≤ 8000; omega) (by show -(10000 * x2_L23.toInt + 100 * (x3_L23 + 1).toInt) ≤ (Rea_at q4.2.1).toInt; omega) (by show (Rea_at q4.2.1).toInt ≤ 8000; omega) (by show 100 - (x3_L23 + 1).toInt < (n : Nat); omega)
theorem t_Rea_takePlain_L2 {fu : Nat} {sTab : S_Tab} {sProg : S_Prog} {sTP : S_Bits} (hf : 12000 ≤ fu) (I_sTab : I_Tab sTab) (I_sProg : I_Prog sProg) (I_sTP : I_Bits sTP) (g_0 : (Bits_length sTP).toInt ≤ 8000) : ∀ (n : Nat) (x2_L2 : Int32) (sWalk_L2 : S_Walk) (sFld_L2 : S_Fld) (sLps_L2 : S_Lps) (sRea_L2 : S_Rea) (sRR_L2 : Nat → Nat → Int64), I_Walk sWalk_L2 → I_Fld sFld_L2 → I_Lps sLps_L2 → (0 ≤ x2_L2.toInt) → (x2_L2.toInt ≤ 8) → (1 ≤ (Rea_subsets sRea_L2).toInt) → ((Rea_subsets sRea_L2).toInt ≤ 8) → (-20 ≤ (Rea_end sRea_L2).toInt) → ((Rea_end sRea_L2).toInt ≤ 8000) → (-(10000 * x2_L2.toInt) ≤ (Rea_at sRea_L2).toInt) → ((Rea_at sRea_L2).toInt ≤ 8000) → (8 - x2_L2.toInt < (n : Nat)) → So (Rea_takePlain_L2 fu sTab sProg sTP n x2_L2 sWalk_L2 sFld_L2 sLps_L2 sRea_L2 sRR_L2) (fun r => I_Walk r.1 ∧ I_Fld r.2.1 ∧ I_Lps r.2.2.1 ∧ (1 ≤ (Rea_subsets r.2.2.2.1).toInt) ∧ ((Rea_subsets r.2.2.2.1).toInt ≤ 8) ∧ (-20 ≤ (Rea_end r.2.2.2.1).toInt) ∧ ((Rea_end r.2.2.2.1).toInt ≤ 8000))
  | 0, x2_L2, sWalk_L2, sFld_L2, sLps_L2, sRea_L2, sRR_L2, I_sWalk_L2, I_sFld_L2, I_sLps_L2, l_0, l_1, l_2, l_3, l_4, l_5, l_6, l_7, l_8 => absurd l_8 (by omega)
  | n + 1, x2_L2, sWalk_L2, sFld_L2, sLps_L2, sRea_L2, sRR_L2, I_sWalk_L2, I_sFld_L2, I_sLps_L2, l_0, l_1, l_2, l_3, l_4, l_5, l_6, l_7, l_8 => by
    rw [Rea_takePlain_L2]
    refine So.ite (fun c_1 => ?_) (fun c_1 => ?_)
    · rw [i_le] at c_1
      exact So.one ⟨I_sWalk_L2, I_sFld_L2, I_sLps_L2, (by show 1 ≤ (Rea_subsets sRea_L2).toInt; omega), (by show (Rea_subsets sRea_L2).toInt ≤ 8; omega), (by show -20 ≤ (Rea_end sRea_L2).toInt; omega), (by show (Rea_end sRea_L2).toInt ≤ 8000; omega)⟩
    · rw [i_le] at c_1
      refine So.ite (fun c_2 => ?_) (fun c_2 => ?_)
      · rw [i_eq] at c_2
        have k_3 : (0 : Int32).toInt = 0 := by decide
        refine So.bd (t_Walk_begin hf I_sWalk_L2 I_sFld_L2 I_sLps_L2) fun q1 h_4 => ?_
        obtain ⟨p_5, p_6, p_7, p_8, p_9, p_10⟩ := h_4
        have f_11 := I_Bits_length I_sTP
        have f_12 := I_Walk_elementCount p_5
        have f_13 := I_Fld_count p_6
        refine t_Rea_takePlain_L23 hf I_sTab I_sProg I_sTP (by show (Bits_length sTP).toInt ≤ 8000; omega) (by show 0 ≤ x2_L2.toInt; omega) (by show x2_L2.toInt < 8; omega) ?_ ?_ fu _ _ _ _ _ _ p_5 p_6 p_7 (by show 0 ≤ (0 : Int32).toInt; omega) (by show (0 : Int32).toInt ≤ 100; omega) (by show (Walk_elementCount q1.1).toInt ≤ (Fld_count q1.2.1).toInt; omega) (by show (Walk_dueKind q1.1).toInt ≠ 3 ∨ (1 ≤ (Walk_dueBits q1.1).toInt ∧ (Walk_dueBits q1.1).toInt ≤ (Walk_elementCount q1.1).toInt); omega) (by show (Walk_dueKind q1.1).toInt < 0 ∨ 3 ≤ (Walk_dueKind q1.1).toInt ∨ (0 ≤ (Walk_dueCode q1.1).toInt ∧ (Walk_dueCode q1.1).toInt < 64); omega) (by show 1 ≤ (Rea_subsets sRea_L2).toInt; omega) (by show (Rea_subsets sRea_L2).toInt ≤ 8; omega) (by show -20 ≤ (Rea_end sRea_L2).toInt; omega) (by show (Rea_end sRea_L2).toInt ≤ 8000; omega) (by show -(10000 * x2_L2.toInt + 100 * (0 : Int32).toInt) ≤ (Rea_at sRea_L2).toInt; omega) (by show (Rea_at sRea_L2).toInt ≤ 8000; omega) (by show 100 - (0 : Int32).toInt < (fu : Nat); omega)
        · intro zWalk zFld zLps zRea zRR I_14 I_15 I_16 p_17 p_18 p_19 p_20 p_21 p_22
          unfold Rea_takePlain_j82
          refine So.ite (fun c_23 => ?_) (fun c_23 => ?_)
          · rw [i_eq] at c_23
            have k_24 : (1 : Int32).toInt = 1 := by decide
            first | have f_25 := i_sub (a := (Rea_subsets zRea)) (b := 1) (by omega) (by omega) | have f_25 := i_subm (Rea_subsets zRea) 1
            unfold Rea_takePlain_j100
            refine So.bd (t_Rea_endWalk I_15 I_14) fun q15 h_26 => ?_
            obtain ⟨p_27, p_28, p_29, p_30⟩ := h_26
            first | have f_31 := i_add (a := x2_L2) (b := 1) (by omega) (by omega) | have f_31 := i_addm x2_L2 1
            exact t_Rea_takePlain_L2 hf I_sTab I_sProg I_sTP (by show (Bits_length sTP).toInt ≤ 8000; omega)   n _ _ _ _ _ _ p_27 I_15 I_16 (by show 0 ≤ (x2_L2 + 1).toInt; omega) (by show (x2_L2 + 1).toInt ≤ 8; omega) (by show 1 ≤ (Rea_subsets q15.2).toInt; omega) (by show (Rea_subsets q15.2).toInt ≤ 8; omega) (by show -20 ≤ (Rea_end q15.2).toInt; omega) (by show (Rea_end q15.2).toInt ≤ 8000; omega) (by show -(10000 * (x2_L2 + 1).toInt) ≤ (Rea_at q15.2).toInt; omega) (by show (Rea_at q15.2).toInt ≤ 8000; omega) (by show 8 - (x2_L2 + 1).toInt < (n : Nat); omega)
          · rw [i_eq] at c_23
            have k_32 : (1 : Int32).toInt = 1 := by decide
            first | have f_33 := i_sub (a := (Rea_subsets zRea)) (b := 1) (by omega) (by omega) | have f_33 := i_subm (Rea_subsets zRea) 1
            unfold Rea_takePlain_j100
            refine So.bd (t_Rea_endWalk I_15 I_14) fun q15 h_34 => ?_
            obtain ⟨p_35, p_36, p_37, p_38⟩ := h_34
            first | have f_39 := i_add (a := x2_L2) (b := 1) (by omega) (by omega) | have f_39 := i_addm x2_L2 1
            exact t_Rea_takePlain_L2 hf I_sTab I_sProg I_sTP (by show (Bits_length sTP).toInt ≤ 8000; omega)   n _ _ _ _ _ _ p_35 I_15 I_16 (by show 0 ≤ (x2_L2 + 1).toInt; omega) (by show (x2_L2 + 1).toInt ≤ 8; omega) (by show 1 ≤ (Rea_subsets q15.2).toInt; omega) (by show (Rea_subsets q15.2).toInt ≤ 8; omega) (by show -20 ≤ (Rea_end q15.2).toInt; omega) (by show (Rea_end q15.2).toInt ≤ 8000; omega) (by show -(10000 * (x2_L2 + 1).toInt) ≤ (Rea_at q15.2).toInt; omega) (by show (Rea_at q15.2).toInt ≤ 8000; omega) (by show 8 - (x2_L2 + 1).toInt < (n : Nat); omega)
        · intro q_z h_z
          obtain ⟨p_40, p_41, p_42, p_43, p_44, p_45, p_46⟩ := h_z
          exact ⟨p_40, p_41, p_42, (by show 1 ≤ (Rea_subsets q_z.2.2.2.1).toInt; omega), (by show (Rea_subsets q_z.2.2.2.1).toInt ≤ 8; omega), (by show -20 ≤ (Rea_end q_z.2.2.2.1).toInt; omega), (by show (Rea_end q_z.2.2.2.1).toInt ≤ 8000; omega)⟩
      · rw [i_eq] at c_2
        have k_47 : (0 : Int32).toInt = 0 := by decide
        exact So.one ⟨I_sWalk_L2, I_sFld_L2, I_sLps_L2, (by show 1 ≤ (Rea_subsets sRea_L2).toInt; omega), (by show (Rea_subsets sRea_L2).toInt ≤ 8; omega), (by show -20 ≤ (Rea_end sRea_L2).toInt; omega), (by show (Rea_end sRea_L2).toInt ≤ 8000; omega)⟩
theorem t_Rea_takePlain {fu : Nat} {sTab : S_Tab} {sProg : S_Prog} {sTP : S_Bits} {sWalk : S_Walk} {sFld : S_Fld} {sLps : S_Lps} {sRea : S_Rea} {sRR : (Nat → Nat → Int64)} (hf : 12000 ≤ fu) (I_sTab : I_Tab sTab) (I_sProg : I_Prog sProg) (I_sTP : I_Bits sTP) (I_sWalk : I_Walk sWalk) (I_sFld : I_Fld sFld) (I_sLps : I_Lps sLps) (g_0 : (Bits_length sTP).toInt ≤ 8000) (g_1 : 1 ≤ (Rea_subsets sRea).toInt) (g_2 : (Rea_subsets sRea).toInt ≤ 8) (g_3 : -20 ≤ (Rea_end sRea).toInt) (g_4 : (Rea_end sRea).toInt ≤ 8000) (g_5 : (Rea_at sRea).toInt = 32) : So (Rea_takePlain fu sTab sProg sTP sWalk sFld sLps sRea sRR) (fun r => I_Walk r.1 ∧ I_Fld r.2.1 ∧ I_Lps r.2.2.1 ∧ (1 ≤ (Rea_subsets r.2.2.2.1).toInt) ∧ ((Rea_subsets r.2.2.2.1).toInt ≤ 8) ∧ (-20 ≤ (Rea_end r.2.2.2.1).toInt) ∧ ((Rea_end r.2.2.2.1).toInt ≤ 8000)) := by
  unfold Rea_takePlain
  have f_1 := I_Bits_length I_sTP
  have k_2 : (0 : Int32).toInt = 0 := by decide
  refine So.imp (t_Rea_takePlain_L2 hf I_sTab I_sProg I_sTP (by show (Bits_length sTP).toInt ≤ 8000; omega) fu _ _ _ _ _ _ I_sWalk I_sFld I_sLps (by show 0 ≤ (0 : Int32).toInt; omega) (by show (0 : Int32).toInt ≤ 8; omega) (by show 1 ≤ (Rea_subsets sRea).toInt; omega) (by show (Rea_subsets sRea).toInt ≤ 8; omega) (by show -20 ≤ (Rea_end sRea).toInt; omega) (by show (Rea_end sRea).toInt ≤ 8000; omega) (by show -(10000 * (0 : Int32).toInt) ≤ (Rea_at sRea).toInt; omega) (by show (Rea_at sRea).toInt ≤ 8000; omega) (by show 8 - (0 : Int32).toInt < (fu : Nat); omega)) fun q_z h_z => ?_
  obtain ⟨p_3, p_4, p_5, p_6, p_7, p_8, p_9⟩ := h_z
  exact ⟨p_3, p_4, p_5, (by show 1 ≤ (Rea_subsets q_z.2.2.2.1).toInt; omega), (by show (Rea_subsets q_z.2.2.2.1).toInt ≤ 8; omega), (by show -20 ≤ (Rea_end q_z.2.2.2.1).toInt; omega), (by show (Rea_end q_z.2.2.2.1).toInt ≤ 8000; omega)⟩
theorem t_Rea_takePacked_L6 {fu : Nat} {sTab : S_Tab} {sProg : S_Prog} {sTP : S_Bits} (hf : 12000 ≤ fu) (I_sTab : I_Tab sTab) (I_sProg : I_Prog sProg) (I_sTP : I_Bits sTP) (g_0 : (Bits_length sTP).toInt ≤ 8000) : ∀ (n : Nat) (x2_L6 : Int32) (sWalk_L6 : S_Walk) (sFld_L6 : S_Fld) (sLps_L6 : S_Lps) (sRea_L6 : S_Rea) (sRR_L6 : Nat → Nat → Int64), I_Walk sWalk_L6 → I_Fld sFld_L6 → I_Lps sLps_L6 → (0 ≤ x2_L6.toInt) → (x2_L6.toInt ≤ 100) → ((Walk_elementCount sWalk_L6).toInt ≤ (Fld_count sFld_L6).toInt) → ((Walk_dueKind sWalk_L6).toInt ≠ 3 ∨ (1 ≤ (Walk_dueBits sWalk_L6).toInt ∧ (Walk_dueBits sWalk_L6).toInt ≤ (Walk_elementCount sWalk_L6).toInt)) → ((Walk_dueKind sWalk_L6).toInt < 0 ∨ 3 ≤ (Walk_dueKind sWalk_L6).toInt ∨ (0 ≤ (Walk_dueCode sWalk_L6).toInt ∧ (Walk_dueCode sWalk_L6).toInt < 64)) → (1 ≤ (Rea_subsets sRea_L6).toInt) → ((Rea_subsets sRea_L6).toInt ≤ 8) → (-20 ≤ (Rea_end sRea_L6).toInt) → ((Rea_end sRea_L6).toInt ≤ 8000) → (-(100 * x2_L6.toInt) ≤ (Rea_at sRea_L6).toInt) → ((Rea_at sRea_L6).toInt ≤ 8400) → (100 - x2_L6.toInt < (n : Nat)) → So (Rea_takePacked_L6 fu sTab sProg sTP n x2_L6 sWalk_L6 sFld_L6 sLps_L6 sRea_L6 sRR_L6) (fun r => I_Walk r.1 ∧ I_Fld r.2.1 ∧ I_Lps r.2.2.1 ∧ (1 ≤ (Rea_subsets r.2.2.2.1).toInt) ∧ ((Rea_subsets r.2.2.2.1).toInt ≤ 8) ∧ (-20 ≤ (Rea_end r.2.2.2.1).toInt) ∧ ((Rea_end r.2.2.2.1).toInt ≤ 8000))
  | 0, x2_L6, sWalk_L6, sFld_L6, sLps_L6, sRea_L6, sRR_L6, I_sWalk_L6, I_sFld_L6, I_sLps_L6, l_0, l_1, l_2, l_3, l_4, l_5, l_6, l_7, l_8, l_9, l_10, l_11 => absurd l_11 (by omega)
  | n + 1, x2_L6, sWalk_L6, sFld_L6, sLps_L6, sRea_L6, sRR_L6, I_sWalk_L6, I_sFld_L6, I_sLps_L6, l_0, l_1, l_2, l_3, l_4, l_5, l_6, l_7, l_8, l_9, l_10, l_11 => by
    rw [Rea_takePacked_L6]
    have f_1 := I_Walk_elementCount I_sWalk_L6
    have f_2 := I_Fld_count I_sFld_L6
    refine So.bd (t_Walk_advance hf I_sTab I_sProg I_sWalk_L6 I_sFld_L6 I_sLps_L6 (by show (Walk_elementCount sWalk_L6).toInt ≤ (Fld_count sFld_L6).toInt; omega) (by show (Walk_dueKind sWalk_L6).toInt ≠ 3 ∨ (1 ≤ (Walk_dueBits sWalk_L6).toInt ∧ (Walk_dueBits sWalk_L6).toInt ≤ (Walk_elementCount sWalk_L6).toInt); omega) (by show (Walk_dueKind sWalk_L6).toInt < 0 ∨ 3 ≤ (Walk_dueKind sWalk_L6).toInt ∨ (0 ≤ (Walk_dueCode sWalk_L6).toInt ∧ (Walk_dueCode sWalk_L6).toInt < 64); omega)) fun q2 h_3 => ?_
    obtain ⟨p_4, p_5, p_6, p_7, p_8, p_9, p_10⟩ := h_3
    refine So.ite (fun c_11 => ?_) (fun c_11 => ?_)
    · rw [i_eq] at c_11
      have k_12 : (0 : Int32).toInt = 0 := by decide
      refine So.bd (t_Rea_endWalk p_5 p_4) fun q3 h_13 => ?_
      obtain ⟨p_14, p_15, p_16, p_17⟩ := h_13
      exact So.one ⟨p_14, p_5, p_6, (by show 1 ≤ (Rea_subsets q3.2).toInt; omega), (by show (Rea_subsets q3.2).toInt ≤ 8; omega), (by show -20 ≤ (Rea_end q3.2).toInt; omega), (by show (Rea_end q3.2).toInt ≤ 8000; omega)⟩
    · rw [i_eq] at c_11
      have k_18 : (0 : Int32).toInt = 0 := by decide
      refine So.ite (fun c_19 => ?_) (fun c_19 => ?_)
      · rw [i_le] at c_19
        have k_20 : (100 : Int32).toInt = 100 := by decide
        refine So.bd (t_Rea_endWalk p_5 p_4) fun q4 h_21 => ?_
        obtain ⟨p_22, p_23, p_24, p_25⟩ := h_21
        exact So.one ⟨p_22, p_5, p_6, (by show 1 ≤ (Rea_subsets q4.2).toInt; omega), (by show (Rea_subsets q4.2).toInt ≤ 8; omega), (by show -20 ≤ (Rea_end q4.2).toInt; omega), (by show (Rea_end q4.2).toInt ≤ 8000; omega)⟩
      · rw [i_le] at c_19
        have k_26 : (100 : Int32).toInt = 100 := by decide
        have f_27 := I_Bits_length I_sTP
        refine So.bd (t_Rea_takePackedValues hf p_5 I_sTP (by show (Bits_length sTP).toInt ≤ 8000; omega) (by show 1 ≤ (Rea_subsets sRea_L6).toInt; omega) (by show (Rea_subsets sRea_L6).toInt ≤ 8; omega) (by show -20 ≤ (Rea_end sRea_L6).toInt; omega) (by show (Rea_end sRea_L6).toInt ≤ 8000; omega) (by show 0 ≤ x2_L6.toInt; omega) (by show x2_L6.toInt < 100; omega) (by show -190000 ≤ (Rea_at sRea_L6).toInt; omega) (by show (Rea_at sRea_L6).toInt ≤ 8400; omega)) fun q5 h_28 => ?_
        obtain ⟨p_29, p_30, p_31, p_32, p_33, p_34⟩ := h_28
        refine So.ite (fun c_35 => ?_) (fun c_35 => ?_)
        · rw [i_eq] at c_35
          have f_36 := I_Walk_elementCount p_4
          refine So.bd (t_Walk_fail p_4) fun q6 h_37 => ?_
          obtain ⟨p_38, p_39, p_40, p_41, p_42⟩ := h_37
          unfold Rea_takePacked_j53
          have k_43 : (1 : Int32).toInt = 1 := by decide
          first | have f_44 := i_add (a := x2_L6) (b := 1) (by omega) (by omega) | have f_44 := i_addm x2_L6 1
          have f_45 := I_Walk_elementCount p_38
          have f_46 := I_Fld_count p_5
          exact t_Rea_takePacked_L6 hf I_sTab I_sProg I_sTP (by show (Bits_length sTP).toInt ≤ 8000; omega)   n _ _ _ _ _ _ p_38 p_5 p_6 (by show 0 ≤ (x2_L6 + 1).toInt; omega) (by show (x2_L6 + 1).toInt ≤ 100; omega) (by show (Walk_elementCount q6).toInt ≤ (Fld_count q2.2.2.1).toInt; omega) (by show (Walk_dueKind q6).toInt ≠ 3 ∨ (1 ≤ (Walk_dueBits q6).toInt ∧ (Walk_dueBits q6).toInt ≤ (Walk_elementCount q6).toInt); omega) (by show (Walk_dueKind q6).toInt < 0 ∨ 3 ≤ (Walk_dueKind q6).toInt ∨ (0 ≤ (Walk_dueCode q6).toInt ∧ (Walk_dueCode q6).toInt < 64); omega) (by show 1 ≤ (Rea_subsets q5.2.1).toInt; omega) (by show (Rea_subsets q5.2.1).toInt ≤ 8; omega) (by show -20 ≤ (Rea_end q5.2.1).toInt; omega) (by show (Rea_end q5.2.1).toInt ≤ 8000; omega) (by show -(100 * (x2_L6 + 1).toInt) ≤ (Rea_at q5.2.1).toInt; omega) (by show (Rea_at q5.2.1).toInt ≤ 8400; omega) (by show 100 - (x2_L6 + 1).toInt < (n : Nat); omega)
        · rw [i_eq] at c_35
          refine So.gd (i_in.mpr (by omega)) ?_
          refine So.gd (i_in.mpr (by omega)) ?_
          have f_47 := I_Fld_count p_5
          have f_48 := I_Walk_elementCount p_4
          refine So.bd (t_Walk_settle p_5 p_4 p_6 (by show (Walk_elementCount q2.2.1).toInt ≤ (Fld_count q2.2.2.1).toInt; omega) (by show (Walk_dueKind q2.2.1).toInt ≠ 3 ∨ (1 ≤ (Walk_dueBits q2.2.1).toInt ∧ (Walk_dueBits q2.2.1).toInt ≤ (Walk_elementCount q2.2.1).toInt); omega) (by show (Walk_dueKind q2.2.1).toInt < 0 ∨ 3 ≤ (Walk_dueKind q2.2.1).toInt ∨ (0 ≤ (Walk_dueCode q2.2.1).toInt ∧ (Walk_dueCode q2.2.1).toInt < 64); omega) (by show (Fld_kinds q2.2.2.1 ((Fld_count q2.2.2.1) - 1).toNatClampNeg).toInt ≠ 3 ∨ (0 ≤ (Fld_targets q2.2.2.1 ((Fld_count q2.2.2.1) - 1).toNatClampNeg).toInt ∧ (Fld_targets q2.2.2.1 ((Fld_count q2.2.2.1) - 1).toNatClampNeg).toInt ≤ 99); omega)) fun q9 h_49 => ?_
          obtain ⟨p_50, p_51, p_52, p_53, p_54⟩ := h_49
          unfold Rea_takePacked_j53
          have k_55 : (1 : Int32).toInt = 1 := by decide
          first | have f_56 := i_add (a := x2_L6) (b := 1) (by omega) (by omega) | have f_56 := i_addm x2_L6 1
          have f_57 := I_Walk_elementCount p_50
          exact t_Rea_takePacked_L6 hf I_sTab I_sProg I_sTP (by show (Bits_length sTP).toInt ≤ 8000; omega)   n _ _ _ _ _ _ p_50 p_5 p_51 (by show 0 ≤ (x2_L6 + 1).toInt; omega) (by show (x2_L6 + 1).toInt ≤ 100; omega) (by show (Walk_elementCount q9.1).toInt ≤ (Fld_count q2.2.2.1).toInt; omega) (by show (Walk_dueKind q9.1).toInt ≠ 3 ∨ (1 ≤ (Walk_dueBits q9.1).toInt ∧ (Walk_dueBits q9.1).toInt ≤ (Walk_elementCount q9.1).toInt); omega) (by show (Walk_dueKind q9.1).toInt < 0 ∨ 3 ≤ (Walk_dueKind q9.1).toInt ∨ (0 ≤ (Walk_dueCode q9.1).toInt ∧ (Walk_dueCode q9.1).toInt < 64); omega) (by show 1 ≤ (Rea_subsets q5.2.1).toInt; omega) (by show (Rea_subsets q5.2.1).toInt ≤ 8; omega) (by show -20 ≤ (Rea_end q5.2.1).toInt; omega) (by show (Rea_end q5.2.1).toInt ≤ 8000; omega) (by show -(100 * (x2_L6 + 1).toInt) ≤ (Rea_at q5.2.1).toInt; omega) (by show (Rea_at q5.2.1).toInt ≤ 8400; omega) (by show 100 - (x2_L6 + 1).toInt < (n : Nat); omega)
theorem t_Rea_takePacked {fu : Nat} {sTab : S_Tab} {sProg : S_Prog} {sTP : S_Bits} {sWalk : S_Walk} {sFld : S_Fld} {sLps : S_Lps} {sRea : S_Rea} {sRR : (Nat → Nat → Int64)} (hf : 12000 ≤ fu) (I_sTab : I_Tab sTab) (I_sProg : I_Prog sProg) (I_sTP : I_Bits sTP) (I_sWalk : I_Walk sWalk) (I_sFld : I_Fld sFld) (I_sLps : I_Lps sLps) (g_0 : (Bits_length sTP).toInt ≤ 8000) (g_1 : 1 ≤ (Rea_subsets sRea).toInt) (g_2 : (Rea_subsets sRea).toInt ≤ 8) (g_3 : -20 ≤ (Rea_end sRea).toInt) (g_4 : (Rea_end sRea).toInt ≤ 8000) (g_5 : (Rea_at sRea).toInt = 32) : So (Rea_takePacked fu sTab sProg sTP sWalk sFld sLps sRea sRR) (fun r => I_Walk r.1 ∧ I_Fld r.2.1 ∧ I_Lps r.2.2.1 ∧ (1 ≤ (Rea_subsets r.2.2.2.1).toInt) ∧ ((Rea_subsets r.2.2.2.1).toInt ≤ 8) ∧ (-20 ≤ (Rea_end r.2.2.2.1).toInt) ∧ ((Rea_end r.2.2.2.1).toInt ≤ 8000)) := by
  unfold Rea_takePacked
  refine So.bd (t_Walk_begin hf I_sWalk I_sFld I_sLps) fun q1 h_1 => ?_
  obtain ⟨p_2, p_3, p_4, p_5, p_6, p_7⟩ := h_1
  have f_8 := I_Bits_length I_sTP
  have k_9 : (0 : Int32).toInt = 0 := by decide
  have f_10 := I_Walk_elementCount p_2
  have f_11 := I_Fld_count p_3
  refine So.imp (t_Rea_takePacked_L6 hf I_sTab I_sProg I_sTP (by show (Bits_length sTP).toInt ≤ 8000; omega) fu _ _ _ _ _ _ p_2 p_3 p_4 (by show 0 ≤ (0 : Int32).toInt; omega) (by show (0 : Int32).toInt ≤ 100; omega) (by show (Walk_elementCount q1.1).toInt ≤ (Fld_count q1.2.1).toInt; omega) (by show (Walk_dueKind q1.1).toInt ≠ 3 ∨ (1 ≤ (Walk_dueBits q1.1).toInt ∧ (Walk_dueBits q1.1).toInt ≤ (Walk_elementCount q1.1).toInt); omega) (by show (Walk_dueKind q1.1).toInt < 0 ∨ 3 ≤ (Walk_dueKind q1.1).toInt ∨ (0 ≤ (Walk_dueCode q1.1).toInt ∧ (Walk_dueCode q1.1).toInt < 64); omega) (by show 1 ≤ (Rea_subsets sRea).toInt; omega) (by show (Rea_subsets sRea).toInt ≤ 8; omega) (by show -20 ≤ (Rea_end sRea).toInt; omega) (by show (Rea_end sRea).toInt ≤ 8000; omega) (by show -(100 * (0 : Int32).toInt) ≤ (Rea_at sRea).toInt; omega) (by show (Rea_at sRea).toInt ≤ 8400; omega) (by show 100 - (0 : Int32).toInt < (fu : Nat); omega)) fun q_z h_z => ?_
  obtain ⟨p_12, p_13, p_14, p_15, p_16, p_17, p_18⟩ := h_z
  exact ⟨p_12, p_13, p_14, (by show 1 ≤ (Rea_subsets q_z.2.2.2.1).toInt; omega), (by show (Rea_subsets q_z.2.2.2.1).toInt ≤ 8; omega), (by show -20 ≤ (Rea_end q_z.2.2.2.1).toInt; omega), (by show (Rea_end q_z.2.2.2.1).toInt ≤ 8000; omega)⟩

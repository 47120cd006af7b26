set_option maxHeartbeats 4000000 in
theorem t_Mod_unpack_L93 {fu : Nat} {sMtape : (Nat → Int32)} {x1_L93 : Int32} {sMo_L93 : S_Mo} (hf : 12000 ≤ fu) (I_sMtape : A_Mtape sMtape) (I_sMo_L93 : I_Mo sMo_L93) (g_0 : 4 ≤ x1_L93.toInt) (g_1 : x1_L93.toInt ≤ 1000) : ∀ (n : Nat) (x2_L93 : Int32) (x3_L93 : Int32) (sMbits_L93 : Nat → Int32), (0 ≤ x3_L93.toInt) → (x3_L93.toInt ≤ 8 * (x1_L93.toInt - 4)) → (x2_L93.toInt = 0 ∨ x2_L93.toInt = 1) → (8 * (x1_L93.toInt - 4) - x3_L93.toInt < (n : Nat)) → So (Mod_unpack_L93 fu sMtape x1_L93 sMo_L93 n x2_L93 x3_L93 sMbits_L93) (fun r => I_Mo r.2.1 ∧ ((Mo_open r.2.1).toInt = (Mo_open sMo_L93).toInt) ∧ ((Mo_looked r.2.1).toInt = (Mo_looked sMo_L93).toInt) ∧ ((Mo_fields r.2.1).toInt = (Mo_fields sMo_L93).toInt) ∧ ((Mo_elements r.2.1).toInt = (Mo_elements sMo_L93).toInt) ∧ ((Mo_pointed r.2.1).toInt = (Mo_pointed sMo_L93).toInt) ∧ ((Mo_pointer r.2.1).toInt = (Mo_pointer sMo_L93).toInt) ∧ ((Mo_mode r.2.1).toInt = (Mo_mode sMo_L93).toInt) ∧ ((Mo_subset r.2.1).toInt = (Mo_subset sMo_L93).toInt) ∧ ((Mo_subsets r.2.1).toInt = (Mo_subsets sMo_L93).toInt) ∧ ((Mo_many r.2.1).toInt = (Mo_many sMo_L93).toInt) ∧ ((Mo_at r.2.1).toInt = (Mo_at sMo_L93).toInt) ∧ KM r.2.1 sMo_L93 ∧ ((Mo_fault r.2.1).toInt = (Mo_fault sMo_L93).toInt))
  | 0, x2_L93, x3_L93, sMbits_L93, l_0, l_1, l_2, l_3 => absurd l_3 (by omega)
  | n + 1, x2_L93, x3_L93, sMbits_L93, l_0, l_1, l_2, l_3 => by
    rw [Mod_unpack_L93]
    have f_1 := I_Mo_many I_sMo_L93
    refine So.ite (fun c_2 => ?_) (fun c_2 => ?_)
    · rw [i_le] at c_2
      have k_3 : (8 : Int32).toInt = 8 := by decide
      have k_4 : (4 : Int32).toInt = 4 := by decide
      first | have f_5 := i_sub (a := x1_L93) (b := 4) (by omega) (by omega) | have f_5 := i_subm x1_L93 4
      first | have f_6 := i_mull 8 (x1_L93 - 4) (8) (by decide) (by omega) (by omega) | have f_6 := i_mullm 8 (x1_L93 - 4) (8) (by decide)
      refine So.gd (i_bool (a := x2_L93) (by omega)) ?_
      exact So.one ⟨I_sMo_L93, (by show (Mo_open sMo_L93).toInt = (Mo_open sMo_L93).toInt; omega), (by show (Mo_looked sMo_L93).toInt = (Mo_looked sMo_L93).toInt; omega), (by show (Mo_fields sMo_L93).toInt = (Mo_fields sMo_L93).toInt; omega), (by show (Mo_elements sMo_L93).toInt = (Mo_elements sMo_L93).toInt; omega), (by show (Mo_pointed sMo_L93).toInt = (Mo_pointed sMo_L93).toInt; omega), (by show (Mo_pointer sMo_L93).toInt = (Mo_pointer sMo_L93).toInt; omega), (by show (Mo_mode sMo_L93).toInt = (Mo_mode sMo_L93).toInt; omega), (by show (Mo_subset sMo_L93).toInt = (Mo_subset sMo_L93).toInt; omega), (by show (Mo_subsets sMo_L93).toInt = (Mo_subsets sMo_L93).toInt; omega), (by show (Mo_many sMo_L93).toInt = (Mo_many sMo_L93).toInt; omega), (by show (Mo_at sMo_L93).toInt = (Mo_at sMo_L93).toInt; omega), (KM.refl _), (by show (Mo_fault sMo_L93).toInt = (Mo_fault sMo_L93).toInt; omega)⟩
    · rw [i_le] at c_2
      have k_7 : (8 : Int32).toInt = 8 := by decide
      have k_8 : (4 : Int32).toInt = 4 := by decide
      first | have f_9 := i_sub (a := x1_L93) (b := 4) (by omega) (by omega) | have f_9 := i_subm x1_L93 4
      first | have f_10 := i_mull 8 (x1_L93 - 4) (8) (by decide) (by omega) (by omega) | have f_10 := i_mullm 8 (x1_L93 - 4) (8) (by decide)
      first | have f_11 := i_divk x3_L93 8 8 (by decide) (by decide) (by omega) | have f_11 := i_diva x3_L93 8 8 (by decide) (by decide)
      first | have f_12 := i_add (a := 4) (b := (x3_L93 / 8)) (by omega) (by omega) | have f_12 := i_addm 4 (x3_L93 / 8)
      refine So.gd (i_in.mpr (by omega)) ?_
      refine So.ite (fun c_13 => ?_) (fun c_13 => ?_)
      · rw [i_eq] at c_13
        have f_14 := A_Mtape_at I_sMtape ((4 + (x3_L93 / 8)).toNatClampNeg)
        have k_15 : (7 : Int32).toInt = 7 := by decide
        first | have f_16 := i_mulr (x3_L93 / 8) 8 (8) (by decide) (by omega) (by omega) | have f_16 := i_mulrm (x3_L93 / 8) 8 (8) (by decide)
        first | have f_17 := i_sub (a := x3_L93) (b := ((x3_L93 / 8) * 8)) (by omega) (by omega) | have f_17 := i_subm x3_L93 ((x3_L93 / 8) * 8)
        first | have f_18 := i_sub (a := 7) (b := (x3_L93 - ((x3_L93 / 8) * 8))) (by omega) (by omega) | have f_18 := i_subm 7 (x3_L93 - ((x3_L93 / 8) * 8))
        have k_19 : (31 : Int32).toInt = 31 := by decide
        have f_20 := i_andm (7 - (x3_L93 - ((x3_L93 / 8) * 8))) 31 (by decide)
        have k_21 : (1 : Int32).toInt = 1 := by decide
        have f_22 := i_andm ((sMtape ((4 + (x3_L93 / 8)).toNatClampNeg)) >>> ((7 - (x3_L93 - ((x3_L93 / 8) * 8))) &&& 31)) 1 (by decide)
        unfold Mod_unpack_j133
        refine So.ite (fun c_23 => ?_) (fun c_23 => ?_)
        · rw [i_le] at c_23
          have f_24 := I_Mo_many I_sMo_L93
          refine So.ite (fun c_25 => ?_) (fun c_25 => ?_)
          · rw [i_eq] at c_25
            have k_26 : (0 : Int32).toInt = 0 := by decide
            unfold Mod_unpack_j167
            unfold Mod_unpack_j168
            unfold Mod_unpack_j169
            first | have f_27 := i_add (a := x3_L93) (b := 1) (by omega) (by omega) | have f_27 := i_addm x3_L93 1
            exact t_Mod_unpack_L93 hf I_sMtape I_sMo_L93 (by show 4 ≤ x1_L93.toInt; omega) (by show x1_L93.toInt ≤ 1000; omega)   n _ _ _ (by show 0 ≤ (x3_L93 + 1).toInt; omega) (by show (x3_L93 + 1).toInt ≤ 8 * (x1_L93.toInt - 4); omega) (by show (0 : Int32).toInt = 0 ∨ (0 : Int32).toInt = 1; omega) (by show 8 * (x1_L93.toInt - 4) - (x3_L93 + 1).toInt < (n : Nat); omega)
          · rw [i_eq] at c_25
            have k_28 : (0 : Int32).toInt = 0 := by decide
            refine So.neg (by decide) ?_
            unfold Mod_unpack_j167
            unfold Mod_unpack_j168
            unfold Mod_unpack_j169
            first | have f_30 := i_add (a := x3_L93) (b := 1) (by omega) (by omega) | have f_30 := i_addm x3_L93 1
            exact t_Mod_unpack_L93 hf I_sMtape I_sMo_L93 (by show 4 ≤ x1_L93.toInt; omega) (by show x1_L93.toInt ≤ 1000; omega)   n _ _ _ (by show 0 ≤ (x3_L93 + 1).toInt; omega) (by show (x3_L93 + 1).toInt ≤ 8 * (x1_L93.toInt - 4); omega) (by show (0 : Int32).toInt = 0 ∨ (0 : Int32).toInt = 1; omega) (by show 8 * (x1_L93.toInt - 4) - (x3_L93 + 1).toInt < (n : Nat); omega)
        · rw [i_le] at c_23
          have f_31 := I_Mo_many I_sMo_L93
          refine So.gd (i_in.mpr (by omega)) ?_
          refine So.lt2 fun sMbits_17 e_32 => ?_
          unfold Mod_unpack_j169
          first | have f_33 := i_add (a := x3_L93) (b := 1) (by omega) (by omega) | have f_33 := i_addm x3_L93 1
          exact t_Mod_unpack_L93 hf I_sMtape I_sMo_L93 (by show 4 ≤ x1_L93.toInt; omega) (by show x1_L93.toInt ≤ 1000; omega)   n _ _ _ (by show 0 ≤ (x3_L93 + 1).toInt; omega) (by show (x3_L93 + 1).toInt ≤ 8 * (x1_L93.toInt - 4); omega) (by show x2_L93.toInt = 0 ∨ x2_L93.toInt = 1; omega) (by show 8 * (x1_L93.toInt - 4) - (x3_L93 + 1).toInt < (n : Nat); omega)
      · rw [i_eq] at c_13
        have f_34 := A_Mtape_at I_sMtape ((4 + (x3_L93 / 8)).toNatClampNeg)
        have k_35 : (7 : Int32).toInt = 7 := by decide
        first | have f_36 := i_mulr (x3_L93 / 8) 8 (8) (by decide) (by omega) (by omega) | have f_36 := i_mulrm (x3_L93 / 8) 8 (8) (by decide)
        first | have f_37 := i_sub (a := x3_L93) (b := ((x3_L93 / 8) * 8)) (by omega) (by omega) | have f_37 := i_subm x3_L93 ((x3_L93 / 8) * 8)
        first | have f_38 := i_sub (a := 7) (b := (x3_L93 - ((x3_L93 / 8) * 8))) (by omega) (by omega) | have f_38 := i_subm 7 (x3_L93 - ((x3_L93 / 8) * 8))
        have k_39 : (31 : Int32).toInt = 31 := by decide
        have f_40 := i_andm (7 - (x3_L93 - ((x3_L93 / 8) * 8))) 31 (by decide)
        have k_41 : (1 : Int32).toInt = 1 := by decide
        have f_42 := i_andm ((sMtape ((4 + (x3_L93 / 8)).toNatClampNeg)) >>> ((7 - (x3_L93 - ((x3_L93 / 8) * 8))) &&& 31)) 1 (by decide)
        unfold Mod_unpack_j133
        refine So.ite (fun c_43 => ?_) (fun c_43 => ?_)
        · rw [i_le] at c_43
          have f_44 := I_Mo_many I_sMo_L93
          refine So.ite (fun c_45 => ?_) (fun c_45 => ?_)
          · rw [i_eq] at c_45
            have k_46 : (0 : Int32).toInt = 0 := by decide
            unfold Mod_unpack_j167
            unfold Mod_unpack_j168
            unfold Mod_unpack_j169
            first | have f_47 := i_add (a := x3_L93) (b := 1) (by omega) (by omega) | have f_47 := i_addm x3_L93 1
            exact t_Mod_unpack_L93 hf I_sMtape I_sMo_L93 (by show 4 ≤ x1_L93.toInt; omega) (by show x1_L93.toInt ≤ 1000; omega)   n _ _ _ (by show 0 ≤ (x3_L93 + 1).toInt; omega) (by show (x3_L93 + 1).toInt ≤ 8 * (x1_L93.toInt - 4); omega) (by show (0 : Int32).toInt = 0 ∨ (0 : Int32).toInt = 1; omega) (by show 8 * (x1_L93.toInt - 4) - (x3_L93 + 1).toInt < (n : Nat); omega)
          · rw [i_eq] at c_45
            have k_48 : (0 : Int32).toInt = 0 := by decide
            refine So.pos (by decide) ?_
            unfold Mod_unpack_j168
            unfold Mod_unpack_j169
            first | have f_50 := i_add (a := x3_L93) (b := 1) (by omega) (by omega) | have f_50 := i_addm x3_L93 1
            exact t_Mod_unpack_L93 hf I_sMtape I_sMo_L93 (by show 4 ≤ x1_L93.toInt; omega) (by show x1_L93.toInt ≤ 1000; omega)   n _ _ _ (by show 0 ≤ (x3_L93 + 1).toInt; omega) (by show (x3_L93 + 1).toInt ≤ 8 * (x1_L93.toInt - 4); omega) (by show (1 : Int32).toInt = 0 ∨ (1 : Int32).toInt = 1; omega) (by show 8 * (x1_L93.toInt - 4) - (x3_L93 + 1).toInt < (n : Nat); omega)
        · rw [i_le] at c_43
          have f_51 := I_Mo_many I_sMo_L93
          refine So.gd (i_in.mpr (by omega)) ?_
          refine So.lt2 fun sMbits_17 e_52 => ?_
          unfold Mod_unpack_j169
          first | have f_53 := i_add (a := x3_L93) (b := 1) (by omega) (by omega) | have f_53 := i_addm x3_L93 1
          exact t_Mod_unpack_L93 hf I_sMtape I_sMo_L93 (by show 4 ≤ x1_L93.toInt; omega) (by show x1_L93.toInt ≤ 1000; omega)   n _ _ _ (by show 0 ≤ (x3_L93 + 1).toInt; omega) (by show (x3_L93 + 1).toInt ≤ 8 * (x1_L93.toInt - 4); omega) (by show x2_L93.toInt = 0 ∨ x2_L93.toInt = 1; omega) (by show 8 * (x1_L93.toInt - 4) - (x3_L93 + 1).toInt < (n : Nat); omega)
set_option maxHeartbeats 4000000 in
theorem t_Mod_unpack_j27 {fu : Nat} {sMtape : (Nat → Int32)} {x1_j27 : Int32} {sMo_j27 : S_Mo} {sMbits_j27 : (Nat → Int32)} (hf : 12000 ≤ fu) (I_sMtape : A_Mtape sMtape) (I_sMo_j27 : I_Mo sMo_j27) (g_0 : 4 ≤ x1_j27.toInt) (g_1 : x1_j27.toInt ≤ 1000) : So (Mod_unpack_j27 fu sMtape x1_j27 sMo_j27 sMbits_j27) (fun r => I_Mo r.2.1 ∧ ((Mo_open r.2.1).toInt = (Mo_open sMo_j27).toInt) ∧ ((Mo_looked r.2.1).toInt = (Mo_looked sMo_j27).toInt) ∧ ((Mo_fields r.2.1).toInt = (Mo_fields sMo_j27).toInt) ∧ ((Mo_elements r.2.1).toInt = (Mo_elements sMo_j27).toInt) ∧ ((Mo_pointed r.2.1).toInt = (Mo_pointed sMo_j27).toInt) ∧ ((Mo_pointer r.2.1).toInt = (Mo_pointer sMo_j27).toInt) ∧ ((Mo_mode r.2.1).toInt = (Mo_mode sMo_j27).toInt) ∧ ((Mo_subset r.2.1).toInt = (Mo_subset sMo_j27).toInt) ∧ ((Mo_subsets r.2.1).toInt = (Mo_subsets sMo_j27).toInt) ∧ ((Mo_at r.2.1).toInt = (Mo_at sMo_j27).toInt) ∧ KM r.2.1 sMo_j27 ∧ ((Mo_fault r.2.1).toInt = (Mo_fault sMo_j27).toInt) ∧ (r.1.toInt = 0 ∨ ((Mo_many r.2.1).toInt ≤ 40000 ∧ (sMtape ((1 : Int32).toNatClampNeg)).toInt ≤ 8))) := by
  unfold Mod_unpack_j27
  have k_1 : (1 : Int32).toInt = 1 := by decide
  refine So.gd (i_in.mpr (by omega)) ?_
  refine So.ite (fun c_2 => ?_) (fun c_2 => ?_)
  · rw [i_lt] at c_2
    have f_3 := A_Mtape_at I_sMtape ((1 : Int32).toNatClampNeg)
    have k_4 : (0 : Int32).toInt = 0 := by decide
    exact So.one ⟨I_sMo_j27, (by show (Mo_open sMo_j27).toInt = (Mo_open sMo_j27).toInt; omega), (by show (Mo_looked sMo_j27).toInt = (Mo_looked sMo_j27).toInt; omega), (by show (Mo_fields sMo_j27).toInt = (Mo_fields sMo_j27).toInt; omega), (by show (Mo_elements sMo_j27).toInt = (Mo_elements sMo_j27).toInt; omega), (by show (Mo_pointed sMo_j27).toInt = (Mo_pointed sMo_j27).toInt; omega), (by show (Mo_pointer sMo_j27).toInt = (Mo_pointer sMo_j27).toInt; omega), (by show (Mo_mode sMo_j27).toInt = (Mo_mode sMo_j27).toInt; omega), (by show (Mo_subset sMo_j27).toInt = (Mo_subset sMo_j27).toInt; omega), (by show (Mo_subsets sMo_j27).toInt = (Mo_subsets sMo_j27).toInt; omega), (by show (Mo_at sMo_j27).toInt = (Mo_at sMo_j27).toInt; omega), (KM.refl _), (by show (Mo_fault sMo_j27).toInt = (Mo_fault sMo_j27).toInt; omega), (by show (0 : Int32).toInt = 0 ∨ ((Mo_many sMo_j27).toInt ≤ 40000 ∧ (sMtape ((1 : Int32).toNatClampNeg)).toInt ≤ 8); omega)⟩
  · rw [i_lt] at c_2
    have f_5 := A_Mtape_at I_sMtape ((1 : Int32).toNatClampNeg)
    refine So.gd (i_in.mpr (by omega)) ?_
    refine So.ite (fun c_6 => ?_) (fun c_6 => ?_)
    · rw [i_le] at c_6
      have k_7 : (8 : Int32).toInt = 8 := by decide
      have k_8 : (2 : Int32).toInt = 2 := by decide
      refine So.gd (i_in.mpr (by omega)) ?_
      have k_9 : (3 : Int32).toInt = 3 := by decide
      refine So.gd (i_in.mpr (by omega)) ?_
      have k_11 : (256 : Int32).toInt = 256 := by decide
      have f_12 := A_Mtape_at I_sMtape ((2 : Int32).toNatClampNeg)
      first | have f_13 := i_mull 256 (sMtape ((2 : Int32).toNatClampNeg)) (256) (by decide) (by omega) (by omega) | have f_13 := i_mullm 256 (sMtape ((2 : Int32).toNatClampNeg)) (256) (by decide)
      have f_14 := A_Mtape_at I_sMtape ((3 : Int32).toNatClampNeg)
      first | have f_15 := i_add (a := (256 * (sMtape ((2 : Int32).toNatClampNeg)))) (b := (sMtape ((3 : Int32).toNatClampNeg))) (by omega) (by omega) | have f_15 := i_addm (256 * (sMtape ((2 : Int32).toNatClampNeg))) (sMtape ((3 : Int32).toNatClampNeg))
      refine So.lt2 fun sMo_10 e_10 => ?_
      have I_16 : I_Mo sMo_10 := by rw [e_10]; exact (I_Mo_set_many I_sMo_j27 (by show 0 ≤ (((256 * (sMtape ((2 : Int32).toNatClampNeg))) + (sMtape ((3 : Int32).toNatClampNeg))) : Int32).toInt ∧ (((256 * (sMtape ((2 : Int32).toNatClampNeg))) + (sMtape ((3 : Int32).toNatClampNeg))) : Int32).toInt ≤ 65535; omega))
      have K_17 : KM sMo_10 sMo_j27 := by rw [e_10]; exact (KM.refl _)
      have f_18 : (Mo_fault sMo_10).toInt = (Mo_fault sMo_j27).toInt := by subst e_10; rfl
      have f_19 : (Mo_open sMo_10).toInt = (Mo_open sMo_j27).toInt := by subst e_10; rfl
      have f_20 : (Mo_looked sMo_10).toInt = (Mo_looked sMo_j27).toInt := by subst e_10; rfl
      have f_21 : (Mo_fields sMo_10).toInt = (Mo_fields sMo_j27).toInt := by subst e_10; rfl
      have f_22 : (Mo_elements sMo_10).toInt = (Mo_elements sMo_j27).toInt := by subst e_10; rfl
      have f_23 : (Mo_pointed sMo_10).toInt = (Mo_pointed sMo_j27).toInt := by subst e_10; rfl
      have f_24 : (Mo_pointer sMo_10).toInt = (Mo_pointer sMo_j27).toInt := by subst e_10; rfl
      have f_25 : (Mo_mode sMo_10).toInt = (Mo_mode sMo_j27).toInt := by subst e_10; rfl
      have f_26 : (Mo_subset sMo_10).toInt = (Mo_subset sMo_j27).toInt := by subst e_10; rfl
      have f_27 : (Mo_subsets sMo_10).toInt = (Mo_subsets sMo_j27).toInt := by subst e_10; rfl
      have f_28 : (Mo_many sMo_10).toInt = (((256 * (sMtape ((2 : Int32).toNatClampNeg))) + (sMtape ((3 : Int32).toNatClampNeg))) : Int32).toInt := by subst e_10; rfl
      have f_29 : (Mo_at sMo_10).toInt = (Mo_at sMo_j27).toInt := by subst e_10; rfl
      refine So.ite (fun c_30 => ?_) (fun c_30 => ?_)
      · rw [i_eq] at c_30
        have k_31 : (4 : Int32).toInt = 4 := by decide
        have f_32 := I_Mo_many I_16
        have k_33 : (7 : Int32).toInt = 7 := by decide
        first | have f_34 := i_add (a := (Mo_many sMo_10)) (b := 7) (by omega) (by omega) | have f_34 := i_addm (Mo_many sMo_10) 7
        first | have f_35 := i_divk ((Mo_many sMo_10) + 7) 8 8 (by decide) (by decide) (by omega) | have f_35 := i_diva ((Mo_many sMo_10) + 7) 8 8 (by decide) (by decide)
        first | have f_36 := i_add (a := 4) (b := (((Mo_many sMo_10) + 7) / 8)) (by omega) (by omega) | have f_36 := i_addm 4 (((Mo_many sMo_10) + 7) / 8)
        have k_37 : (0 : Int32).toInt = 0 := by decide
        refine So.imp (t_Mod_unpack_L93 hf I_sMtape I_16 (by show 4 ≤ x1_j27.toInt; omega) (by show x1_j27.toInt ≤ 1000; omega) fu _ _ _ (by show 0 ≤ (0 : Int32).toInt; omega) (by show (0 : Int32).toInt ≤ 8 * (x1_j27.toInt - 4); omega) (by show (1 : Int32).toInt = 0 ∨ (1 : Int32).toInt = 1; omega) (by show 8 * (x1_j27.toInt - 4) - (0 : Int32).toInt < (fu : Nat); omega)) fun q_z h_z => ?_
        obtain ⟨p_38, p_39, p_40, p_41, p_42, p_43, p_44, p_45, p_46, p_47, p_48, p_49, p_50, p_51⟩ := h_z
        exact ⟨p_38, (by show (Mo_open q_z.2.1).toInt = (Mo_open sMo_j27).toInt; omega), (by show (Mo_looked q_z.2.1).toInt = (Mo_looked sMo_j27).toInt; omega), (by show (Mo_fields q_z.2.1).toInt = (Mo_fields sMo_j27).toInt; omega), (by show (Mo_elements q_z.2.1).toInt = (Mo_elements sMo_j27).toInt; omega), (by show (Mo_pointed q_z.2.1).toInt = (Mo_pointed sMo_j27).toInt; omega), (by show (Mo_pointer q_z.2.1).toInt = (Mo_pointer sMo_j27).toInt; omega), (by show (Mo_mode q_z.2.1).toInt = (Mo_mode sMo_j27).toInt; omega), (by show (Mo_subset q_z.2.1).toInt = (Mo_subset sMo_j27).toInt; omega), (by show (Mo_subsets q_z.2.1).toInt = (Mo_subsets sMo_j27).toInt; omega), (by show (Mo_at q_z.2.1).toInt = (Mo_at sMo_j27).toInt; omega), (KM.trans p_50 K_17), (by show (Mo_fault q_z.2.1).toInt = (Mo_fault sMo_j27).toInt; omega), (by show q_z.1.toInt = 0 ∨ ((Mo_many q_z.2.1).toInt ≤ 40000 ∧ (sMtape ((1 : Int32).toNatClampNeg)).toInt ≤ 8); omega)⟩
      · rw [i_eq] at c_30
        have k_52 : (4 : Int32).toInt = 4 := by decide
        have f_53 := I_Mo_many I_16
        have k_54 : (7 : Int32).toInt = 7 := by decide
        first | have f_55 := i_add (a := (Mo_many sMo_10)) (b := 7) (by omega) (by omega) | have f_55 := i_addm (Mo_many sMo_10) 7
        first | have f_56 := i_divk ((Mo_many sMo_10) + 7) 8 8 (by decide) (by decide) (by omega) | have f_56 := i_diva ((Mo_many sMo_10) + 7) 8 8 (by decide) (by decide)
        first | have f_57 := i_add (a := 4) (b := (((Mo_many sMo_10) + 7) / 8)) (by omega) (by omega) | have f_57 := i_addm 4 (((Mo_many sMo_10) + 7) / 8)
        have k_58 : (0 : Int32).toInt = 0 := by decide
        exact So.one ⟨I_16, (by show (Mo_open sMo_10).toInt = (Mo_open sMo_j27).toInt; omega), (by show (Mo_looked sMo_10).toInt = (Mo_looked sMo_j27).toInt; omega), (by show (Mo_fields sMo_10).toInt = (Mo_fields sMo_j27).toInt; omega), (by show (Mo_elements sMo_10).toInt = (Mo_elements sMo_j27).toInt; omega), (by show (Mo_pointed sMo_10).toInt = (Mo_pointed sMo_j27).toInt; omega), (by show (Mo_pointer sMo_10).toInt = (Mo_pointer sMo_j27).toInt; omega), (by show (Mo_mode sMo_10).toInt = (Mo_mode sMo_j27).toInt; omega), (by show (Mo_subset sMo_10).toInt = (Mo_subset sMo_j27).toInt; omega), (by show (Mo_subsets sMo_10).toInt = (Mo_subsets sMo_j27).toInt; omega), (by show (Mo_at sMo_10).toInt = (Mo_at sMo_j27).toInt; omega), K_17, (by show (Mo_fault sMo_10).toInt = (Mo_fault sMo_j27).toInt; omega), (by show (0 : Int32).toInt = 0 ∨ ((Mo_many sMo_10).toInt ≤ 40000 ∧ (sMtape ((1 : Int32).toNatClampNeg)).toInt ≤ 8); omega)⟩
    · rw [i_le] at c_6
      have k_59 : (8 : Int32).toInt = 8 := by decide
      have k_60 : (0 : Int32).toInt = 0 := by decide
      exact So.one ⟨I_sMo_j27, (by show (Mo_open sMo_j27).toInt = (Mo_open sMo_j27).toInt; omega), (by show (Mo_looked sMo_j27).toInt = (Mo_looked sMo_j27).toInt; omega), (by show (Mo_fields sMo_j27).toInt = (Mo_fields sMo_j27).toInt; omega), (by show (Mo_elements sMo_j27).toInt = (Mo_elements sMo_j27).toInt; omega), (by show (Mo_pointed sMo_j27).toInt = (Mo_pointed sMo_j27).toInt; omega), (by show (Mo_pointer sMo_j27).toInt = (Mo_pointer sMo_j27).toInt; omega), (by show (Mo_mode sMo_j27).toInt = (Mo_mode sMo_j27).toInt; omega), (by show (Mo_subset sMo_j27).toInt = (Mo_subset sMo_j27).toInt; omega), (by show (Mo_subsets sMo_j27).toInt = (Mo_subsets sMo_j27).toInt; omega), (by show (Mo_at sMo_j27).toInt = (Mo_at sMo_j27).toInt; omega), (KM.refl _), (by show (Mo_fault sMo_j27).toInt = (Mo_fault sMo_j27).toInt; omega), (by show (0 : Int32).toInt = 0 ∨ ((Mo_many sMo_j27).toInt ≤ 40000 ∧ (sMtape ((1 : Int32).toNatClampNeg)).toInt ≤ 8); omega)⟩
set_option maxHeartbeats 4000000 in
theorem t_Mod_unpack {fu : Nat} {sMtape : (Nat → Int32)} {a0 : Int32} {sMo : S_Mo} {sMbits : (Nat → Int32)} (hf : 12000 ≤ fu) (I_sMtape : A_Mtape sMtape) (I_sMo : I_Mo sMo) (g_0 : a0.toInt ≤ 1000) : So (Mod_unpack fu sMtape a0 sMo sMbits) (fun r => I_Mo r.2.1 ∧ ((Mo_open r.2.1).toInt = (Mo_open sMo).toInt) ∧ ((Mo_looked r.2.1).toInt = (Mo_looked sMo).toInt) ∧ ((Mo_fields r.2.1).toInt = (Mo_fields sMo).toInt) ∧ ((Mo_elements r.2.1).toInt = (Mo_elements sMo).toInt) ∧ ((Mo_pointed r.2.1).toInt = (Mo_pointed sMo).toInt) ∧ ((Mo_pointer r.2.1).toInt = (Mo_pointer sMo).toInt) ∧ ((Mo_mode r.2.1).toInt = (Mo_mode sMo).toInt) ∧ ((Mo_subset r.2.1).toInt = (Mo_subset sMo).toInt) ∧ ((Mo_subsets r.2.1).toInt = (Mo_subsets sMo).toInt) ∧ ((Mo_at r.2.1).toInt = (Mo_at sMo).toInt) ∧ KM r.2.1 sMo ∧ ((Mo_fault r.2.1).toInt = (Mo_fault sMo).toInt) ∧ (r.1.toInt = 0 ∨ ((Mo_many r.2.1).toInt ≤ 40000 ∧ (sMtape ((1 : Int32).toNatClampNeg)).toInt ≤ 8))) := by
  unfold Mod_unpack
  refine So.ite (fun c_1 => ?_) (fun c_1 => ?_)
  · rw [i_lt] at c_1
    have k_2 : (4 : Int32).toInt = 4 := by decide
    have k_3 : (0 : Int32).toInt = 0 := by decide
    exact So.one ⟨I_sMo, (by show (Mo_open sMo).toInt = (Mo_open sMo).toInt; omega), (by show (Mo_looked sMo).toInt = (Mo_looked sMo).toInt; omega), (by show (Mo_fields sMo).toInt = (Mo_fields sMo).toInt; omega), (by show (Mo_elements sMo).toInt = (Mo_elements sMo).toInt; omega), (by show (Mo_pointed sMo).toInt = (Mo_pointed sMo).toInt; omega), (by show (Mo_pointer sMo).toInt = (Mo_pointer sMo).toInt; omega), (by show (Mo_mode sMo).toInt = (Mo_mode sMo).toInt; omega), (by show (Mo_subset sMo).toInt = (Mo_subset sMo).toInt; omega), (by show (Mo_subsets sMo).toInt = (Mo_subsets sMo).toInt; omega), (by show (Mo_at sMo).toInt = (Mo_at sMo).toInt; omega), (KM.refl _), (by show (Mo_fault sMo).toInt = (Mo_fault sMo).toInt; omega), (by show (0 : Int32).toInt = 0 ∨ ((Mo_many sMo).toInt ≤ 40000 ∧ (sMtape ((1 : Int32).toNatClampNeg)).toInt ≤ 8); omega)⟩
  · rw [i_lt] at c_1
    have k_4 : (4 : Int32).toInt = 4 := by decide
    have k_5 : (0 : Int32).toInt = 0 := by decide
    refine So.gd (i_in.mpr (by omega)) ?_
    refine So.ite (fun c_6 => ?_) (fun c_6 => ?_)
    · rw [i_eq] at c_6
      have f_7 := A_Mtape_at I_sMtape ((0 : Int32).toNatClampNeg)
      have k_8 : (66 : Int32).toInt = 66 := by decide
      refine So.imp (t_Mod_unpack_j27 hf I_sMtape I_sMo (by show 4 ≤ a0.toInt; omega) (by show a0.toInt ≤ 1000; omega)) fun q_z h_z => ?_
      obtain ⟨p_9, p_10, p_11, p_12, p_13, p_14, p_15, p_16, p_17, p_18, p_19, p_20, p_21, p_22⟩ := h_z
      exact ⟨p_9, (by show (Mo_open q_z.2.1).toInt = (Mo_open sMo).toInt; omega), (by show (Mo_looked q_z.2.1).toInt = (Mo_looked sMo).toInt; omega), (by show (Mo_fields q_z.2.1).toInt = (Mo_fields sMo).toInt; omega), (by show (Mo_elements q_z.2.1).toInt = (Mo_elements sMo).toInt; omega), (by show (Mo_pointed q_z.2.1).toInt = (Mo_pointed sMo).toInt; omega), (by show (Mo_pointer q_z.2.1).toInt = (Mo_pointer sMo).toInt; omega), (by show (Mo_mode q_z.2.1).toInt = (Mo_mode sMo).toInt; omega), (by show (Mo_subset q_z.2.1).toInt = (Mo_subset sMo).toInt; omega), (by show (Mo_subsets q_z.2.1).toInt = (Mo_subsets sMo).toInt; omega), (by show (Mo_at q_z.2.1).toInt = (Mo_at sMo).toInt; omega), (KM.trans p_20 (KM.refl _)), (by show (Mo_fault q_z.2.1).toInt = (Mo_fault sMo).toInt; omega), (by show q_z.1.toInt = 0 ∨ ((Mo_many q_z.2.1).toInt ≤ 40000 ∧ (sMtape ((1 : Int32).toNatClampNeg)).toInt ≤ 8); omega)⟩
    · rw [i_eq] at c_6
      have f_23 := A_Mtape_at I_sMtape ((0 : Int32).toNatClampNeg)
      have k_24 : (66 : Int32).toInt = 66 := by decide
      refine So.gd (i_in.mpr (by omega)) ?_
      refine So.ite (fun c_25 => ?_) (fun c_25 => ?_)
      · rw [i_eq] at c_25
        have k_26 : (67 : Int32).toInt = 67 := by decide
        refine So.imp (t_Mod_unpack_j27 hf I_sMtape I_sMo (by show 4 ≤ a0.toInt; omega) (by show a0.toInt ≤ 1000; omega)) fun q_z h_z => ?_
        obtain ⟨p_27, p_28, p_29, p_30, p_31, p_32, p_33, p_34, p_35, p_36, p_37, p_38, p_39, p_40⟩ := h_z
        exact ⟨p_27, (by show (Mo_open q_z.2.1).toInt = (Mo_open sMo).toInt; omega), (by show (Mo_looked q_z.2.1).toInt = (Mo_looked sMo).toInt; omega), (by show (Mo_fields q_z.2.1).toInt = (Mo_fields sMo).toInt; omega), (by show (Mo_elements q_z.2.1).toInt = (Mo_elements sMo).toInt; omega), (by show (Mo_pointed q_z.2.1).toInt = (Mo_pointed sMo).toInt; omega), (by show (Mo_pointer q_z.2.1).toInt = (Mo_pointer sMo).toInt; omega), (by show (Mo_mode q_z.2.1).toInt = (Mo_mode sMo).toInt; omega), (by show (Mo_subset q_z.2.1).toInt = (Mo_subset sMo).toInt; omega), (by show (Mo_subsets q_z.2.1).toInt = (Mo_subsets sMo).toInt; omega), (by show (Mo_at q_z.2.1).toInt = (Mo_at sMo).toInt; omega), (KM.trans p_38 (KM.refl _)), (by show (Mo_fault q_z.2.1).toInt = (Mo_fault sMo).toInt; omega), (by show q_z.1.toInt = 0 ∨ ((Mo_many q_z.2.1).toInt ≤ 40000 ∧ (sMtape ((1 : Int32).toNatClampNeg)).toInt ≤ 8); omega)⟩
      · rw [i_eq] at c_25
        have k_41 : (67 : Int32).toInt = 67 := by decide
        exact So.one ⟨I_sMo, (by show (Mo_open sMo).toInt = (Mo_open sMo).toInt; omega), (by show (Mo_looked sMo).toInt = (Mo_looked sMo).toInt; omega), (by show (Mo_fields sMo).toInt = (Mo_fields sMo).toInt; omega), (by show (Mo_elements sMo).toInt = (Mo_elements sMo).toInt; omega), (by show (Mo_pointed sMo).toInt = (Mo_pointed sMo).toInt; omega), (by show (Mo_pointer sMo).toInt = (Mo_pointer sMo).toInt; omega), (by show (Mo_mode sMo).toInt = (Mo_mode sMo).toInt; omega), (by show (Mo_subset sMo).toInt = (Mo_subset sMo).toInt; omega), (by show (Mo_subsets sMo).toInt = (Mo_subsets sMo).toInt; omega), (by show (Mo_at sMo).toInt = (Mo_at sMo).toInt; omega), (KM.refl _), (by show (Mo_fault sMo).toInt = (Mo_fault sMo).toInt; omega), (by show (0 : Int32).toInt = 0 ∨ ((Mo_many sMo).toInt ≤ 40000 ∧ (sMtape ((1 : Int32).toNatClampNeg)).toInt ≤ 8); omega)⟩
-- reading
abbrev A22 : Type := Int32 × S_Mo × (Nat → Int64) × (Nat → Int64) × (Nat → Int32) × (Nat → Int32) × (Nat → Int32) × (Nat → Int32) × (Nat → Int32) × (Nat → Int32) × (Nat → Int32) × (Nat → Int32) × (Nat → Int32) × (Nat → Int32) × (Nat → Int32) × (Nat → Int32) × (Nat → Int32) × (Nat → Int32) × (Nat → Int64) × (Nat → Int32) × (Nat → Int32) × (Nat → Int32)
def RdP (z : S_Mo) (r : A22) : Prop := MA r.2.1 r.2.2.2.2.2.2.2.2.2.2.1 r.2.2.2.2.2.2.2.2.2.2.2.1 r.2.2.2.2.2.2.2.2.2.2.2.2.2.2.1 r.2.2.2.2.2.2.2.2.2.2.2.2.2.2.2.2.2.2.2.1 r.2.2.2.2.2.2.2.2.2.2.2.2.2.2.2.2.2.2.2.2.1 ∧ KM r.2.1 z
theorem t_rd_L206 {fu : Nat} {th sc rf wi ls le tp : Nat → Int32} {s z : S_Mo} {rd : Nat → Int64} {li ne en be lf tu fo op ki co wd sca lk rp : Nat → Int32} {ba : Nat → Int64} {ea pa bi : Nat → Int32} (A : MA s fo op wd ea pa) (K : KM s z) : ∀ (n k : Nat) (x : Int32) (va : Nat → Int64), x.toInt = (k : Int) → k ≤ 800 → 800 - k < n → So (Mod_read_L206 fu th sc rf wi ls le tp s rd li ne en be lf tu fo op ki co wd sca lk rp ba ea pa bi n x va) (RdP z)
  | 0, k, x, va, _, _, h => absurd h (by omega)
  | n + 1, k, x, va, hx, hk, hn => by
    rw [Mod_read_L206]
    have k1 : (1 : Int32).toInt = 1 := by decide
    have k8 : (800 : Int32).toInt = 800 := by decide
    refine So.ite (fun c => So.one ⟨A, K⟩) (fun c => ?_)
    rw [i_le] at c
    have e1 := i_add (a := x) (b := 1) (by omega) (by omega)
    refine So.gd (i_in.mpr (by omega)) (So.gd (i_in.mpr (by omega)) (So.lt ?_))
    exact t_rd_L206 A K n (k + 1) (x + 1) _ (by omega) (by omega) (by omega)
theorem t_rd_j179 {fu : Nat} {th sc rf wi ls le tp : Nat → Int32} {va : Nat → Int64} {s z : S_Mo} {rd : Nat → Int64} {li ne en be lf tu fo op ki co wd sca lk rp : Nat → Int32} {ba : Nat → Int64} {ea pa bi : Nat → Int32} (hf : 12000 ≤ fu) (A : MA s fo op wd ea pa) (K : KM s z) : So (Mod_read_j179 fu th sc rf wi ls le tp s va rd li ne en be lf tu fo op ki co wd sca lk rp ba ea pa bi) (RdP z) := by
  unfold Mod_read_j179
  obtain ⟨I, a1, a2, a3, a4, a5⟩ := A
  have j : ∀ t : Int32, So (Mod_read_j192 fu th sc rf wi ls le tp t s va rd li ne en be lf tu fo op ki co wd sca lk rp ba ea pa bi) (RdP z) := by
    intro t
    unfold Mod_read_j192
    have A2 : MA (Mo_set_thrown s t) fo op wd ea pa := ⟨I_Mo_set_thrown I, a1, a2, a3, a4, a5⟩
    have K2 : KM (Mo_set_thrown s t) z := K
    refine So.lt (So.ite (fun _ => ?_) (fun _ => So.one ⟨A2, K2⟩))
    exact t_rd_L206 A2 K2 fu 0 0 va rfl (by omega) (by omega)
  exact So.ite (fun _ => j _) (fun _ => j _)
theorem t_rd_j151 {fu : Nat} {th sc rf wi ls le tp : Nat → Int32} {va : Nat → Int64} {s z : S_Mo} {rd : Nat → Int64} {li ne en be lf tu fo op ki co wd sca lk rp : Nat → Int32} {ba : Nat → Int64} {ea pa bi : Nat → Int32} (hf : 12000 ≤ fu) (A : MA s fo op wd ea pa) (K : KM s z) : So (Mod_read_j151 fu th sc rf wi ls le tp s va rd li ne en be lf tu fo op ki co wd sca lk rp ba ea pa bi) (RdP z) := by
  unfold Mod_read_j151
  refine So.ite (fun _ => So.ite (fun _ => t_rd_j179 hf A K) (fun _ => ?_)) (fun _ => t_rd_j179 hf A K)
  obtain ⟨I, a1, a2, a3, a4, a5⟩ := A
  refine So.bd (t_Mod_wrongAt I (by decide)) fun p hp => ?_
  obtain ⟨p1, p2, p3, p4, p5, p6, p7, p8, p9, p10, p11, p12, p13, p14⟩ := hp
  exact t_rd_j179 hf ⟨p1, a1, a2, a3, a4, a5⟩ (p14.trans K)
theorem t_rd_L120 {fu : Nat} {th sc rf wi ls le tp : Nat → Int32} {va : Nat → Int64} {x2 : Int32} {bi : Nat → Int32} (hf : 12000 ≤ fu) (Is : A_Mscales sc) (Iw : A_Mwidths wi) (Ils : A_Mlists ls) (Ile : A_Mlengths le) (z : S_Mo) (hc : ∀ s : S_Mo, Mo_fault s = 0 → (Mo_subsets s).toInt ≤ 8 → True) : ∀ (n k : Nat) (x : Int32) (s : S_Mo) (rd : Nat → Int64) (li ne en be lf tu fo op ki co wd sca lk rp : Nat → Int32) (ba : Nat → Int64) (ea pa : Nat → Int32), x.toInt = (k : Int) → k ≤ 8 → 8 - k < n → MA s fo op wd ea pa → KM s z → (Mo_fault s = 0 → (Mo_subsets s).toInt ≤ 8 ∧ (Mo_at s).toInt ≤ (Mo_many s).toInt ∧ (Mo_many s).toInt ≤ 40000 ∧ CompOK fu th sc wi ls le (Mo_used z)) → So (Mod_read_L120 fu th sc rf wi ls le tp x2 va bi (fun zMo zMread zMlist zMnext zMend zMbegin zMleft zMturn zMfoundOps zMops zMkind zMcode zMwidth zMscale zMlink zMrepeat zMbase zMelementAt zMpointAt => Mod_read_j151 fu th sc rf wi ls le tp zMo va zMread zMlist zMnext zMend zMbegin zMleft zMturn zMfoundOps zMops zMkind zMcode zMwidth zMscale zMlink zMrepeat zMbase zMelementAt zMpointAt bi) n x s rd li ne en be lf tu fo op ki co wd sca lk rp ba ea pa) (RdP z)
  | 0, k, x, s, rd, li, ne, en, be, lf, tu, fo, op, ki, co, wd, sca, lk, rp, ba, ea, pa, _, _, h, _, _, _ => absurd h (by omega)
  | n + 1, k, x, s, rd, li, ne, en, be, lf, tu, fo, op, ki, co, wd, sca, lk, rp, ba, ea, pa, hx, hk, hn, A, K, hS => by
    rw [Mod_read_L120]
    have k1 : (1 : Int32).toInt = 1 := by decide
    refine So.ite (fun _ => t_rd_j151 hf A K) (fun c => ?_)
    rw [i_le] at c
    refine So.ite (fun c2 => So.ite (fun _ => ?_) (fun _ => t_rd_j151 hf A K)) (fun _ => t_rd_j151 hf A K)
    obtain ⟨g1, g2, g3, g4⟩ := hS c2
    have e1 := i_add (a := x) (b := 1) (by omega) (by omega)
    obtain ⟨I, a1, a2, a3, a4, a5⟩ := A
    refine So.bd (t_walk2 (z := z) (a0 := x) (a1 := 2) hf Is Iw Ils Ile I a1 a2 a3 a4 a5 c2 (by omega) (by omega) (Or.inr ⟨g2, g3⟩) (Or.inl (by decide)) K g4) fun q hq => ?_
    obtain ⟨⟨W, WKq, w3, w4, w5, w6, w7⟩, Kq⟩ := hq
    have hmo : (Mo_mode q.1).toInt = (2 : Int32).toInt := WKq.2.1
    have hsu : (Mo_subsets q.1).toInt = (Mo_subsets s).toInt := WKq.2.2.2.1
    have k2 : (2 : Int32).toInt = 2 := by decide
    have hW3 := W.2.2.1
    exact t_rd_L120 hf Is Iw Ils Ile z hc n (k + 1) (x + 1) q.1 _ _ _ _ _ _ _ _ _ _ _ _ _ _ _ _ _ _ (by omega) (by omega) (by omega) ⟨W.1, w3, w4, w5, w6, w7⟩ Kq (fun _ => ⟨by omega, by omega, by omega, g4⟩)
theorem t_rd_j100 {fu : Nat} {th sc rf wi ls le tp : Nat → Int32} {va : Nat → Int64} {t0 : Int32} {s z : S_Mo} {rd : Nat → Int64} {li ne en be lf tu fo op ki co wd sca lk rp : Nat → Int32} {ba : Nat → Int64} {ea pa bi : Nat → Int32} (hf : 12000 ≤ fu) (Is : A_Mscales sc) (Iw : A_Mwidths wi) (Ils : A_Mlists ls) (Ile : A_Mlengths le) (A : MA s fo op wd ea pa) (K : KM s z) (hS : Mo_fault s = 0 → (Mo_subsets s).toInt ≤ 8 ∧ (Mo_at s).toInt ≤ (Mo_many s).toInt ∧ (Mo_many s).toInt ≤ 40000 ∧ CompOK fu th sc wi ls le (Mo_used z)) : So (Mod_read_j100 fu th sc rf wi ls le tp t0 s va rd li ne en be lf tu fo op ki co wd sca lk rp ba ea pa bi) (RdP z) := by
  unfold Mod_read_j100
  have j118 : So (Mod_read_j118 fu th sc rf wi ls le tp t0 s va rd li ne en be lf tu fo op ki co wd sca lk rp ba ea pa bi) (RdP z) := by
    unfold Mod_read_j118
    exact t_rd_L120 hf Is Iw Ils Ile z (fun _ _ _ => trivial) fu 0 0 s _ _ _ _ _ _ _ _ _ _ _ _ _ _ _ _ _ _ rfl (by omega) (by omega) A K hS
  refine So.ite (fun c1 => So.ite (fun _ => j118) (fun _ => ?_)) (fun _ => j118)
  obtain ⟨g1, g2, g3, g4⟩ := hS c1
  obtain ⟨I, a1, a2, a3, a4, a5⟩ := A
  refine So.bd (t_walk2 (z := z) (a0 := 0) (a1 := 3) hf Is Iw Ils Ile I a1 a2 a3 a4 a5 c1 (by decide) (by decide) (Or.inr ⟨g2, g3⟩) (Or.inr g1) K g4) fun q hq => ?_
  obtain ⟨⟨W, WKq, w3, w4, w5, w6, w7⟩, Kq⟩ := hq
  have hmo : (Mo_mode q.1).toInt = (3 : Int32).toInt := WKq.2.1
  have hsu : (Mo_subsets q.1).toInt = (Mo_subsets s).toInt := WKq.2.2.2.1
  have k3 : (3 : Int32).toInt = 3 := by decide
  have hW3 := W.2.2.1
  unfold Mod_read_j118
  exact t_rd_L120 hf Is Iw Ils Ile z (fun _ _ _ => trivial) fu 0 0 q.1 _ _ _ _ _ _ _ _ _ _ _ _ _ _ _ _ _ _ rfl (by omega) (by omega) ⟨W.1, w3, w4, w5, w6, w7⟩ Kq (fun _ => ⟨by omega, by omega, by omega, g4⟩)
theorem t_rd_L21 {fu : Nat} {th sc rf wi ls le tp : Nat → Int32} {x1 : Int32} {s : S_Mo} {va : Nat → Int64} {li ne en be lf tu fo op ki co wd sca lk rp : Nat → Int32} {ba : Nat → Int64} {ea pa bi : Nat → Int32} {ke : (Nat → Int64) → Option A22} {P : A22 → Prop} (hke : ∀ m, So (ke m) P) : ∀ (n k : Nat) (x : Int32) (rd : Nat → Int64), x.toInt = (k : Int) → k ≤ 800 → 800 - k < n → So (Mod_read_L21 fu th sc rf wi ls le tp x1 s va li ne en be lf tu fo op ki co wd sca lk rp ba ea pa bi ke n x rd) P
  | 0, k, x, rd, _, _, h => absurd h (by omega)
  | n + 1, k, x, rd, hx, hk, hn => by
    rw [Mod_read_L21]
    have k1 : (1 : Int32).toInt = 1 := by decide
    have k8 : (800 : Int32).toInt = 800 := by decide
    refine So.ite (fun c => hke _) (fun c => ?_)
    rw [i_le] at c
    have e1 := i_add (a := x) (b := 1) (by omega) (by omega)
    refine So.gd (i_in.mpr (by omega)) (So.lt ?_)
    exact t_rd_L21 hke n (k + 1) (x + 1) _ (by omega) (by omega) (by omega)
theorem t_rd_all {fu : Nat} {th sc rf wi ls le tp : Nat → Int32} {s : S_Mo} {va rd : Nat → Int64} {li ne en be lf tu fo op ki co wd sca lk rp : Nat → Int32} {ba : Nat → Int64} {ea pa bi : Nat → Int32} (hf : 12000 ≤ fu) (Is : A_Mscales sc) (Iw : A_Mwidths wi) (Ils : A_Mlists ls) (Ile : A_Mlengths le) (It : A_Mtape tp) (A : MA s fo op wd ea pa) : So (Mod_read fu th sc rf wi ls le tp s va rd li ne en be lf tu fo op ki co wd sca lk rp ba ea pa bi) (RdP (Mo_set_taped s 0)) := by
  unfold Mod_read
  obtain ⟨I, b1, b2, b3, b4, b5⟩ := A
  have k0 : (0 : Int32).toInt = 0 := by decide
  have k1 : (1 : Int32).toInt = 1 := by decide
  have ht := I_Mo_taped I
  have hn := (1 : Int32).toNatClampNeg
  refine So.lt ?_
  have I0 : I_Mo (Mo_set_taped s 0) := I_Mo_set_taped I (by decide)
  refine So.bd (t_Mod_compileAll hf Iw Is Ils Ile I0 b1 b2) fun q h => ?_
  obtain ⟨p1, p2, p3, p4, p5, p6⟩ := h
  refine So.lt ?_
  have I1 : I_Mo (Mo_set_at q.1 0) := I_Mo_set_at p1 (by decide)
  have K1 : KM (Mo_set_at q.1 0) (Mo_set_taped s 0) := p2
  refine t_rd_L21 (fun m => ?_) fu 0 0 rd rfl (by omega) (by omega)
  have j65 : ∀ (t : S_Mo) (bi' : Nat → Int32), I_Mo t → KM t (Mo_set_taped s 0) → (Mo_fault t = 0 → (tp ((1 : Int32).toNatClampNeg)).toInt ≤ 8 ∧ (Mo_at t).toInt ≤ (Mo_many t).toInt ∧ (Mo_many t).toInt ≤ 40000 ∧ CompOK fu th sc wi ls le (Mo_used (Mo_set_taped s 0))) → So (Mod_read_j65 fu th sc rf wi ls le tp (Mo_taped s) t va m q.2.1 q.2.2.1 q.2.2.2.1 q.2.2.2.2.1 q.2.2.2.2.2.1 q.2.2.2.2.2.2.1 q.2.2.2.2.2.2.2.1 q.2.2.2.2.2.2.2.2 ki co wd sca lk rp ba ea pa bi') (RdP (Mo_set_taped s 0)) := by
    intro t bi' It' Kt hS
    have j81 : ∀ u : Int32, (u.toInt = 0 ∨ u = tp ((1 : Int32).toNatClampNeg)) → So (Mod_read_j81 fu th sc rf wi ls le tp u t va m q.2.1 q.2.2.1 q.2.2.2.1 q.2.2.2.2.1 q.2.2.2.2.2.1 q.2.2.2.2.2.2.1 q.2.2.2.2.2.2.2.1 q.2.2.2.2.2.2.2.2 ki co wd sca lk rp ba ea pa bi') (RdP (Mo_set_taped s 0)) := by
      intro u hu
      unfold Mod_read_j81
      have I2 : I_Mo (Mo_set_subsets t u) := I_Mo_set_subsets It'
      have K2 : KM (Mo_set_subsets t u) (Mo_set_taped s 0) := Kt
      have hS2 : Mo_fault (Mo_set_subsets t u) = 0 → (Mo_subsets (Mo_set_subsets t u)).toInt ≤ 8 ∧ (Mo_at (Mo_set_subsets t u)).toInt ≤ (Mo_many (Mo_set_subsets t u)).toInt ∧ (Mo_many (Mo_set_subsets t u)).toInt ≤ 40000 ∧ CompOK fu th sc wi ls le (Mo_used (Mo_set_taped s 0)) := fun e => by
        obtain ⟨g1, g2, g3, g4⟩ := hS e
        refine ⟨?_, g2, g3, g4⟩
        show u.toInt ≤ 8
        rcases hu with h | h
        · omega
        · rw [h]; exact g1
      refine So.lt (So.gd (by decide) (So.ite (fun _ => ?_) (fun _ => ?_)))
      · exact t_rd_j100 hf Is Iw Ils Ile ⟨I2, p4, p5, b3, b4, b5⟩ K2 hS2
      · exact t_rd_j100 hf Is Iw Ils Ile ⟨I2, p4, p5, b3, b4, b5⟩ K2 hS2
    unfold Mod_read_j65
    exact So.ite (fun _ => j81 0 (Or.inl k0)) (fun _ => So.gd (by decide) (j81 _ (Or.inr rfl)))
  unfold Mod_read_j43
  refine So.ite (fun c => ?_) (fun c => j65 _ _ I1 K1 (fun e => absurd e c))
  refine So.bd (t_Mod_unpack hf It I1 (by omega)) fun w hw => ?_
  obtain ⟨u1, u2, u3, u4, u5, u6, u7, u8, u9, u10, u11, u12, u13, u14⟩ := hw
  refine So.ite (fun c2 => ?_) (fun c2 => ?_)
  · refine So.bde (wrong_eq _ _ _) ?_
    exact j65 _ _ (wr_I u1) ((wr_KM _ _ _).trans (u12.trans K1)) (fun e => absurd e (wr_ge (by decide)))
  · rw [i_eq] at c2
    refine j65 _ _ u1 (u12.trans K1) (fun _ => ?_)
    have hm := I_Mo_many u1
    have hat : (Mo_at w.2.1).toInt = (0 : Int32).toInt := u11
    exact ⟨by omega, by omega, by omega, p6 c⟩

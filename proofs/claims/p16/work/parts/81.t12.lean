theorem t_Mod_repetition_L7 {fu : Nat} {sMo : S_Mo} {sMturn : (Nat → Int32)} {ke_7 : Int32 → Option (Int32)} {P : Int32 → Prop} (hf : 12000 ≤ fu) (I_sMo : I_Mo sMo) (hke_7 : ∀ (y0 : Int32), (-1 ≤ y0.toInt) → (y0.toInt < 90) → So (ke_7 y0) P) (hP : ∀ r, True → P r) : ∀ (n : Nat) (x1_L7 : Int32), (-1 ≤ x1_L7.toInt) → (x1_L7.toInt < 90) → (x1_L7.toInt + 1 < (n : Nat)) → So (Mod_repetition_L7 fu sMo sMturn ke_7 n x1_L7) P
  | 0, x1_L7, l_0, l_1, l_2 => absurd l_2 (by omega)
  | n + 1, x1_L7, l_0, l_1, l_2 => by
    rw [Mod_repetition_L7]
    refine So.ite (fun c_1 => ?_) (fun c_1 => ?_)
    · rw [i_lt] at c_1
      have k_2 : (0 : Int32).toInt = 0 := by decide
      exact hke_7 _ (by show -1 ≤ x1_L7.toInt; omega) (by show x1_L7.toInt < 90; omega)
    · rw [i_lt] at c_1
      have k_3 : (0 : Int32).toInt = 0 := by decide
      refine So.gd (i_in.mpr (by omega)) ?_
      refine So.ite (fun c_4 => ?_) (fun c_4 => ?_)
      · rw [i_le] at c_4
        exact hke_7 _ (by show -1 ≤ x1_L7.toInt; omega) (by show x1_L7.toInt < 90; omega)
      · rw [i_le] at c_4
        have k_5 : ((-1) : Int32).toInt = -1 := by decide
        first | have f_6 := i_add (a := x1_L7) (b := (-1)) (by omega) (by omega) | have f_6 := i_addm x1_L7 (-1)
        exact t_Mod_repetition_L7 hf I_sMo hke_7 hP n _ (by show -1 ≤ (x1_L7 + (-1)).toInt; ((try generalize (x1_L7 + (-1)).toInt = gv0 at *); omega)) (by show (x1_L7 + (-1)).toInt < 90; ((try generalize (x1_L7 + (-1)).toInt = gv0 at *); omega)) (by show (x1_L7 + (-1)).toInt + 1 < (n : Nat); ((try generalize (x1_L7 + (-1)).toInt = gv0 at *); omega))
theorem t_Mod_repetition {fu : Nat} {sMo : S_Mo} {sMturn : (Nat → Int32)} (hf : 12000 ≤ fu) (I_sMo : I_Mo sMo) : So (Mod_repetition fu sMo sMturn) (fun r => True) := by
  unfold Mod_repetition
  have f_1 := I_Mo_open I_sMo
  have f_2 := I_Mo_open I_sMo
  have k_3 : (1 : Int32).toInt = 1 := by decide
  first | have f_4 := i_sub (a := (Mo_open sMo)) (b := 1) (by omega) (by omega) | have f_4 := i_subm (Mo_open sMo) 1
  refine t_Mod_repetition_L7 hf I_sMo ?_ ?_ fu _ (by show -1 ≤ ((Mo_open sMo) - 1).toInt; omega) (by show ((Mo_open sMo) - 1).toInt < 90; omega) (by show ((Mo_open sMo) - 1).toInt + 1 < (fu : Nat); omega)
  · intro y1 p_5 p_6
    unfold Mod_repetition_j26
    refine So.ite (fun c_7 => ?_) (fun c_7 => ?_)
    · rw [i_le] at c_7
      have k_8 : (0 : Int32).toInt = 0 := by decide
      refine So.gd (i_in.mpr (by omega)) ?_
      exact So.one trivial
    · rw [i_le] at c_7
      have k_9 : (0 : Int32).toInt = 0 := by decide
      exact So.one trivial
  · intro q_z h_z
    exact trivial
set_option maxHeartbeats 4000000 in
theorem t_Mod_valueOf {fu : Nat} {sMvalues : (Nat → Int64)} {sMkind : (Nat → Int32)} {sMwidth : (Nat → Int32)} {sMbase : (Nat → Int64)} {sMbits : (Nat → Int32)} {a0 : Int32} {sMo : S_Mo} {sMread : (Nat → Int64)} (hf : 12000 ≤ fu) (I_sMwidth : A_Mwidth sMwidth) (I_sMo : I_Mo sMo) (g_0 : 0 ≤ a0.toInt) (g_1 : a0.toInt < 100) (g_2 : 0 ≤ (Mo_at sMo).toInt) (g_3 : (Mo_mode sMo).toInt < 2 ∨ ((Mo_at sMo).toInt ≤ (Mo_many sMo).toInt ∧ (Mo_many sMo).toInt ≤ 40000)) (g_4 : (Mo_mode sMo).toInt ≠ 3 ∨ (Mo_subsets sMo).toInt ≤ 8) (g_5 : 0 ≤ (Mo_fault sMo).toInt) : So (Mod_valueOf fu sMvalues sMkind sMwidth sMbase sMbits a0 sMo sMread) (fun r => I_Mo r.2.1 ∧ (0 ≤ (Mo_at r.2.1).toInt) ∧ ((Mo_mode r.2.1).toInt < 2 ∨ ((Mo_at r.2.1).toInt ≤ (Mo_many r.2.1).toInt ∧ (Mo_many r.2.1).toInt ≤ 40000)) ∧ ((Mo_mode r.2.1).toInt ≠ 3 ∨ (Mo_subsets r.2.1).toInt ≤ 8) ∧ (0 ≤ (Mo_fault r.2.1).toInt) ∧ ((Mo_open r.2.1).toInt = (Mo_open sMo).toInt) ∧ ((Mo_looked r.2.1).toInt = (Mo_looked sMo).toInt) ∧ ((Mo_fields r.2.1).toInt = (Mo_fields sMo).toInt) ∧ ((Mo_elements r.2.1).toInt = (Mo_elements sMo).toInt) ∧ ((Mo_pointed r.2.1).toInt = (Mo_pointed sMo).toInt) ∧ ((Mo_pointer r.2.1).toInt = (Mo_pointer sMo).toInt) ∧ ((Mo_mode r.2.1).toInt = (Mo_mode sMo).toInt) ∧ ((Mo_subset r.2.1).toInt = (Mo_subset sMo).toInt) ∧ ((Mo_subsets r.2.1).toInt = (Mo_subsets sMo).toInt) ∧ ((Mo_many r.2.1).toInt = (Mo_many sMo).toInt) ∧ KM r.2.1 sMo) := by
  unfold Mod_valueOf
  have f_1 := I_Mo_subset I_sMo
  refine So.ite (fun c_2 => ?_) (fun c_2 => ?_)
  · rw [i_le] at c_2
    have k_3 : (2 : Int32).toInt = 2 := by decide
    refine So.ite (fun c_4 => ?_) (fun c_4 => ?_)
    · rw [i_eq] at c_4
      have k_5 : (3 : Int32).toInt = 3 := by decide
      have f_6 := I_Mo_at I_sMo
      have f_7 := I_Mo_many I_sMo
      have f_8 := I_Mo_open I_sMo
      have f_9 := I_Mo_fields I_sMo
      have f_10 := I_Mo_elements I_sMo
      have f_11 := I_Mo_pointed I_sMo
      have f_12 := I_Mo_pointer I_sMo
      have f_13 := I_Mo_subset I_sMo
      refine So.bd (t_Mod_takeAll hf I_sMwidth I_sMo (by show 0 ≤ a0.toInt; omega) (by show a0.toInt < 100; omega) (by show (Mo_subsets sMo).toInt ≤ 8; omega) (by show 0 ≤ (Mo_at sMo).toInt; omega) (by show (Mo_at sMo).toInt ≤ (Mo_many sMo).toInt; omega) (by show (Mo_many sMo).toInt ≤ 40000; omega) (by show 0 ≤ (Mo_fault sMo).toInt; omega)) fun q7 h_14 => ?_
      obtain ⟨p_15, p_16, p_17, p_18, p_19, p_20, p_21, p_22, p_23, p_24, p_25, p_26, p_27, p_28, p_29, p_30⟩ := h_14
      refine So.gd (i_in.mpr (by omega)) ?_
      exact So.one ⟨p_15, (by show 0 ≤ (Mo_at q7.1).toInt; omega), (by show (Mo_mode q7.1).toInt < 2 ∨ ((Mo_at q7.1).toInt ≤ (Mo_many q7.1).toInt ∧ (Mo_many q7.1).toInt ≤ 40000); omega), (by show (Mo_mode q7.1).toInt ≠ 3 ∨ (Mo_subsets q7.1).toInt ≤ 8; omega), (by show 0 ≤ (Mo_fault q7.1).toInt; omega), (by show (Mo_open q7.1).toInt = (Mo_open sMo).toInt; omega), (by show (Mo_looked q7.1).toInt = (Mo_looked sMo).toInt; omega), (by show (Mo_fields q7.1).toInt = (Mo_fields sMo).toInt; omega), (by show (Mo_elements q7.1).toInt = (Mo_elements sMo).toInt; omega), (by show (Mo_pointed q7.1).toInt = (Mo_pointed sMo).toInt; omega), (by show (Mo_pointer q7.1).toInt = (Mo_pointer sMo).toInt; omega), (by show (Mo_mode q7.1).toInt = (Mo_mode sMo).toInt; omega), (by show (Mo_subset q7.1).toInt = (Mo_subset sMo).toInt; omega), (by show (Mo_subsets q7.1).toInt = (Mo_subsets sMo).toInt; omega), (by show (Mo_many q7.1).toInt = (Mo_many sMo).toInt; omega), (KM.trans p_30 (KM.refl _))⟩
    · rw [i_eq] at c_4
      have k_31 : (3 : Int32).toInt = 3 := by decide
      refine So.gd (i_in.mpr (by omega)) ?_
      have f_32 := A_Mwidth_at I_sMwidth (a0.toNatClampNeg)
      have f_33 := I_Mo_at I_sMo
      have f_34 := I_Mo_many I_sMo
      have f_35 := I_Mo_open I_sMo
      have f_36 := I_Mo_fields I_sMo
      have f_37 := I_Mo_elements I_sMo
      have f_38 := I_Mo_pointed I_sMo
      have f_39 := I_Mo_pointer I_sMo
      have f_40 := I_Mo_subset I_sMo
      refine So.bd (t_Mod_take hf I_sMo (by show (sMwidth (a0.toNatClampNeg)).toInt ≤ 120; omega) (by show 0 ≤ (Mo_at sMo).toInt; omega) (by show (Mo_at sMo).toInt ≤ (Mo_many sMo).toInt; omega) (by show (Mo_many sMo).toInt ≤ 40000; omega) (by show 0 ≤ (Mo_fault sMo).toInt; omega)) fun q2 h_41 => ?_
      obtain ⟨p_42, p_43, p_44, p_45, p_46, p_47, p_48, p_49, p_50, p_51, p_52, p_53, p_54, p_55, p_56⟩ := h_41
      refine So.bd (t_Mod_meant p_42 I_sMwidth (by show 0 ≤ a0.toInt; omega) (by show a0.toInt < 101; omega)) fun q3 h_57 => ?_
      have k_58 : (100 : Int32).toInt = 100 := by decide
      first | have f_59 := i_mull 100 (Mo_subset sMo) (100) (by decide) (by omega) (by omega) | have f_59 := i_mullm 100 (Mo_subset sMo) (100) (by decide)
      first | have f_60 := i_add (a := (100 * (Mo_subset sMo))) (b := a0) (by omega) (by omega) | have f_60 := i_addm (100 * (Mo_subset sMo)) a0
      refine So.gd (i_in.mpr (by omega)) ?_
      refine So.lt2 fun sMread_5 e_61 => ?_
      have f_62 := I_Mo_subset p_42
      first | have f_63 := i_mull 100 (Mo_subset q2.2) (100) (by decide) (by omega) (by omega) | have f_63 := i_mullm 100 (Mo_subset q2.2) (100) (by decide)
      first | have f_64 := i_add (a := (100 * (Mo_subset q2.2))) (b := a0) (by omega) (by omega) | have f_64 := i_addm (100 * (Mo_subset q2.2)) a0
      refine So.gd (i_in.mpr (by omega)) ?_
      exact So.one ⟨p_42, (by show 0 ≤ (Mo_at q2.2).toInt; omega), (by show (Mo_mode q2.2).toInt < 2 ∨ ((Mo_at q2.2).toInt ≤ (Mo_many q2.2).toInt ∧ (Mo_many q2.2).toInt ≤ 40000); omega), (by show (Mo_mode q2.2).toInt ≠ 3 ∨ (Mo_subsets q2.2).toInt ≤ 8; omega), (by show 0 ≤ (Mo_fault q2.2).toInt; omega), (by show (Mo_open q2.2).toInt = (Mo_open sMo).toInt; omega), (by show (Mo_looked q2.2).toInt = (Mo_looked sMo).toInt; omega), (by show (Mo_fields q2.2).toInt = (Mo_fields sMo).toInt; omega), (by show (Mo_elements q2.2).toInt = (Mo_elements sMo).toInt; omega), (by show (Mo_pointed q2.2).toInt = (Mo_pointed sMo).toInt; omega), (by show (Mo_pointer q2.2).toInt = (Mo_pointer sMo).toInt; omega), (by show (Mo_mode q2.2).toInt = (Mo_mode sMo).toInt; omega), (by show (Mo_subset q2.2).toInt = (Mo_subset sMo).toInt; omega), (by show (Mo_subsets q2.2).toInt = (Mo_subsets sMo).toInt; omega), (by show (Mo_many q2.2).toInt = (Mo_many sMo).toInt; omega), (KM.trans p_56 (KM.refl _))⟩
  · rw [i_le] at c_2
    have k_65 : (2 : Int32).toInt = 2 := by decide
    have k_66 : (100 : Int32).toInt = 100 := by decide
    have f_67 := I_Mo_subset I_sMo
    first | have f_68 := i_mull 100 (Mo_subset sMo) (100) (by decide) (by omega) (by omega) | have f_68 := i_mullm 100 (Mo_subset sMo) (100) (by decide)
    first | have f_69 := i_add (a := (100 * (Mo_subset sMo))) (b := a0) (by omega) (by omega) | have f_69 := i_addm (100 * (Mo_subset sMo)) a0
    refine So.gd (i_in.mpr (by omega)) ?_
    exact So.one ⟨I_sMo, (by show 0 ≤ (Mo_at sMo).toInt; omega), (by show (Mo_mode sMo).toInt < 2 ∨ ((Mo_at sMo).toInt ≤ (Mo_many sMo).toInt ∧ (Mo_many sMo).toInt ≤ 40000); omega), (by show (Mo_mode sMo).toInt ≠ 3 ∨ (Mo_subsets sMo).toInt ≤ 8; omega), (by show 0 ≤ (Mo_fault sMo).toInt; omega), (by show (Mo_open sMo).toInt = (Mo_open sMo).toInt; omega), (by show (Mo_looked sMo).toInt = (Mo_looked sMo).toInt; omega), (by show (Mo_fields sMo).toInt = (Mo_fields sMo).toInt; omega), (by show (Mo_elements sMo).toInt = (Mo_elements sMo).toInt; omega), (by show (Mo_pointed sMo).toInt = (Mo_pointed sMo).toInt; omega), (by show (Mo_pointer sMo).toInt = (Mo_pointer sMo).toInt; omega), (by show (Mo_mode sMo).toInt = (Mo_mode sMo).toInt; omega), (by show (Mo_subset sMo).toInt = (Mo_subset sMo).toInt; omega), (by show (Mo_subsets sMo).toInt = (Mo_subsets sMo).toInt; omega), (by show (Mo_many sMo).toInt = (Mo_many sMo).toInt; omega), (KM.refl _)⟩
set_option maxHeartbeats 4000000 in
theorem t_Mod_come_j227 {fu : Nat} {sMvalues : (Nat → Int64)} {sMturn : (Nat → Int32)} {sMbits : (Nat → Int32)} {x9_j227 : Int64} {sMo_j227 : S_Mo} {sMread_j227 : (Nat → Int64)} {sMkind_j227 : (Nat → Int32)} {sMcode_j227 : (Nat → Int32)} {sMwidth_j227 : (Nat → Int32)} {sMscale_j227 : (Nat → Int32)} {sMlink_j227 : (Nat → Int32)} {sMrepeat_j227 : (Nat → Int32)} {sMbase_j227 : (Nat → Int64)} (hf : 12000 ≤ fu) (I_sMo_j227 : I_Mo sMo_j227) (I_sMwidth_j227 : A_Mwidth sMwidth_j227) (g_0 : 0 ≤ (Mo_at sMo_j227).toInt) (g_1 : (Mo_mode sMo_j227).toInt < 2 ∨ ((Mo_at sMo_j227).toInt ≤ (Mo_many sMo_j227).toInt ∧ (Mo_many sMo_j227).toInt ≤ 40000)) (g_2 : (Mo_mode sMo_j227).toInt ≠ 3 ∨ (Mo_subsets sMo_j227).toInt ≤ 8) (g_3 : 0 ≤ (Mo_fault sMo_j227).toInt) : So (Mod_come_j227 fu sMvalues sMturn sMbits x9_j227 sMo_j227 sMread_j227 sMkind_j227 sMcode_j227 sMwidth_j227 sMscale_j227 sMlink_j227 sMrepeat_j227 sMbase_j227) (fun r => I_Mo r.2.1 ∧ A_Mwidth r.2.2.2.2.2.1 ∧ (0 ≤ (Mo_at r.2.1).toInt) ∧ ((Mo_mode r.2.1).toInt < 2 ∨ ((Mo_at r.2.1).toInt ≤ (Mo_many r.2.1).toInt ∧ (Mo_many r.2.1).toInt ≤ 40000)) ∧ ((Mo_mode r.2.1).toInt ≠ 3 ∨ (Mo_subsets r.2.1).toInt ≤ 8) ∧ (0 ≤ (Mo_fault r.2.1).toInt) ∧ ((Mo_open r.2.1).toInt = (Mo_open sMo_j227).toInt) ∧ ((Mo_looked r.2.1).toInt = (Mo_looked sMo_j227).toInt) ∧ ((Mo_fields r.2.1).toInt = (Mo_fields sMo_j227).toInt) ∧ ((Mo_elements r.2.1).toInt = (Mo_elements sMo_j227).toInt) ∧ ((Mo_pointed r.2.1).toInt = (Mo_pointed sMo_j227).toInt) ∧ ((Mo_pointer r.2.1).toInt = (Mo_pointer sMo_j227).toInt) ∧ ((Mo_mode r.2.1).toInt = (Mo_mode sMo_j227).toInt) ∧ ((Mo_subset r.2.1).toInt = (Mo_subset sMo_j227).toInt) ∧ ((Mo_subsets r.2.1).toInt = (Mo_subsets sMo_j227).toInt) ∧ ((Mo_many r.2.1).toInt = (Mo_many sMo_j227).toInt) ∧ KM r.2.1 sMo_j227) := by
  unfold Mod_come_j227
  refine So.ite (fun c_1 => ?_) (fun c_1 => ?_)
  · rw [i_le] at c_1
    have k_2 : (0 : Int32).toInt = 0 := by decide
    exact So.one ⟨I_sMo_j227, I_sMwidth_j227, (by show 0 ≤ (Mo_at sMo_j227).toInt; omega), (by show (Mo_mode sMo_j227).toInt < 2 ∨ ((Mo_at sMo_j227).toInt ≤ (Mo_many sMo_j227).toInt ∧ (Mo_many sMo_j227).toInt ≤ 40000); omega), (by show (Mo_mode sMo_j227).toInt ≠ 3 ∨ (Mo_subsets sMo_j227).toInt ≤ 8; omega), (by show 0 ≤ (Mo_fault sMo_j227).toInt; omega), (by show (Mo_open sMo_j227).toInt = (Mo_open sMo_j227).toInt; omega), (by show (Mo_looked sMo_j227).toInt = (Mo_looked sMo_j227).toInt; omega), (by show (Mo_fields sMo_j227).toInt = (Mo_fields sMo_j227).toInt; omega), (by show (Mo_elements sMo_j227).toInt = (Mo_elements sMo_j227).toInt; omega), (by show (Mo_pointed sMo_j227).toInt = (Mo_pointed sMo_j227).toInt; omega), (by show (Mo_pointer sMo_j227).toInt = (Mo_pointer sMo_j227).toInt; omega), (by show (Mo_mode sMo_j227).toInt = (Mo_mode sMo_j227).toInt; omega), (by show (Mo_subset sMo_j227).toInt = (Mo_subset sMo_j227).toInt; omega), (by show (Mo_subsets sMo_j227).toInt = (Mo_subsets sMo_j227).toInt; omega), (by show (Mo_many sMo_j227).toInt = (Mo_many sMo_j227).toInt; omega), (KM.refl _)⟩
  · rw [i_le] at c_1
    have k_3 : (0 : Int32).toInt = 0 := by decide
    exact So.one ⟨I_sMo_j227, I_sMwidth_j227, (by show 0 ≤ (Mo_at sMo_j227).toInt; omega), (by show (Mo_mode sMo_j227).toInt < 2 ∨ ((Mo_at sMo_j227).toInt ≤ (Mo_many sMo_j227).toInt ∧ (Mo_many sMo_j227).toInt ≤ 40000); omega), (by show (Mo_mode sMo_j227).toInt ≠ 3 ∨ (Mo_subsets sMo_j227).toInt ≤ 8; omega), (by show 0 ≤ (Mo_fault sMo_j227).toInt; omega), (by show (Mo_open sMo_j227).toInt = (Mo_open sMo_j227).toInt; omega), (by show (Mo_looked sMo_j227).toInt = (Mo_looked sMo_j227).toInt; omega), (by show (Mo_fields sMo_j227).toInt = (Mo_fields sMo_j227).toInt; omega), (by show (Mo_elements sMo_j227).toInt = (Mo_elements sMo_j227).toInt; omega), (by show (Mo_pointed sMo_j227).toInt = (Mo_pointed sMo_j227).toInt; omega), (by show (Mo_pointer sMo_j227).toInt = (Mo_pointer sMo_j227).toInt; omega), (by show (Mo_mode sMo_j227).toInt = (Mo_mode sMo_j227).toInt; omega), (by show (Mo_subset sMo_j227).toInt = (Mo_subset sMo_j227).toInt; omega), (by show (Mo_subsets sMo_j227).toInt = (Mo_subsets sMo_j227).toInt; omega), (by show (Mo_many sMo_j227).toInt = (Mo_many sMo_j227).toInt; omega), (KM.refl _)⟩
set_option maxHeartbeats 4000000 in
theorem t_Mod_come_j219 {fu : Nat} {sMvalues : (Nat → Int64)} {sMturn : (Nat → Int32)} {sMbits : (Nat → Int32)} {x8_j219 : Int32} {x9_j219 : Int64} {sMo_j219 : S_Mo} {sMread_j219 : (Nat → Int64)} {sMkind_j219 : (Nat → Int32)} {sMcode_j219 : (Nat → Int32)} {sMwidth_j219 : (Nat → Int32)} {sMscale_j219 : (Nat → Int32)} {sMlink_j219 : (Nat → Int32)} {sMrepeat_j219 : (Nat → Int32)} {sMbase_j219 : (Nat → Int64)} (hf : 12000 ≤ fu) (I_sMo_j219 : I_Mo sMo_j219) (I_sMwidth_j219 : A_Mwidth sMwidth_j219) (g_0 : 0 ≤ (Mo_at sMo_j219).toInt) (g_1 : (Mo_mode sMo_j219).toInt < 2 ∨ ((Mo_at sMo_j219).toInt ≤ (Mo_many sMo_j219).toInt ∧ (Mo_many sMo_j219).toInt ≤ 40000)) (g_2 : (Mo_mode sMo_j219).toInt ≠ 3 ∨ (Mo_subsets sMo_j219).toInt ≤ 8) (g_3 : 0 ≤ (Mo_fault sMo_j219).toInt) : So (Mod_come_j219 fu sMvalues sMturn sMbits x8_j219 x9_j219 sMo_j219 sMread_j219 sMkind_j219 sMcode_j219 sMwidth_j219 sMscale_j219 sMlink_j219 sMrepeat_j219 sMbase_j219) (fun r => I_Mo r.2.1 ∧ A_Mwidth r.2.2.2.2.2.1 ∧ (0 ≤ (Mo_at r.2.1).toInt) ∧ ((Mo_mode r.2.1).toInt < 2 ∨ ((Mo_at r.2.1).toInt ≤ (Mo_many r.2.1).toInt ∧ (Mo_many r.2.1).toInt ≤ 40000)) ∧ ((Mo_mode r.2.1).toInt ≠ 3 ∨ (Mo_subsets r.2.1).toInt ≤ 8) ∧ (0 ≤ (Mo_fault r.2.1).toInt) ∧ ((Mo_open r.2.1).toInt = (Mo_open sMo_j219).toInt) ∧ ((Mo_looked r.2.1).toInt = (Mo_looked sMo_j219).toInt) ∧ ((Mo_fields r.2.1).toInt = (Mo_fields sMo_j219).toInt) ∧ ((Mo_elements r.2.1).toInt = (Mo_elements sMo_j219).toInt) ∧ ((Mo_pointed r.2.1).toInt = (Mo_pointed sMo_j219).toInt) ∧ ((Mo_pointer r.2.1).toInt = (Mo_pointer sMo_j219).toInt) ∧ ((Mo_mode r.2.1).toInt = (Mo_mode sMo_j219).toInt) ∧ ((Mo_subset r.2.1).toInt = (Mo_subset sMo_j219).toInt) ∧ ((Mo_subsets r.2.1).toInt = (Mo_subsets sMo_j219).toInt) ∧ ((Mo_many r.2.1).toInt = (Mo_many sMo_j219).toInt) ∧ KM r.2.1 sMo_j219) := by
  unfold Mod_come_j219
  have k_1 : (9 : Int32).toInt = 9 := by decide
  have f_2 := I_Mo_open I_sMo_j219
  have f_3 := I_Mo_fields I_sMo_j219
  have f_4 := I_Mo_elements I_sMo_j219
  have f_5 := I_Mo_pointed I_sMo_j219
  have f_6 := I_Mo_pointer I_sMo_j219
  have f_7 := I_Mo_subset I_sMo_j219
  have f_8 := I_Mo_many I_sMo_j219
  have f_9 := I_Mo_at I_sMo_j219
  refine So.bd (t_Mod_wrongAt I_sMo_j219 (by show 0 < (9 : Int32).toInt; omega)) fun q36 h_10 => ?_
  obtain ⟨p_11, p_12, p_13, p_14, p_15, p_16, p_17, p_18, p_19, p_20, p_21, p_22, p_23, p_24⟩ := h_10
  have f_25 := I_Mo_at p_11
  have f_26 := I_Mo_many p_11
  refine So.imp (t_Mod_come_j227 hf p_11 I_sMwidth_j219 (by show 0 ≤ (Mo_at q36).toInt; omega) (by show (Mo_mode q36).toInt < 2 ∨ ((Mo_at q36).toInt ≤ (Mo_many q36).toInt ∧ (Mo_many q36).toInt ≤ 40000); omega) (by show (Mo_mode q36).toInt ≠ 3 ∨ (Mo_subsets q36).toInt ≤ 8; omega) (by show 0 ≤ (Mo_fault q36).toInt; omega)) fun q_z h_z => ?_
  obtain ⟨p_27, p_28, p_29, p_30, p_31, p_32, p_33, p_34, p_35, p_36, p_37, p_38, p_39, p_40, p_41, p_42, p_43⟩ := h_z
  exact ⟨p_27, p_28, (by show 0 ≤ (Mo_at q_z.2.1).toInt; omega), (by show (Mo_mode q_z.2.1).toInt < 2 ∨ ((Mo_at q_z.2.1).toInt ≤ (Mo_many q_z.2.1).toInt ∧ (Mo_many q_z.2.1).toInt ≤ 40000); omega), (by show (Mo_mode q_z.2.1).toInt ≠ 3 ∨ (Mo_subsets q_z.2.1).toInt ≤ 8; omega), (by show 0 ≤ (Mo_fault q_z.2.1).toInt; omega), (by show (Mo_open q_z.2.1).toInt = (Mo_open sMo_j219).toInt; omega), (by show (Mo_looked q_z.2.1).toInt = (Mo_looked sMo_j219).toInt; omega), (by show (Mo_fields q_z.2.1).toInt = (Mo_fields sMo_j219).toInt; omega), (by show (Mo_elements q_z.2.1).toInt = (Mo_elements sMo_j219).toInt; omega), (by show (Mo_pointed q_z.2.1).toInt = (Mo_pointed sMo_j219).toInt; omega), (by show (Mo_pointer q_z.2.1).toInt = (Mo_pointer sMo_j219).toInt; omega), (by show (Mo_mode q_z.2.1).toInt = (Mo_mode sMo_j219).toInt; omega), (by show (Mo_subset q_z.2.1).toInt = (Mo_subset sMo_j219).toInt; omega), (by show (Mo_subsets q_z.2.1).toInt = (Mo_subsets sMo_j219).toInt; omega), (by show (Mo_many q_z.2.1).toInt = (Mo_many sMo_j219).toInt; omega), (KM.trans p_43 (KM.trans p_24 (KM.refl _)))⟩
set_option maxHeartbeats 4000000 in
theorem t_Mod_come_j165 {fu : Nat} {sMvalues : (Nat → Int64)} {sMturn : (Nat → Int32)} {sMbits : (Nat → Int32)} {x1_j165 : Int32} {x3_j165 : Int32} {x5_j165 : Int64} {x8_j165 : Int32} {x9_j165 : Int64} {sMo_j165 : S_Mo} {sMread_j165 : (Nat → Int64)} {sMkind_j165 : (Nat → Int32)} {sMcode_j165 : (Nat → Int32)} {sMwidth_j165 : (Nat → Int32)} {sMscale_j165 : (Nat → Int32)} {sMlink_j165 : (Nat → Int32)} {sMrepeat_j165 : (Nat → Int32)} {sMbase_j165 : (Nat → Int64)} (hf : 12000 ≤ fu) (I_sMo_j165 : I_Mo sMo_j165) (I_sMwidth_j165 : A_Mwidth sMwidth_j165) (g_0 : 0 ≤ (Mo_at sMo_j165).toInt) (g_1 : (Mo_mode sMo_j165).toInt < 2 ∨ ((Mo_at sMo_j165).toInt ≤ (Mo_many sMo_j165).toInt ∧ (Mo_many sMo_j165).toInt ≤ 40000)) (g_2 : (Mo_mode sMo_j165).toInt ≠ 3 ∨ (Mo_subsets sMo_j165).toInt ≤ 8) (g_3 : 0 ≤ (Mo_fault sMo_j165).toInt) : So (Mod_come_j165 fu sMvalues sMturn sMbits x1_j165 x3_j165 x5_j165 x8_j165 x9_j165 sMo_j165 sMread_j165 sMkind_j165 sMcode_j165 sMwidth_j165 sMscale_j165 sMlink_j165 sMrepeat_j165 sMbase_j165) (fun r => I_Mo r.2.1 ∧ A_Mwidth r.2.2.2.2.2.1 ∧ (0 ≤ (Mo_at r.2.1).toInt) ∧ ((Mo_mode r.2.1).toInt < 2 ∨ ((Mo_at r.2.1).toInt ≤ (Mo_many r.2.1).toInt ∧ (Mo_many r.2.1).toInt ≤ 40000)) ∧ ((Mo_mode r.2.1).toInt ≠ 3 ∨ (Mo_subsets r.2.1).toInt ≤ 8) ∧ (0 ≤ (Mo_fault r.2.1).toInt) ∧ ((Mo_open r.2.1).toInt = (Mo_open sMo_j165).toInt) ∧ ((Mo_looked r.2.1).toInt = (Mo_looked sMo_j165).toInt) ∧ ((Mo_fields r.2.1).toInt = (Mo_fields sMo_j165).toInt) ∧ ((Mo_elements r.2.1).toInt = (Mo_elements sMo_j165).toInt) ∧ ((Mo_pointed r.2.1).toInt = (Mo_pointed sMo_j165).toInt) ∧ ((Mo_pointer r.2.1).toInt = (Mo_pointer sMo_j165).toInt) ∧ ((Mo_mode r.2.1).toInt = (Mo_mode sMo_j165).toInt) ∧ ((Mo_subset r.2.1).toInt = (Mo_subset sMo_j165).toInt) ∧ ((Mo_subsets r.2.1).toInt = (Mo_subsets sMo_j165).toInt) ∧ ((Mo_many r.2.1).toInt = (Mo_many sMo_j165).toInt) ∧ KM r.2.1 sMo_j165) := by
  unfold Mod_come_j165
  refine So.ite (fun c_1 => ?_) (fun c_1 => ?_)
  · rw [i_eq] at c_1
    have k_2 : (0 : Int32).toInt = 0 := by decide
    refine So.ite (fun c_3 => ?_) (fun c_3 => ?_)
    · rw [i_eq] at c_3
      have k_4 : (1 : Int32).toInt = 1 := by decide
      refine So.ite (fun c_5 => ?_) (fun c_5 => ?_)
      · rw [i_eq] at c_5
        have k_6 : (3 : Int32).toInt = 3 := by decide
        have f_7 := I_Mo_at I_sMo_j165
        have f_8 := I_Mo_many I_sMo_j165
        refine So.imp (t_Mod_come_j227 hf I_sMo_j165 I_sMwidth_j165 (by show 0 ≤ (Mo_at sMo_j165).toInt; omega) (by show (Mo_mode sMo_j165).toInt < 2 ∨ ((Mo_at sMo_j165).toInt ≤ (Mo_many sMo_j165).toInt ∧ (Mo_many sMo_j165).toInt ≤ 40000); omega) (by show (Mo_mode sMo_j165).toInt ≠ 3 ∨ (Mo_subsets sMo_j165).toInt ≤ 8; omega) (by show 0 ≤ (Mo_fault sMo_j165).toInt; omega)) fun q_z h_z => ?_
        obtain ⟨p_9, p_10, p_11, p_12, p_13, p_14, p_15, p_16, p_17, p_18, p_19, p_20, p_21, p_22, p_23, p_24, p_25⟩ := h_z
        exact ⟨p_9, p_10, (by show 0 ≤ (Mo_at q_z.2.1).toInt; omega), (by show (Mo_mode q_z.2.1).toInt < 2 ∨ ((Mo_at q_z.2.1).toInt ≤ (Mo_many q_z.2.1).toInt ∧ (Mo_many q_z.2.1).toInt ≤ 40000); omega), (by show (Mo_mode q_z.2.1).toInt ≠ 3 ∨ (Mo_subsets q_z.2.1).toInt ≤ 8; omega), (by show 0 ≤ (Mo_fault q_z.2.1).toInt; omega), (by show (Mo_open q_z.2.1).toInt = (Mo_open sMo_j165).toInt; omega), (by show (Mo_looked q_z.2.1).toInt = (Mo_looked sMo_j165).toInt; omega), (by show (Mo_fields q_z.2.1).toInt = (Mo_fields sMo_j165).toInt; omega), (by show (Mo_elements q_z.2.1).toInt = (Mo_elements sMo_j165).toInt; omega), (by show (Mo_pointed q_z.2.1).toInt = (Mo_pointed sMo_j165).toInt; omega), (by show (Mo_pointer q_z.2.1).toInt = (Mo_pointer sMo_j165).toInt; omega), (by show (Mo_mode q_z.2.1).toInt = (Mo_mode sMo_j165).toInt; omega), (by show (Mo_subset q_z.2.1).toInt = (Mo_subset sMo_j165).toInt; omega), (by show (Mo_subsets q_z.2.1).toInt = (Mo_subsets sMo_j165).toInt; omega), (by show (Mo_many q_z.2.1).toInt = (Mo_many sMo_j165).toInt; omega), (KM.trans p_25 (KM.refl _))⟩
      · rw [i_eq] at c_5
        have k_26 : (3 : Int32).toInt = 3 := by decide
        refine So.ite (fun c_27 => ?_) (fun c_27 => ?_)
        · have f_28 := I_Mo_at I_sMo_j165
          have f_29 := I_Mo_many I_sMo_j165
          refine So.imp (t_Mod_come_j227 hf I_sMo_j165 I_sMwidth_j165 (by show 0 ≤ (Mo_at sMo_j165).toInt; omega) (by show (Mo_mode sMo_j165).toInt < 2 ∨ ((Mo_at sMo_j165).toInt ≤ (Mo_many sMo_j165).toInt ∧ (Mo_many sMo_j165).toInt ≤ 40000); omega) (by show (Mo_mode sMo_j165).toInt ≠ 3 ∨ (Mo_subsets sMo_j165).toInt ≤ 8; omega) (by show 0 ≤ (Mo_fault sMo_j165).toInt; omega)) fun q_z h_z => ?_
          obtain ⟨p_30, p_31, p_32, p_33, p_34, p_35, p_36, p_37, p_38, p_39, p_40, p_41, p_42, p_43, p_44, p_45, p_46⟩ := h_z
          exact ⟨p_30, p_31, (by show 0 ≤ (Mo_at q_z.2.1).toInt; omega), (by show (Mo_mode q_z.2.1).toInt < 2 ∨ ((Mo_at q_z.2.1).toInt ≤ (Mo_many q_z.2.1).toInt ∧ (Mo_many q_z.2.1).toInt ≤ 40000); omega), (by show (Mo_mode q_z.2.1).toInt ≠ 3 ∨ (Mo_subsets q_z.2.1).toInt ≤ 8; omega), (by show 0 ≤ (Mo_fault q_z.2.1).toInt; omega), (by show (Mo_open q_z.2.1).toInt = (Mo_open sMo_j165).toInt; omega), (by show (Mo_looked q_z.2.1).toInt = (Mo_looked sMo_j165).toInt; omega), (by show (Mo_fields q_z.2.1).toInt = (Mo_fields sMo_j165).toInt; omega), (by show (Mo_elements q_z.2.1).toInt = (Mo_elements sMo_j165).toInt; omega), (by show (Mo_pointed q_z.2.1).toInt = (Mo_pointed sMo_j165).toInt; omega), (by show (Mo_pointer q_z.2.1).toInt = (Mo_pointer sMo_j165).toInt; omega), (by show (Mo_mode q_z.2.1).toInt = (Mo_mode sMo_j165).toInt; omega), (by show (Mo_subset q_z.2.1).toInt = (Mo_subset sMo_j165).toInt; omega), (by show (Mo_subsets q_z.2.1).toInt = (Mo_subsets sMo_j165).toInt; omega), (by show (Mo_many q_z.2.1).toInt = (Mo_many sMo_j165).toInt; omega), (KM.trans p_46 (KM.refl _))⟩
        · refine So.ite (fun c_47 => ?_) (fun c_47 => ?_)
          · have f_48 := I_Mo_at I_sMo_j165
            have f_49 := I_Mo_many I_sMo_j165
            refine So.imp (t_Mod_come_j219 hf I_sMo_j165 I_sMwidth_j165 (by show 0 ≤ (Mo_at sMo_j165).toInt; omega) (by show (Mo_mode sMo_j165).toInt < 2 ∨ ((Mo_at sMo_j165).toInt ≤ (Mo_many sMo_j165).toInt ∧ (Mo_many sMo_j165).toInt ≤ 40000); omega) (by show (Mo_mode sMo_j165).toInt ≠ 3 ∨ (Mo_subsets sMo_j165).toInt ≤ 8; omega) (by show 0 ≤ (Mo_fault sMo_j165).toInt; omega)) fun q_z h_z => ?_
            obtain ⟨p_50, p_51, p_52, p_53, p_54, p_55, p_56, p_57, p_58, p_59, p_60, p_61, p_62, p_63, p_64, p_65, p_66⟩ := h_z
            exact ⟨p_50, p_51, (by show 0 ≤ (Mo_at q_z.2.1).toInt; omega), (by show (Mo_mode q_z.2.1).toInt < 2 ∨ ((Mo_at q_z.2.1).toInt ≤ (Mo_many q_z.2.1).toInt ∧ (Mo_many q_z.2.1).toInt ≤ 40000); omega), (by show (Mo_mode q_z.2.1).toInt ≠ 3 ∨ (Mo_subsets q_z.2.1).toInt ≤ 8; omega), (by show 0 ≤ (Mo_fault q_z.2.1).toInt; omega), (by show (Mo_open q_z.2.1).toInt = (Mo_open sMo_j165).toInt; omega), (by show (Mo_looked q_z.2.1).toInt = (Mo_looked sMo_j165).toInt; omega), (by show (Mo_fields q_z.2.1).toInt = (Mo_fields sMo_j165).toInt; omega), (by show (Mo_elements q_z.2.1).toInt = (Mo_elements sMo_j165).toInt; omega), (by show (Mo_pointed q_z.2.1).toInt = (Mo_pointed sMo_j165).toInt; omega), (by show (Mo_pointer q_z.2.1).toInt = (Mo_pointer sMo_j165).toInt; omega), (by show (Mo_mode q_z.2.1).toInt = (Mo_mode sMo_j165).toInt; omega), (by show (Mo_subset q_z.2.1).toInt = (Mo_subset sMo_j165).toInt; omega), (by show (Mo_subsets q_z.2.1).toInt = (Mo_subsets sMo_j165).toInt; omega), (by show (Mo_many q_z.2.1).toInt = (Mo_many sMo_j165).toInt; omega), (KM.trans p_66 (KM.refl _))⟩
          · refine So.bd (t_Mod_most ) fun q29 h_67 => ?_
            refine So.ite (fun c_68 => ?_) (fun c_68 => ?_)
            · have f_69 := I_Mo_at I_sMo_j165
              have f_70 := I_Mo_many I_sMo_j165
              refine So.imp (t_Mod_come_j227 hf I_sMo_j165 I_sMwidth_j165 (by show 0 ≤ (Mo_at sMo_j165).toInt; omega) (by show (Mo_mode sMo_j165).toInt < 2 ∨ ((Mo_at sMo_j165).toInt ≤ (Mo_many sMo_j165).toInt ∧ (Mo_many sMo_j165).toInt ≤ 40000); omega) (by show (Mo_mode sMo_j165).toInt ≠ 3 ∨ (Mo_subsets sMo_j165).toInt ≤ 8; omega) (by show 0 ≤ (Mo_fault sMo_j165).toInt; omega)) fun q_z h_z => ?_
              obtain ⟨p_71, p_72, p_73, p_74, p_75, p_76, p_77, p_78, p_79, p_80, p_81, p_82, p_83, p_84, p_85, p_86, p_87⟩ := h_z
              exact ⟨p_71, p_72, (by show 0 ≤ (Mo_at q_z.2.1).toInt; omega), (by show (Mo_mode q_z.2.1).toInt < 2 ∨ ((Mo_at q_z.2.1).toInt ≤ (Mo_many q_z.2.1).toInt ∧ (Mo_many q_z.2.1).toInt ≤ 40000); omega), (by show (Mo_mode q_z.2.1).toInt ≠ 3 ∨ (Mo_subsets q_z.2.1).toInt ≤ 8; omega), (by show 0 ≤ (Mo_fault q_z.2.1).toInt; omega), (by show (Mo_open q_z.2.1).toInt = (Mo_open sMo_j165).toInt; omega), (by show (Mo_looked q_z.2.1).toInt = (Mo_looked sMo_j165).toInt; omega), (by show (Mo_fields q_z.2.1).toInt = (Mo_fields sMo_j165).toInt; omega), (by show (Mo_elements q_z.2.1).toInt = (Mo_elements sMo_j165).toInt; omega), (by show (Mo_pointed q_z.2.1).toInt = (Mo_pointed sMo_j165).toInt; omega), (by show (Mo_pointer q_z.2.1).toInt = (Mo_pointer sMo_j165).toInt; omega), (by show (Mo_mode q_z.2.1).toInt = (Mo_mode sMo_j165).toInt; omega), (by show (Mo_subset q_z.2.1).toInt = (Mo_subset sMo_j165).toInt; omega), (by show (Mo_subsets q_z.2.1).toInt = (Mo_subsets sMo_j165).toInt; omega), (by show (Mo_many q_z.2.1).toInt = (Mo_many sMo_j165).toInt; omega), (KM.trans p_87 (KM.refl _))⟩
            · have f_88 := I_Mo_at I_sMo_j165
              have f_89 := I_Mo_many I_sMo_j165
              refine So.imp (t_Mod_come_j219 hf I_sMo_j165 I_sMwidth_j165 (by show 0 ≤ (Mo_at sMo_j165).toInt; omega) (by show (Mo_mode sMo_j165).toInt < 2 ∨ ((Mo_at sMo_j165).toInt ≤ (Mo_many sMo_j165).toInt ∧ (Mo_many sMo_j165).toInt ≤ 40000); omega) (by show (Mo_mode sMo_j165).toInt ≠ 3 ∨ (Mo_subsets sMo_j165).toInt ≤ 8; omega) (by show 0 ≤ (Mo_fault sMo_j165).toInt; omega)) fun q_z h_z => ?_
              obtain ⟨p_90, p_91, p_92, p_93, p_94, p_95, p_96, p_97, p_98, p_99, p_100, p_101, p_102, p_103, p_104, p_105, p_106⟩ := h_z
              exact ⟨p_90, p_91, (by show 0 ≤ (Mo_at q_z.2.1).toInt; omega), (by show (Mo_mode q_z.2.1).toInt < 2 ∨ ((Mo_at q_z.2.1).toInt ≤ (Mo_many q_z.2.1).toInt ∧ (Mo_many q_z.2.1).toInt ≤ 40000); omega), (by show (Mo_mode q_z.2.1).toInt ≠ 3 ∨ (Mo_subsets q_z.2.1).toInt ≤ 8; omega), (by show 0 ≤ (Mo_fault q_z.2.1).toInt; omega), (by show (Mo_open q_z.2.1).toInt = (Mo_open sMo_j165).toInt; omega), (by show (Mo_looked q_z.2.1).toInt = (Mo_looked sMo_j165).toInt; omega), (by show (Mo_fields q_z.2.1).toInt = (Mo_fields sMo_j165).toInt; omega), (by show (Mo_elements q_z.2.1).toInt = (Mo_elements sMo_j165).toInt; omega), (by show (Mo_pointed q_z.2.1).toInt = (Mo_pointed sMo_j165).toInt; omega), (by show (Mo_pointer q_z.2.1).toInt = (Mo_pointer sMo_j165).toInt; omega), (by show (Mo_mode q_z.2.1).toInt = (Mo_mode sMo_j165).toInt; omega), (by show (Mo_subset q_z.2.1).toInt = (Mo_subset sMo_j165).toInt; omega), (by show (Mo_subsets q_z.2.1).toInt = (Mo_subsets sMo_j165).toInt; omega), (by show (Mo_many q_z.2.1).toInt = (Mo_many sMo_j165).toInt; omega), (KM.trans p_106 (KM.refl _))⟩
    · rw [i_eq] at c_3
      have k_107 : (1 : Int32).toInt = 1 := by decide
      have f_108 := I_Mo_at I_sMo_j165
      have f_109 := I_Mo_many I_sMo_j165
      refine So.imp (t_Mod_come_j227 hf I_sMo_j165 I_sMwidth_j165 (by show 0 ≤ (Mo_at sMo_j165).toInt; omega) (by show (Mo_mode sMo_j165).toInt < 2 ∨ ((Mo_at sMo_j165).toInt ≤ (Mo_many sMo_j165).toInt ∧ (Mo_many sMo_j165).toInt ≤ 40000); omega) (by show (Mo_mode sMo_j165).toInt ≠ 3 ∨ (Mo_subsets sMo_j165).toInt ≤ 8; omega) (by show 0 ≤ (Mo_fault sMo_j165).toInt; omega)) fun q_z h_z => ?_
      obtain ⟨p_110, p_111, p_112, p_113, p_114, p_115, p_116, p_117, p_118, p_119, p_120, p_121, p_122, p_123, p_124, p_125, p_126⟩ := h_z
      exact ⟨p_110, p_111, (by show 0 ≤ (Mo_at q_z.2.1).toInt; omega), (by show (Mo_mode q_z.2.1).toInt < 2 ∨ ((Mo_at q_z.2.1).toInt ≤ (Mo_many q_z.2.1).toInt ∧ (Mo_many q_z.2.1).toInt ≤ 40000); omega), (by show (Mo_mode q_z.2.1).toInt ≠ 3 ∨ (Mo_subsets q_z.2.1).toInt ≤ 8; omega), (by show 0 ≤ (Mo_fault q_z.2.1).toInt; omega), (by show (Mo_open q_z.2.1).toInt = (Mo_open sMo_j165).toInt; omega), (by show (Mo_looked q_z.2.1).toInt = (Mo_looked sMo_j165).toInt; omega), (by show (Mo_fields q_z.2.1).toInt = (Mo_fields sMo_j165).toInt; omega), (by show (Mo_elements q_z.2.1).toInt = (Mo_elements sMo_j165).toInt; omega), (by show (Mo_pointed q_z.2.1).toInt = (Mo_pointed sMo_j165).toInt; omega), (by show (Mo_pointer q_z.2.1).toInt = (Mo_pointer sMo_j165).toInt; omega), (by show (Mo_mode q_z.2.1).toInt = (Mo_mode sMo_j165).toInt; omega), (by show (Mo_subset q_z.2.1).toInt = (Mo_subset sMo_j165).toInt; omega), (by show (Mo_subsets q_z.2.1).toInt = (Mo_subsets sMo_j165).toInt; omega), (by show (Mo_many q_z.2.1).toInt = (Mo_many sMo_j165).toInt; omega), (KM.trans p_126 (KM.refl _))⟩
  · rw [i_eq] at c_1
    have k_127 : (0 : Int32).toInt = 0 := by decide
    have f_128 := I_Mo_at I_sMo_j165
    have f_129 := I_Mo_many I_sMo_j165
    refine So.imp (t_Mod_come_j227 hf I_sMo_j165 I_sMwidth_j165 (by show 0 ≤ (Mo_at sMo_j165).toInt; omega) (by show (Mo_mode sMo_j165).toInt < 2 ∨ ((Mo_at sMo_j165).toInt ≤ (Mo_many sMo_j165).toInt ∧ (Mo_many sMo_j165).toInt ≤ 40000); omega) (by show (Mo_mode sMo_j165).toInt ≠ 3 ∨ (Mo_subsets sMo_j165).toInt ≤ 8; omega) (by show 0 ≤ (Mo_fault sMo_j165).toInt; omega)) fun q_z h_z => ?_
    obtain ⟨p_130, p_131, p_132, p_133, p_134, p_135, p_136, p_137, p_138, p_139, p_140, p_141, p_142, p_143, p_144, p_145, p_146⟩ := h_z
    exact ⟨p_130, p_131, (by show 0 ≤ (Mo_at q_z.2.1).toInt; omega), (by show (Mo_mode q_z.2.1).toInt < 2 ∨ ((Mo_at q_z.2.1).toInt ≤ (Mo_many q_z.2.1).toInt ∧ (Mo_many q_z.2.1).toInt ≤ 40000); omega), (by show (Mo_mode q_z.2.1).toInt ≠ 3 ∨ (Mo_subsets q_z.2.1).toInt ≤ 8; omega), (by show 0 ≤ (Mo_fault q_z.2.1).toInt; omega), (by show (Mo_open q_z.2.1).toInt = (Mo_open sMo_j165).toInt; omega), (by show (Mo_looked q_z.2.1).toInt = (Mo_looked sMo_j165).toInt; omega), (by show (Mo_fields q_z.2.1).toInt = (Mo_fields sMo_j165).toInt; omega), (by show (Mo_elements q_z.2.1).toInt = (Mo_elements sMo_j165).toInt; omega), (by show (Mo_pointed q_z.2.1).toInt = (Mo_pointed sMo_j165).toInt; omega), (by show (Mo_pointer q_z.2.1).toInt = (Mo_pointer sMo_j165).toInt; omega), (by show (Mo_mode q_z.2.1).toInt = (Mo_mode sMo_j165).toInt; omega), (by show (Mo_subset q_z.2.1).toInt = (Mo_subset sMo_j165).toInt; omega), (by show (Mo_subsets q_z.2.1).toInt = (Mo_subsets sMo_j165).toInt; omega), (by show (Mo_many q_z.2.1).toInt = (Mo_many sMo_j165).toInt; omega), (KM.trans p_146 (KM.refl _))⟩
set_option maxHeartbeats 4000000 in
theorem t_Mod_come_j157 {fu : Nat} {sMvalues : (Nat → Int64)} {sMturn : (Nat → Int32)} {sMbits : (Nat → Int32)} {x1_j157 : Int32} {x3_j157 : Int32} {x5_j157 : Int64} {x8_j157 : Int32} {x9_j157 : Int64} {sMo_j157 : S_Mo} {sMread_j157 : (Nat → Int64)} {sMkind_j157 : (Nat → Int32)} {sMcode_j157 : (Nat → Int32)} {sMwidth_j157 : (Nat → Int32)} {sMscale_j157 : (Nat → Int32)} {sMlink_j157 : (Nat → Int32)} {sMrepeat_j157 : (Nat → Int32)} {sMbase_j157 : (Nat → Int64)} (hf : 12000 ≤ fu) (I_sMo_j157 : I_Mo sMo_j157) (I_sMwidth_j157 : A_Mwidth sMwidth_j157) (g_0 : 0 ≤ (Mo_at sMo_j157).toInt) (g_1 : (Mo_mode sMo_j157).toInt < 2 ∨ ((Mo_at sMo_j157).toInt ≤ (Mo_many sMo_j157).toInt ∧ (Mo_many sMo_j157).toInt ≤ 40000)) (g_2 : (Mo_mode sMo_j157).toInt ≠ 3 ∨ (Mo_subsets sMo_j157).toInt ≤ 8) (g_3 : 0 ≤ (Mo_fault sMo_j157).toInt) : So (Mod_come_j157 fu sMvalues sMturn sMbits x1_j157 x3_j157 x5_j157 x8_j157 x9_j157 sMo_j157 sMread_j157 sMkind_j157 sMcode_j157 sMwidth_j157 sMscale_j157 sMlink_j157 sMrepeat_j157 sMbase_j157) (fun r => I_Mo r.2.1 ∧ A_Mwidth r.2.2.2.2.2.1 ∧ (0 ≤ (Mo_at r.2.1).toInt) ∧ ((Mo_mode r.2.1).toInt < 2 ∨ ((Mo_at r.2.1).toInt ≤ (Mo_many r.2.1).toInt ∧ (Mo_many r.2.1).toInt ≤ 40000)) ∧ ((Mo_mode r.2.1).toInt ≠ 3 ∨ (Mo_subsets r.2.1).toInt ≤ 8) ∧ (0 ≤ (Mo_fault r.2.1).toInt) ∧ ((Mo_open r.2.1).toInt = (Mo_open sMo_j157).toInt) ∧ ((Mo_looked r.2.1).toInt = (Mo_looked sMo_j157).toInt) ∧ ((Mo_fields r.2.1).toInt = (Mo_fields sMo_j157).toInt) ∧ ((Mo_elements r.2.1).toInt = (Mo_elements sMo_j157).toInt) ∧ ((Mo_pointed r.2.1).toInt = (Mo_pointed sMo_j157).toInt) ∧ ((Mo_pointer r.2.1).toInt = (Mo_pointer sMo_j157).toInt) ∧ ((Mo_mode r.2.1).toInt = (Mo_mode sMo_j157).toInt) ∧ ((Mo_subset r.2.1).toInt = (Mo_subset sMo_j157).toInt) ∧ ((Mo_subsets r.2.1).toInt = (Mo_subsets sMo_j157).toInt) ∧ ((Mo_many r.2.1).toInt = (Mo_many sMo_j157).toInt) ∧ KM r.2.1 sMo_j157) := by
  unfold Mod_come_j157
  have k_1 : (6 : Int32).toInt = 6 := by decide
  have f_2 := I_Mo_open I_sMo_j157
  have f_3 := I_Mo_fields I_sMo_j157
  have f_4 := I_Mo_elements I_sMo_j157
  have f_5 := I_Mo_pointed I_sMo_j157
  have f_6 := I_Mo_pointer I_sMo_j157
  have f_7 := I_Mo_subset I_sMo_j157
  have f_8 := I_Mo_many I_sMo_j157
  have f_9 := I_Mo_at I_sMo_j157
  refine So.bd (t_Mod_wrongAt I_sMo_j157 (by show 0 < (6 : Int32).toInt; omega)) fun q28 h_10 => ?_
  obtain ⟨p_11, p_12, p_13, p_14, p_15, p_16, p_17, p_18, p_19, p_20, p_21, p_22, p_23, p_24⟩ := h_10
  have f_25 := I_Mo_at p_11
  have f_26 := I_Mo_many p_11
  refine So.imp (t_Mod_come_j165 hf p_11 I_sMwidth_j157 (by show 0 ≤ (Mo_at q28).toInt; omega) (by show (Mo_mode q28).toInt < 2 ∨ ((Mo_at q28).toInt ≤ (Mo_many q28).toInt ∧ (Mo_many q28).toInt ≤ 40000); omega) (by show (Mo_mode q28).toInt ≠ 3 ∨ (Mo_subsets q28).toInt ≤ 8; omega) (by show 0 ≤ (Mo_fault q28).toInt; omega)) fun q_z h_z => ?_
  obtain ⟨p_27, p_28, p_29, p_30, p_31, p_32, p_33, p_34, p_35, p_36, p_37, p_38, p_39, p_40, p_41, p_42, p_43⟩ := h_z
  exact ⟨p_27, p_28, (by show 0 ≤ (Mo_at q_z.2.1).toInt; omega), (by show (Mo_mode q_z.2.1).toInt < 2 ∨ ((Mo_at q_z.2.1).toInt ≤ (Mo_many q_z.2.1).toInt ∧ (Mo_many q_z.2.1).toInt ≤ 40000); omega), (by show (Mo_mode q_z.2.1).toInt ≠ 3 ∨ (Mo_subsets q_z.2.1).toInt ≤ 8; omega), (by show 0 ≤ (Mo_fault q_z.2.1).toInt; omega), (by show (Mo_open q_z.2.1).toInt = (Mo_open sMo_j157).toInt; omega), (by show (Mo_looked q_z.2.1).toInt = (Mo_looked sMo_j157).toInt; omega), (by show (Mo_fields q_z.2.1).toInt = (Mo_fields sMo_j157).toInt; omega), (by show (Mo_elements q_z.2.1).toInt = (Mo_elements sMo_j157).toInt; omega), (by show (Mo_pointed q_z.2.1).toInt = (Mo_pointed sMo_j157).toInt; omega), (by show (Mo_pointer q_z.2.1).toInt = (Mo_pointer sMo_j157).toInt; omega), (by show (Mo_mode q_z.2.1).toInt = (Mo_mode sMo_j157).toInt; omega), (by show (Mo_subset q_z.2.1).toInt = (Mo_subset sMo_j157).toInt; omega), (by show (Mo_subsets q_z.2.1).toInt = (Mo_subsets sMo_j157).toInt; omega), (by show (Mo_many q_z.2.1).toInt = (Mo_many sMo_j157).toInt; omega), (KM.trans p_43 (KM.trans p_24 (KM.refl _)))⟩
set_option maxHeartbeats 4000000 in
theorem t_Mod_come_j138 {fu : Nat} {sMvalues : (Nat → Int64)} {sMturn : (Nat → Int32)} {sMbits : (Nat → Int32)} {x1_j138 : Int32} {x3_j138 : Int32} {x5_j138 : Int64} {x8_j138 : Int32} {x9_j138 : Int64} {sMo_j138 : S_Mo} {sMread_j138 : (Nat → Int64)} {sMkind_j138 : (Nat → Int32)} {sMcode_j138 : (Nat → Int32)} {sMwidth_j138 : (Nat → Int32)} {sMscale_j138 : (Nat → Int32)} {sMlink_j138 : (Nat → Int32)} {sMrepeat_j138 : (Nat → Int32)} {sMbase_j138 : (Nat → Int64)} (hf : 12000 ≤ fu) (I_sMo_j138 : I_Mo sMo_j138) (I_sMwidth_j138 : A_Mwidth sMwidth_j138) (g_0 : 0 ≤ (Mo_at sMo_j138).toInt) (g_1 : (Mo_mode sMo_j138).toInt < 2 ∨ ((Mo_at sMo_j138).toInt ≤ (Mo_many sMo_j138).toInt ∧ (Mo_many sMo_j138).toInt ≤ 40000)) (g_2 : (Mo_mode sMo_j138).toInt ≠ 3 ∨ (Mo_subsets sMo_j138).toInt ≤ 8) (g_3 : 0 ≤ (Mo_fault sMo_j138).toInt) : So (Mod_come_j138 fu sMvalues sMturn sMbits x1_j138 x3_j138 x5_j138 x8_j138 x9_j138 sMo_j138 sMread_j138 sMkind_j138 sMcode_j138 sMwidth_j138 sMscale_j138 sMlink_j138 sMrepeat_j138 sMbase_j138) (fun r => I_Mo r.2.1 ∧ A_Mwidth r.2.2.2.2.2.1 ∧ (0 ≤ (Mo_at r.2.1).toInt) ∧ ((Mo_mode r.2.1).toInt < 2 ∨ ((Mo_at r.2.1).toInt ≤ (Mo_many r.2.1).toInt ∧ (Mo_many r.2.1).toInt ≤ 40000)) ∧ ((Mo_mode r.2.1).toInt ≠ 3 ∨ (Mo_subsets r.2.1).toInt ≤ 8) ∧ (0 ≤ (Mo_fault r.2.1).toInt) ∧ ((Mo_open r.2.1).toInt = (Mo_open sMo_j138).toInt) ∧ ((Mo_looked r.2.1).toInt = (Mo_looked sMo_j138).toInt) ∧ ((Mo_fields r.2.1).toInt = (Mo_fields sMo_j138).toInt) ∧ ((Mo_elements r.2.1).toInt = (Mo_elements sMo_j138).toInt) ∧ ((Mo_pointed r.2.1).toInt = (Mo_pointed sMo_j138).toInt) ∧ ((Mo_pointer r.2.1).toInt = (Mo_pointer sMo_j138).toInt) ∧ ((Mo_mode r.2.1).toInt = (Mo_mode sMo_j138).toInt) ∧ ((Mo_subset r.2.1).toInt = (Mo_subset sMo_j138).toInt) ∧ ((Mo_subsets r.2.1).toInt = (Mo_subsets sMo_j138).toInt) ∧ ((Mo_many r.2.1).toInt = (Mo_many sMo_j138).toInt) ∧ KM r.2.1 sMo_j138) := by
  unfold Mod_come_j138
  refine So.ite (fun c_1 => ?_) (fun c_1 => ?_)
  · rw [i_eq] at c_1
    have k_2 : (3 : Int32).toInt = 3 := by decide
    refine So.ite (fun c_3 => ?_) (fun c_3 => ?_)
    · have f_4 := I_Mo_at I_sMo_j138
      have f_5 := I_Mo_many I_sMo_j138
      refine So.imp (t_Mod_come_j165 hf I_sMo_j138 I_sMwidth_j138 (by show 0 ≤ (Mo_at sMo_j138).toInt; omega) (by show (Mo_mode sMo_j138).toInt < 2 ∨ ((Mo_at sMo_j138).toInt ≤ (Mo_many sMo_j138).toInt ∧ (Mo_many sMo_j138).toInt ≤ 40000); omega) (by show (Mo_mode sMo_j138).toInt ≠ 3 ∨ (Mo_subsets sMo_j138).toInt ≤ 8; omega) (by show 0 ≤ (Mo_fault sMo_j138).toInt; omega)) fun q_z h_z => ?_
      obtain ⟨p_6, p_7, p_8, p_9, p_10, p_11, p_12, p_13, p_14, p_15, p_16, p_17, p_18, p_19, p_20, p_21, p_22⟩ := h_z
      exact ⟨p_6, p_7, (by show 0 ≤ (Mo_at q_z.2.1).toInt; omega), (by show (Mo_mode q_z.2.1).toInt < 2 ∨ ((Mo_at q_z.2.1).toInt ≤ (Mo_many q_z.2.1).toInt ∧ (Mo_many q_z.2.1).toInt ≤ 40000); omega), (by show (Mo_mode q_z.2.1).toInt ≠ 3 ∨ (Mo_subsets q_z.2.1).toInt ≤ 8; omega), (by show 0 ≤ (Mo_fault q_z.2.1).toInt; omega), (by show (Mo_open q_z.2.1).toInt = (Mo_open sMo_j138).toInt; omega), (by show (Mo_looked q_z.2.1).toInt = (Mo_looked sMo_j138).toInt; omega), (by show (Mo_fields q_z.2.1).toInt = (Mo_fields sMo_j138).toInt; omega), (by show (Mo_elements q_z.2.1).toInt = (Mo_elements sMo_j138).toInt; omega), (by show (Mo_pointed q_z.2.1).toInt = (Mo_pointed sMo_j138).toInt; omega), (by show (Mo_pointer q_z.2.1).toInt = (Mo_pointer sMo_j138).toInt; omega), (by show (Mo_mode q_z.2.1).toInt = (Mo_mode sMo_j138).toInt; omega), (by show (Mo_subset q_z.2.1).toInt = (Mo_subset sMo_j138).toInt; omega), (by show (Mo_subsets q_z.2.1).toInt = (Mo_subsets sMo_j138).toInt; omega), (by show (Mo_many q_z.2.1).toInt = (Mo_many sMo_j138).toInt; omega), (KM.trans p_22 (KM.refl _))⟩
    · refine So.ite (fun c_23 => ?_) (fun c_23 => ?_)
      · have f_24 := I_Mo_at I_sMo_j138
        have f_25 := I_Mo_many I_sMo_j138
        refine So.imp (t_Mod_come_j165 hf I_sMo_j138 I_sMwidth_j138 (by show 0 ≤ (Mo_at sMo_j138).toInt; omega) (by show (Mo_mode sMo_j138).toInt < 2 ∨ ((Mo_at sMo_j138).toInt ≤ (Mo_many sMo_j138).toInt ∧ (Mo_many sMo_j138).toInt ≤ 40000); omega) (by show (Mo_mode sMo_j138).toInt ≠ 3 ∨ (Mo_subsets sMo_j138).toInt ≤ 8; omega) (by show 0 ≤ (Mo_fault sMo_j138).toInt; omega)) fun q_z h_z => ?_
        obtain ⟨p_26, p_27, p_28, p_29, p_30, p_31, p_32, p_33, p_34, p_35, p_36, p_37, p_38, p_39, p_40, p_41, p_42⟩ := h_z
        exact ⟨p_26, p_27, (by show 0 ≤ (Mo_at q_z.2.1).toInt; omega), (by show (Mo_mode q_z.2.1).toInt < 2 ∨ ((Mo_at q_z.2.1).toInt ≤ (Mo_many q_z.2.1).toInt ∧ (Mo_many q_z.2.1).toInt ≤ 40000); omega), (by show (Mo_mode q_z.2.1).toInt ≠ 3 ∨ (Mo_subsets q_z.2.1).toInt ≤ 8; omega), (by show 0 ≤ (Mo_fault q_z.2.1).toInt; omega), (by show (Mo_open q_z.2.1).toInt = (Mo_open sMo_j138).toInt; omega), (by show (Mo_looked q_z.2.1).toInt = (Mo_looked sMo_j138).toInt; omega), (by show (Mo_fields q_z.2.1).toInt = (Mo_fields sMo_j138).toInt; omega), (by show (Mo_elements q_z.2.1).toInt = (Mo_elements sMo_j138).toInt; omega), (by show (Mo_pointed q_z.2.1).toInt = (Mo_pointed sMo_j138).toInt; omega), (by show (Mo_pointer q_z.2.1).toInt = (Mo_pointer sMo_j138).toInt; omega), (by show (Mo_mode q_z.2.1).toInt = (Mo_mode sMo_j138).toInt; omega), (by show (Mo_subset q_z.2.1).toInt = (Mo_subset sMo_j138).toInt; omega), (by show (Mo_subsets q_z.2.1).toInt = (Mo_subsets sMo_j138).toInt; omega), (by show (Mo_many q_z.2.1).toInt = (Mo_many sMo_j138).toInt; omega), (KM.trans p_42 (KM.refl _))⟩
      · have f_43 := I_Mo_at I_sMo_j138
        have f_44 := I_Mo_many I_sMo_j138
        refine So.imp (t_Mod_come_j157 hf I_sMo_j138 I_sMwidth_j138 (by show 0 ≤ (Mo_at sMo_j138).toInt; omega) (by show (Mo_mode sMo_j138).toInt < 2 ∨ ((Mo_at sMo_j138).toInt ≤ (Mo_many sMo_j138).toInt ∧ (Mo_many sMo_j138).toInt ≤ 40000); omega) (by show (Mo_mode sMo_j138).toInt ≠ 3 ∨ (Mo_subsets sMo_j138).toInt ≤ 8; omega) (by show 0 ≤ (Mo_fault sMo_j138).toInt; omega)) fun q_z h_z => ?_
        obtain ⟨p_45, p_46, p_47, p_48, p_49, p_50, p_51, p_52, p_53, p_54, p_55, p_56, p_57, p_58, p_59, p_60, p_61⟩ := h_z
        exact ⟨p_45, p_46, (by show 0 ≤ (Mo_at q_z.2.1).toInt; omega), (by show (Mo_mode q_z.2.1).toInt < 2 ∨ ((Mo_at q_z.2.1).toInt ≤ (Mo_many q_z.2.1).toInt ∧ (Mo_many q_z.2.1).toInt ≤ 40000); omega), (by show (Mo_mode q_z.2.1).toInt ≠ 3 ∨ (Mo_subsets q_z.2.1).toInt ≤ 8; omega), (by show 0 ≤ (Mo_fault q_z.2.1).toInt; omega), (by show (Mo_open q_z.2.1).toInt = (Mo_open sMo_j138).toInt; omega), (by show (Mo_looked q_z.2.1).toInt = (Mo_looked sMo_j138).toInt; omega), (by show (Mo_fields q_z.2.1).toInt = (Mo_fields sMo_j138).toInt; omega), (by show (Mo_elements q_z.2.1).toInt = (Mo_elements sMo_j138).toInt; omega), (by show (Mo_pointed q_z.2.1).toInt = (Mo_pointed sMo_j138).toInt; omega), (by show (Mo_pointer q_z.2.1).toInt = (Mo_pointer sMo_j138).toInt; omega), (by show (Mo_mode q_z.2.1).toInt = (Mo_mode sMo_j138).toInt; omega), (by show (Mo_subset q_z.2.1).toInt = (Mo_subset sMo_j138).toInt; omega), (by show (Mo_subsets q_z.2.1).toInt = (Mo_subsets sMo_j138).toInt; omega), (by show (Mo_many q_z.2.1).toInt = (Mo_many sMo_j138).toInt; omega), (KM.trans p_61 (KM.refl _))⟩
  · rw [i_eq] at c_1
    have k_62 : (3 : Int32).toInt = 3 := by decide
    have f_63 := I_Mo_at I_sMo_j138
    have f_64 := I_Mo_many I_sMo_j138
    refine So.imp (t_Mod_come_j165 hf I_sMo_j138 I_sMwidth_j138 (by show 0 ≤ (Mo_at sMo_j138).toInt; omega) (by show (Mo_mode sMo_j138).toInt < 2 ∨ ((Mo_at sMo_j138).toInt ≤ (Mo_many sMo_j138).toInt ∧ (Mo_many sMo_j138).toInt ≤ 40000); omega) (by show (Mo_mode sMo_j138).toInt ≠ 3 ∨ (Mo_subsets sMo_j138).toInt ≤ 8; omega) (by show 0 ≤ (Mo_fault sMo_j138).toInt; omega)) fun q_z h_z => ?_
    obtain ⟨p_65, p_66, p_67, p_68, p_69, p_70, p_71, p_72, p_73, p_74, p_75, p_76, p_77, p_78, p_79, p_80, p_81⟩ := h_z
    exact ⟨p_65, p_66, (by show 0 ≤ (Mo_at q_z.2.1).toInt; omega), (by show (Mo_mode q_z.2.1).toInt < 2 ∨ ((Mo_at q_z.2.1).toInt ≤ (Mo_many q_z.2.1).toInt ∧ (Mo_many q_z.2.1).toInt ≤ 40000); omega), (by show (Mo_mode q_z.2.1).toInt ≠ 3 ∨ (Mo_subsets q_z.2.1).toInt ≤ 8; omega), (by show 0 ≤ (Mo_fault q_z.2.1).toInt; omega), (by show (Mo_open q_z.2.1).toInt = (Mo_open sMo_j138).toInt; omega), (by show (Mo_looked q_z.2.1).toInt = (Mo_looked sMo_j138).toInt; omega), (by show (Mo_fields q_z.2.1).toInt = (Mo_fields sMo_j138).toInt; omega), (by show (Mo_elements q_z.2.1).toInt = (Mo_elements sMo_j138).toInt; omega), (by show (Mo_pointed q_z.2.1).toInt = (Mo_pointed sMo_j138).toInt; omega), (by show (Mo_pointer q_z.2.1).toInt = (Mo_pointer sMo_j138).toInt; omega), (by show (Mo_mode q_z.2.1).toInt = (Mo_mode sMo_j138).toInt; omega), (by show (Mo_subset q_z.2.1).toInt = (Mo_subset sMo_j138).toInt; omega), (by show (Mo_subsets q_z.2.1).toInt = (Mo_subsets sMo_j138).toInt; omega), (by show (Mo_many q_z.2.1).toInt = (Mo_many sMo_j138).toInt; omega), (KM.trans p_81 (KM.refl _))⟩
set_option maxHeartbeats 4000000 in
theorem t_Mod_come_j21 {fu : Nat} {sMvalues : (Nat → Int64)} {sMturn : (Nat → Int32)} {sMbits : (Nat → Int32)} {x1_j21 : Int32} {x2_j21 : Int32} {x3_j21 : Int32} {x4_j21 : Int32} {x5_j21 : Int64} {x7_j21 : Int32} {x8_j21 : Int32} {sMo_j21 : S_Mo} {sMread_j21 : (Nat → Int64)} {sMkind_j21 : (Nat → Int32)} {sMcode_j21 : (Nat → Int32)} {sMwidth_j21 : (Nat → Int32)} {sMscale_j21 : (Nat → Int32)} {sMlink_j21 : (Nat → Int32)} {sMrepeat_j21 : (Nat → Int32)} {sMbase_j21 : (Nat → Int64)} (hf : 12000 ≤ fu) (I_sMo_j21 : I_Mo sMo_j21) (I_sMwidth_j21 : A_Mwidth sMwidth_j21) (g_0 : 0 ≤ (Mo_at sMo_j21).toInt) (g_1 : (Mo_mode sMo_j21).toInt < 2 ∨ ((Mo_at sMo_j21).toInt ≤ (Mo_many sMo_j21).toInt ∧ (Mo_many sMo_j21).toInt ≤ 40000)) (g_2 : (Mo_mode sMo_j21).toInt ≠ 3 ∨ (Mo_subsets sMo_j21).toInt ≤ 8) (g_3 : 0 ≤ (Mo_fault sMo_j21).toInt) (g_4 : x8_j21.toInt = (Mo_fields sMo_j21).toInt) (g_5 : 0 ≤ x3_j21.toInt) (g_6 : x3_j21.toInt ≤ 32) (g_7 : x8_j21.toInt < 100 ∨ 0 < (Mo_fault sMo_j21).toInt) : So (Mod_come_j21 fu sMvalues sMturn sMbits x1_j21 x2_j21 x3_j21 x4_j21 x5_j21 x7_j21 x8_j21 sMo_j21 sMread_j21 sMkind_j21 sMcode_j21 sMwidth_j21 sMscale_j21 sMlink_j21 sMrepeat_j21 sMbase_j21) (fun r => I_Mo r.2.1 ∧ A_Mwidth r.2.2.2.2.2.1 ∧ (0 ≤ (Mo_at r.2.1).toInt) ∧ ((Mo_mode r.2.1).toInt < 2 ∨ ((Mo_at r.2.1).toInt ≤ (Mo_many r.2.1).toInt ∧ (Mo_many r.2.1).toInt ≤ 40000)) ∧ ((Mo_mode r.2.1).toInt ≠ 3 ∨ (Mo_subsets r.2.1).toInt ≤ 8) ∧ (0 ≤ (Mo_fault r.2.1).toInt) ∧ ((Mo_open r.2.1).toInt = (Mo_open sMo_j21).toInt) ∧ ((Mo_looked r.2.1).toInt = (Mo_looked sMo_j21).toInt) ∧ ((Mo_elements r.2.1).toInt = (Mo_elements sMo_j21).toInt) ∧ ((Mo_pointed r.2.1).toInt = (Mo_pointed sMo_j21).toInt) ∧ ((Mo_pointer r.2.1).toInt = (Mo_pointer sMo_j21).toInt) ∧ ((Mo_mode r.2.1).toInt = (Mo_mode sMo_j21).toInt) ∧ ((Mo_subset r.2.1).toInt = (Mo_subset sMo_j21).toInt) ∧ ((Mo_subsets r.2.1).toInt = (Mo_subsets sMo_j21).toInt) ∧ ((Mo_many r.2.1).toInt = (Mo_many sMo_j21).toInt) ∧ KM r.2.1 sMo_j21 ∧ ((Mo_fields r.2.1).toInt = (Mo_fields sMo_j21).toInt ∨ (Mo_fields r.2.1).toInt = (Mo_fields sMo_j21).toInt + 1) ∧ ((Mo_fault r.2.1).toInt ≠ 0 ∨ (Mo_fields r.2.1).toInt = (Mo_fields sMo_j21).toInt + 1)) := by
  unfold Mod_come_j21
  have f_1 := I_Mo_fields I_sMo_j21
  refine So.ite (fun c_2 => ?_) (fun c_2 => ?_)
  · rw [i_le] at c_2
    have k_3 : (0 : Int32).toInt = 0 := by decide
    refine So.gd (i_in.mpr (by omega)) ?_
    refine So.lt2 fun sMkind_4 e_4 => ?_
    refine So.gd (i_in.mpr (by omega)) ?_
    refine So.lt2 fun sMcode_6 e_5 => ?_
    refine So.gd (i_in.mpr (by omega)) ?_
    refine So.lt2 fun sMwidth_8 e_6 => ?_
    have I_7 : A_Mwidth sMwidth_8 := by rw [e_6]; exact (A_Mwidth_upd I_sMwidth_j21 (by show 0 ≤ (x3_j21 : Int32).toInt ∧ (x3_j21 : Int32).toInt ≤ 32; omega))
    refine So.gd (i_in.mpr (by omega)) ?_
    refine So.lt2 fun sMscale_10 e_8 => ?_
    refine So.gd (i_in.mpr (by omega)) ?_
    refine So.lt2 fun sMbase_12 e_9 => ?_
    refine So.gd (i_in.mpr (by omega)) ?_
    refine So.lt2 fun sMlink_14 e_10 => ?_
    refine So.bd (t_Mod_repetition hf I_sMo_j21) fun q15 h_11 => ?_
    refine So.gd (i_in.mpr (by omega)) ?_
    refine So.lt2 fun sMrepeat_17 e_12 => ?_
    have f_14 := I_Mo_fields I_sMo_j21
    have k_15 : (1 : Int32).toInt = 1 := by decide
    first | have f_16 := i_add (a := (Mo_fields sMo_j21)) (b := 1) (by omega) (by omega) | have f_16 := i_addm (Mo_fields sMo_j21) 1
    refine So.lt2 fun sMo_18 e_13 => ?_
    have I_17 : I_Mo sMo_18 := by rw [e_13]; exact (I_Mo_set_fields I_sMo_j21 (by show 0 ≤ (((Mo_fields sMo_j21) + 1) : Int32).toInt ∧ (((Mo_fields sMo_j21) + 1) : Int32).toInt ≤ 100; omega))
    have K_18 : KM sMo_18 sMo_j21 := by rw [e_13]; exact (KM.refl _)
    have f_19 : (Mo_fault sMo_18).toInt = (Mo_fault sMo_j21).toInt := by subst e_13; rfl
    have f_20 : (Mo_open sMo_18).toInt = (Mo_open sMo_j21).toInt := by subst e_13; rfl
    have f_21 : (Mo_looked sMo_18).toInt = (Mo_looked sMo_j21).toInt := by subst e_13; rfl
    have f_22 : (Mo_fields sMo_18).toInt = (((Mo_fields sMo_j21) + 1) : Int32).toInt := by subst e_13; rfl
    have f_23 : (Mo_elements sMo_18).toInt = (Mo_elements sMo_j21).toInt := by subst e_13; rfl
    have f_24 : (Mo_pointed sMo_18).toInt = (Mo_pointed sMo_j21).toInt := by subst e_13; rfl
    have f_25 : (Mo_pointer sMo_18).toInt = (Mo_pointer sMo_j21).toInt := by subst e_13; rfl
    have f_26 : (Mo_mode sMo_18).toInt = (Mo_mode sMo_j21).toInt := by subst e_13; rfl
    have f_27 : (Mo_subset sMo_18).toInt = (Mo_subset sMo_j21).toInt := by subst e_13; rfl
    have f_28 : (Mo_subsets sMo_18).toInt = (Mo_subsets sMo_j21).toInt := by subst e_13; rfl
    have f_29 : (Mo_many sMo_18).toInt = (Mo_many sMo_j21).toInt := by subst e_13; rfl
    have f_30 : (Mo_at sMo_18).toInt = (Mo_at sMo_j21).toInt := by subst e_13; rfl
    have f_31 := I_Mo_at I_17
    have f_32 := I_Mo_many I_17
    have f_33 := I_Mo_open I_17
    have f_34 := I_Mo_fields I_17
    have f_35 := I_Mo_elements I_17
    have f_36 := I_Mo_pointed I_17
    have f_37 := I_Mo_pointer I_17
    have f_38 := I_Mo_subset I_17
    refine So.bd (t_Mod_valueOf hf I_7 I_17 (by show 0 ≤ x8_j21.toInt; omega) (by show x8_j21.toInt < 100; omega) (by show 0 ≤ (Mo_at sMo_18).toInt; omega) (by show (Mo_mode sMo_18).toInt < 2 ∨ ((Mo_at sMo_18).toInt ≤ (Mo_many sMo_18).toInt ∧ (Mo_many sMo_18).toInt ≤ 40000); omega) (by show (Mo_mode sMo_18).toInt ≠ 3 ∨ (Mo_subsets sMo_18).toInt ≤ 8; omega) (by show 0 ≤ (Mo_fault sMo_18).toInt; omega)) fun q19 h_39 => ?_
    obtain ⟨p_40, p_41, p_42, p_43, p_44, p_45, p_46, p_47, p_48, p_49, p_50, p_51, p_52, p_53, p_54, p_55⟩ := h_39
    refine So.ite (fun c_56 => ?_) (fun c_56 => ?_)
    · rw [i_eq] at c_56
      refine So.ite (fun c_57 => ?_) (fun c_57 => ?_)
      · rw [i_eq] at c_57
        have k_58 : (2 : Int32).toInt = 2 := by decide
        refine So.ite (fun c_59 => ?_) (fun c_59 => ?_)
        · have f_60 := I_Mo_at p_40
          have f_61 := I_Mo_many p_40
          refine So.imp (t_Mod_come_j157 hf p_40 I_7 (by show 0 ≤ (Mo_at q19.2.1).toInt; omega) (by show (Mo_mode q19.2.1).toInt < 2 ∨ ((Mo_at q19.2.1).toInt ≤ (Mo_many q19.2.1).toInt ∧ (Mo_many q19.2.1).toInt ≤ 40000); omega) (by show (Mo_mode q19.2.1).toInt ≠ 3 ∨ (Mo_subsets q19.2.1).toInt ≤ 8; omega) (by show 0 ≤ (Mo_fault q19.2.1).toInt; omega)) fun q_z h_z => ?_
          obtain ⟨p_62, p_63, p_64, p_65, p_66, p_67, p_68, p_69, p_70, p_71, p_72, p_73, p_74, p_75, p_76, p_77, p_78⟩ := h_z
          exact ⟨p_62, p_63, (by show 0 ≤ (Mo_at q_z.2.1).toInt; omega), (by show (Mo_mode q_z.2.1).toInt < 2 ∨ ((Mo_at q_z.2.1).toInt ≤ (Mo_many q_z.2.1).toInt ∧ (Mo_many q_z.2.1).toInt ≤ 40000); omega), (by show (Mo_mode q_z.2.1).toInt ≠ 3 ∨ (Mo_subsets q_z.2.1).toInt ≤ 8; omega), (by show 0 ≤ (Mo_fault q_z.2.1).toInt; omega), (by show (Mo_open q_z.2.1).toInt = (Mo_open sMo_j21).toInt; omega), (by show (Mo_looked q_z.2.1).toInt = (Mo_looked sMo_j21).toInt; omega), (by show (Mo_elements q_z.2.1).toInt = (Mo_elements sMo_j21).toInt; omega), (by show (Mo_pointed q_z.2.1).toInt = (Mo_pointed sMo_j21).toInt; omega), (by show (Mo_pointer q_z.2.1).toInt = (Mo_pointer sMo_j21).toInt; omega), (by show (Mo_mode q_z.2.1).toInt = (Mo_mode sMo_j21).toInt; omega), (by show (Mo_subset q_z.2.1).toInt = (Mo_subset sMo_j21).toInt; omega), (by show (Mo_subsets q_z.2.1).toInt = (Mo_subsets sMo_j21).toInt; omega), (by show (Mo_many q_z.2.1).toInt = (Mo_many sMo_j21).toInt; omega), (KM.trans p_78 (KM.trans p_55 K_18)), (by show (Mo_fields q_z.2.1).toInt = (Mo_fields sMo_j21).toInt ∨ (Mo_fields q_z.2.1).toInt = (Mo_fields sMo_j21).toInt + 1; omega), (by show (Mo_fault q_z.2.1).toInt ≠ 0 ∨ (Mo_fields q_z.2.1).toInt = (Mo_fields sMo_j21).toInt + 1; omega)⟩
        · refine So.ite (fun c_79 => ?_) (fun c_79 => ?_)
          · have f_80 := I_Mo_at p_40
            have f_81 := I_Mo_many p_40
            refine So.imp (t_Mod_come_j157 hf p_40 I_7 (by show 0 ≤ (Mo_at q19.2.1).toInt; omega) (by show (Mo_mode q19.2.1).toInt < 2 ∨ ((Mo_at q19.2.1).toInt ≤ (Mo_many q19.2.1).toInt ∧ (Mo_many q19.2.1).toInt ≤ 40000); omega) (by show (Mo_mode q19.2.1).toInt ≠ 3 ∨ (Mo_subsets q19.2.1).toInt ≤ 8; omega) (by show 0 ≤ (Mo_fault q19.2.1).toInt; omega)) fun q_z h_z => ?_
            obtain ⟨p_82, p_83, p_84, p_85, p_86, p_87, p_88, p_89, p_90, p_91, p_92, p_93, p_94, p_95, p_96, p_97, p_98⟩ := h_z
            exact ⟨p_82, p_83, (by show 0 ≤ (Mo_at q_z.2.1).toInt; omega), (by show (Mo_mode q_z.2.1).toInt < 2 ∨ ((Mo_at q_z.2.1).toInt ≤ (Mo_many q_z.2.1).toInt ∧ (Mo_many q_z.2.1).toInt ≤ 40000); omega), (by show (Mo_mode q_z.2.1).toInt ≠ 3 ∨ (Mo_subsets q_z.2.1).toInt ≤ 8; omega), (by show 0 ≤ (Mo_fault q_z.2.1).toInt; omega), (by show (Mo_open q_z.2.1).toInt = (Mo_open sMo_j21).toInt; omega), (by show (Mo_looked q_z.2.1).toInt = (Mo_looked sMo_j21).toInt; omega), (by show (Mo_elements q_z.2.1).toInt = (Mo_elements sMo_j21).toInt; omega), (by show (Mo_pointed q_z.2.1).toInt = (Mo_pointed sMo_j21).toInt; omega), (by show (Mo_pointer q_z.2.1).toInt = (Mo_pointer sMo_j21).toInt; omega), (by show (Mo_mode q_z.2.1).toInt = (Mo_mode sMo_j21).toInt; omega), (by show (Mo_subset q_z.2.1).toInt = (Mo_subset sMo_j21).toInt; omega), (by show (Mo_subsets q_z.2.1).toInt = (Mo_subsets sMo_j21).toInt; omega), (by show (Mo_many q_z.2.1).toInt = (Mo_many sMo_j21).toInt; omega), (KM.trans p_98 (KM.trans p_55 K_18)), (by show (Mo_fields q_z.2.1).toInt = (Mo_fields sMo_j21).toInt ∨ (Mo_fields q_z.2.1).toInt = (Mo_fields sMo_j21).toInt + 1; omega), (by show (Mo_fault q_z.2.1).toInt ≠ 0 ∨ (Mo_fields q_z.2.1).toInt = (Mo_fields sMo_j21).toInt + 1; omega)⟩
          · have f_99 := I_Mo_at p_40
            have f_100 := I_Mo_many p_40
            refine So.imp (t_Mod_come_j138 hf p_40 I_7 (by show 0 ≤ (Mo_at q19.2.1).toInt; omega) (by show (Mo_mode q19.2.1).toInt < 2 ∨ ((Mo_at q19.2.1).toInt ≤ (Mo_many q19.2.1).toInt ∧ (Mo_many q19.2.1).toInt ≤ 40000); omega) (by show (Mo_mode q19.2.1).toInt ≠ 3 ∨ (Mo_subsets q19.2.1).toInt ≤ 8; omega) (by show 0 ≤ (Mo_fault q19.2.1).toInt; omega)) fun q_z h_z => ?_
            obtain ⟨p_101, p_102, p_103, p_104, p_105, p_106, p_107, p_108, p_109, p_110, p_111, p_112, p_113, p_114, p_115, p_116, p_117⟩ := h_z
            exact ⟨p_101, p_102, (by show 0 ≤ (Mo_at q_z.2.1).toInt; omega), (by show (Mo_mode q_z.2.1).toInt < 2 ∨ ((Mo_at q_z.2.1).toInt ≤ (Mo_many q_z.2.1).toInt ∧ (Mo_many q_z.2.1).toInt ≤ 40000); omega), (by show (Mo_mode q_z.2.1).toInt ≠ 3 ∨ (Mo_subsets q_z.2.1).toInt ≤ 8; omega), (by show 0 ≤ (Mo_fault q_z.2.1).toInt; omega), (by show (Mo_open q_z.2.1).toInt = (Mo_open sMo_j21).toInt; omega), (by show (Mo_looked q_z.2.1).toInt = (Mo_looked sMo_j21).toInt; omega), (by show (Mo_elements q_z.2.1).toInt = (Mo_elements sMo_j21).toInt; omega), (by show (Mo_pointed q_z.2.1).toInt = (Mo_pointed sMo_j21).toInt; omega), (by show (Mo_pointer q_z.2.1).toInt = (Mo_pointer sMo_j21).toInt; omega), (by show (Mo_mode q_z.2.1).toInt = (Mo_mode sMo_j21).toInt; omega), (by show (Mo_subset q_z.2.1).toInt = (Mo_subset sMo_j21).toInt; omega), (by show (Mo_subsets q_z.2.1).toInt = (Mo_subsets sMo_j21).toInt; omega), (by show (Mo_many q_z.2.1).toInt = (Mo_many sMo_j21).toInt; omega), (KM.trans p_117 (KM.trans p_55 K_18)), (by show (Mo_fields q_z.2.1).toInt = (Mo_fields sMo_j21).toInt ∨ (Mo_fields q_z.2.1).toInt = (Mo_fields sMo_j21).toInt + 1; omega), (by show (Mo_fault q_z.2.1).toInt ≠ 0 ∨ (Mo_fields q_z.2.1).toInt = (Mo_fields sMo_j21).toInt + 1; omega)⟩
      · rw [i_eq] at c_57
        have k_118 : (2 : Int32).toInt = 2 := by decide
        have f_119 := I_Mo_at p_40
        have f_120 := I_Mo_many p_40
        refine So.imp (t_Mod_come_j138 hf p_40 I_7 (by show 0 ≤ (Mo_at q19.2.1).toInt; omega) (by show (Mo_mode q19.2.1).toInt < 2 ∨ ((Mo_at q19.2.1).toInt ≤ (Mo_many q19.2.1).toInt ∧ (Mo_many q19.2.1).toInt ≤ 40000); omega) (by show (Mo_mode q19.2.1).toInt ≠ 3 ∨ (Mo_subsets q19.2.1).toInt ≤ 8; omega) (by show 0 ≤ (Mo_fault q19.2.1).toInt; omega)) fun q_z h_z => ?_
        obtain ⟨p_121, p_122, p_123, p_124, p_125, p_126, p_127, p_128, p_129, p_130, p_131, p_132, p_133, p_134, p_135, p_136, p_137⟩ := h_z
        exact ⟨p_121, p_122, (by show 0 ≤ (Mo_at q_z.2.1).toInt; omega), (by show (Mo_mode q_z.2.1).toInt < 2 ∨ ((Mo_at q_z.2.1).toInt ≤ (Mo_many q_z.2.1).toInt ∧ (Mo_many q_z.2.1).toInt ≤ 40000); omega), (by show (Mo_mode q_z.2.1).toInt ≠ 3 ∨ (Mo_subsets q_z.2.1).toInt ≤ 8; omega), (by show 0 ≤ (Mo_fault q_z.2.1).toInt; omega), (by show (Mo_open q_z.2.1).toInt = (Mo_open sMo_j21).toInt; omega), (by show (Mo_looked q_z.2.1).toInt = (Mo_looked sMo_j21).toInt; omega), (by show (Mo_elements q_z.2.1).toInt = (Mo_elements sMo_j21).toInt; omega), (by show (Mo_pointed q_z.2.1).toInt = (Mo_pointed sMo_j21).toInt; omega), (by show (Mo_pointer q_z.2.1).toInt = (Mo_pointer sMo_j21).toInt; omega), (by show (Mo_mode q_z.2.1).toInt = (Mo_mode sMo_j21).toInt; omega), (by show (Mo_subset q_z.2.1).toInt = (Mo_subset sMo_j21).toInt; omega), (by show (Mo_subsets q_z.2.1).toInt = (Mo_subsets sMo_j21).toInt; omega), (by show (Mo_many q_z.2.1).toInt = (Mo_many sMo_j21).toInt; omega), (KM.trans p_137 (KM.trans p_55 K_18)), (by show (Mo_fields q_z.2.1).toInt = (Mo_fields sMo_j21).toInt ∨ (Mo_fields q_z.2.1).toInt = (Mo_fields sMo_j21).toInt + 1; omega), (by show (Mo_fault q_z.2.1).toInt ≠ 0 ∨ (Mo_fields q_z.2.1).toInt = (Mo_fields sMo_j21).toInt + 1; omega)⟩
    · rw [i_eq] at c_56
      have f_138 := I_Mo_at p_40
      have f_139 := I_Mo_many p_40
      refine So.imp (t_Mod_come_j165 hf p_40 I_7 (by show 0 ≤ (Mo_at q19.2.1).toInt; omega) (by show (Mo_mode q19.2.1).toInt < 2 ∨ ((Mo_at q19.2.1).toInt ≤ (Mo_many q19.2.1).toInt ∧ (Mo_many q19.2.1).toInt ≤ 40000); omega) (by show (Mo_mode q19.2.1).toInt ≠ 3 ∨ (Mo_subsets q19.2.1).toInt ≤ 8; omega) (by show 0 ≤ (Mo_fault q19.2.1).toInt; omega)) fun q_z h_z => ?_
      obtain ⟨p_140, p_141, p_142, p_143, p_144, p_145, p_146, p_147, p_148, p_149, p_150, p_151, p_152, p_153, p_154, p_155, p_156⟩ := h_z
      exact ⟨p_140, p_141, (by show 0 ≤ (Mo_at q_z.2.1).toInt; omega), (by show (Mo_mode q_z.2.1).toInt < 2 ∨ ((Mo_at q_z.2.1).toInt ≤ (Mo_many q_z.2.1).toInt ∧ (Mo_many q_z.2.1).toInt ≤ 40000); omega), (by show (Mo_mode q_z.2.1).toInt ≠ 3 ∨ (Mo_subsets q_z.2.1).toInt ≤ 8; omega), (by show 0 ≤ (Mo_fault q_z.2.1).toInt; omega), (by show (Mo_open q_z.2.1).toInt = (Mo_open sMo_j21).toInt; omega), (by show (Mo_looked q_z.2.1).toInt = (Mo_looked sMo_j21).toInt; omega), (by show (Mo_elements q_z.2.1).toInt = (Mo_elements sMo_j21).toInt; omega), (by show (Mo_pointed q_z.2.1).toInt = (Mo_pointed sMo_j21).toInt; omega), (by show (Mo_pointer q_z.2.1).toInt = (Mo_pointer sMo_j21).toInt; omega), (by show (Mo_mode q_z.2.1).toInt = (Mo_mode sMo_j21).toInt; omega), (by show (Mo_subset q_z.2.1).toInt = (Mo_subset sMo_j21).toInt; omega), (by show (Mo_subsets q_z.2.1).toInt = (Mo_subsets sMo_j21).toInt; omega), (by show (Mo_many q_z.2.1).toInt = (Mo_many sMo_j21).toInt; omega), (KM.trans p_156 (KM.trans p_55 K_18)), (by show (Mo_fields q_z.2.1).toInt = (Mo_fields sMo_j21).toInt ∨ (Mo_fields q_z.2.1).toInt = (Mo_fields sMo_j21).toInt + 1; omega), (by show (Mo_fault q_z.2.1).toInt ≠ 0 ∨ (Mo_fields q_z.2.1).toInt = (Mo_fields sMo_j21).toInt + 1; omega)⟩
  · rw [i_le] at c_2
    have k_157 : (0 : Int32).toInt = 0 := by decide
    exact So.one ⟨I_sMo_j21, I_sMwidth_j21, (by show 0 ≤ (Mo_at sMo_j21).toInt; omega), (by show (Mo_mode sMo_j21).toInt < 2 ∨ ((Mo_at sMo_j21).toInt ≤ (Mo_many sMo_j21).toInt ∧ (Mo_many sMo_j21).toInt ≤ 40000); omega), (by show (Mo_mode sMo_j21).toInt ≠ 3 ∨ (Mo_subsets sMo_j21).toInt ≤ 8; omega), (by show 0 ≤ (Mo_fault sMo_j21).toInt; omega), (by show (Mo_open sMo_j21).toInt = (Mo_open sMo_j21).toInt; omega), (by show (Mo_looked sMo_j21).toInt = (Mo_looked sMo_j21).toInt; omega), (by show (Mo_elements sMo_j21).toInt = (Mo_elements sMo_j21).toInt; omega), (by show (Mo_pointed sMo_j21).toInt = (Mo_pointed sMo_j21).toInt; omega), (by show (Mo_pointer sMo_j21).toInt = (Mo_pointer sMo_j21).toInt; omega), (by show (Mo_mode sMo_j21).toInt = (Mo_mode sMo_j21).toInt; omega), (by show (Mo_subset sMo_j21).toInt = (Mo_subset sMo_j21).toInt; omega), (by show (Mo_subsets sMo_j21).toInt = (Mo_subsets sMo_j21).toInt; omega), (by show (Mo_many sMo_j21).toInt = (Mo_many sMo_j21).toInt; omega), (KM.refl _), (by show (Mo_fields sMo_j21).toInt = (Mo_fields sMo_j21).toInt ∨ (Mo_fields sMo_j21).toInt = (Mo_fields sMo_j21).toInt + 1; omega), (by show (Mo_fault sMo_j21).toInt ≠ 0 ∨ (Mo_fields sMo_j21).toInt = (Mo_fields sMo_j21).toInt + 1; omega)⟩
set_option maxHeartbeats 4000000 in
theorem t_Mod_come {fu : Nat} {sMvalues : (Nat → Int64)} {sMturn : (Nat → Int32)} {sMbits : (Nat → Int32)} {a0 : Int32} {a1 : Int32} {a2 : Int32} {a3 : Int32} {a4 : Int64} {a5 : Int32} {sMo : S_Mo} {sMread : (Nat → Int64)} {sMkind : (Nat → Int32)} {sMcode : (Nat → Int32)} {sMwidth : (Nat → Int32)} {sMscale : (Nat → Int32)} {sMlink : (Nat → Int32)} {sMrepeat : (Nat → Int32)} {sMbase : (Nat → Int64)} (hf : 12000 ≤ fu) (I_sMo : I_Mo sMo) (I_sMwidth : A_Mwidth sMwidth) (g_0 : 0 ≤ (Mo_at sMo).toInt) (g_1 : (Mo_mode sMo).toInt < 2 ∨ ((Mo_at sMo).toInt ≤ (Mo_many sMo).toInt ∧ (Mo_many sMo).toInt ≤ 40000)) (g_2 : (Mo_mode sMo).toInt ≠ 3 ∨ (Mo_subsets sMo).toInt ≤ 8) (g_3 : 0 ≤ (Mo_fault sMo).toInt) (g_4 : 0 ≤ a2.toInt) (g_5 : a2.toInt ≤ 32) : So (Mod_come fu sMvalues sMturn sMbits a0 a1 a2 a3 a4 a5 sMo sMread sMkind sMcode sMwidth sMscale sMlink sMrepeat sMbase) (fun r => I_Mo r.2.1 ∧ A_Mwidth r.2.2.2.2.2.1 ∧ (0 ≤ (Mo_at r.2.1).toInt) ∧ ((Mo_mode r.2.1).toInt < 2 ∨ ((Mo_at r.2.1).toInt ≤ (Mo_many r.2.1).toInt ∧ (Mo_many r.2.1).toInt ≤ 40000)) ∧ ((Mo_mode r.2.1).toInt ≠ 3 ∨ (Mo_subsets r.2.1).toInt ≤ 8) ∧ (0 ≤ (Mo_fault r.2.1).toInt) ∧ ((Mo_open r.2.1).toInt = (Mo_open sMo).toInt) ∧ ((Mo_looked r.2.1).toInt = (Mo_looked sMo).toInt) ∧ ((Mo_elements r.2.1).toInt = (Mo_elements sMo).toInt) ∧ ((Mo_pointed r.2.1).toInt = (Mo_pointed sMo).toInt) ∧ ((Mo_pointer r.2.1).toInt = (Mo_pointer sMo).toInt) ∧ ((Mo_mode r.2.1).toInt = (Mo_mode sMo).toInt) ∧ ((Mo_subset r.2.1).toInt = (Mo_subset sMo).toInt) ∧ ((Mo_subsets r.2.1).toInt = (Mo_subsets sMo).toInt) ∧ ((Mo_many r.2.1).toInt = (Mo_many sMo).toInt) ∧ KM r.2.1 sMo ∧ ((Mo_fields r.2.1).toInt = (Mo_fields sMo).toInt ∨ (Mo_fields r.2.1).toInt = (Mo_fields sMo).toInt + 1) ∧ ((Mo_fault r.2.1).toInt ≠ 0 ∨ (Mo_fields r.2.1).toInt = (Mo_fields sMo).toInt + 1)) := by
  unfold Mod_come
  have f_1 := I_Mo_fields I_sMo
  refine So.ite (fun c_2 => ?_) (fun c_2 => ?_)
  · rw [i_eq] at c_2
    have f_3 := I_Mo_fields I_sMo
    have k_4 : (100 : Int32).toInt = 100 := by decide
    have k_5 : (8 : Int32).toInt = 8 := by decide
    have f_6 := I_Mo_open I_sMo
    have f_7 := I_Mo_elements I_sMo
    have f_8 := I_Mo_pointed I_sMo
    have f_9 := I_Mo_pointer I_sMo
    have f_10 := I_Mo_subset I_sMo
    have f_11 := I_Mo_many I_sMo
    have f_12 := I_Mo_at I_sMo
    refine So.bd (t_Mod_wrongAt I_sMo (by show 0 < (8 : Int32).toInt; omega)) fun q1 h_13 => ?_
    obtain ⟨p_14, p_15, p_16, p_17, p_18, p_19, p_20, p_21, p_22, p_23, p_24, p_25, p_26, p_27⟩ := h_13
    have f_28 := I_Mo_at p_14
    have f_29 := I_Mo_many p_14
    have f_30 := I_Mo_fields p_14
    refine So.imp (t_Mod_come_j21 hf p_14 I_sMwidth (by show 0 ≤ (Mo_at q1).toInt; omega) (by show (Mo_mode q1).toInt < 2 ∨ ((Mo_at q1).toInt ≤ (Mo_many q1).toInt ∧ (Mo_many q1).toInt ≤ 40000); omega) (by show (Mo_mode q1).toInt ≠ 3 ∨ (Mo_subsets q1).toInt ≤ 8; omega) (by show 0 ≤ (Mo_fault q1).toInt; omega) (by show (Mo_fields sMo).toInt = (Mo_fields q1).toInt; omega) (by show 0 ≤ a2.toInt; omega) (by show a2.toInt ≤ 32; omega) (by show (Mo_fields sMo).toInt < 100 ∨ 0 < (Mo_fault q1).toInt; omega)) fun q_z h_z => ?_
    obtain ⟨p_31, p_32, p_33, p_34, p_35, p_36, p_37, p_38, p_39, p_40, p_41, p_42, p_43, p_44, p_45, p_46, p_47, p_48⟩ := h_z
    exact ⟨p_31, p_32, (by show 0 ≤ (Mo_at q_z.2.1).toInt; omega), (by show (Mo_mode q_z.2.1).toInt < 2 ∨ ((Mo_at q_z.2.1).toInt ≤ (Mo_many q_z.2.1).toInt ∧ (Mo_many q_z.2.1).toInt ≤ 40000); omega), (by show (Mo_mode q_z.2.1).toInt ≠ 3 ∨ (Mo_subsets q_z.2.1).toInt ≤ 8; omega), (by show 0 ≤ (Mo_fault q_z.2.1).toInt; omega), (by show (Mo_open q_z.2.1).toInt = (Mo_open sMo).toInt; omega), (by show (Mo_looked q_z.2.1).toInt = (Mo_looked sMo).toInt; omega), (by show (Mo_elements q_z.2.1).toInt = (Mo_elements sMo).toInt; omega), (by show (Mo_pointed q_z.2.1).toInt = (Mo_pointed sMo).toInt; omega), (by show (Mo_pointer q_z.2.1).toInt = (Mo_pointer sMo).toInt; omega), (by show (Mo_mode q_z.2.1).toInt = (Mo_mode sMo).toInt; omega), (by show (Mo_subset q_z.2.1).toInt = (Mo_subset sMo).toInt; omega), (by show (Mo_subsets q_z.2.1).toInt = (Mo_subsets sMo).toInt; omega), (by show (Mo_many q_z.2.1).toInt = (Mo_many sMo).toInt; omega), (KM.trans p_46 (KM.trans p_27 (KM.refl _))), (by show (Mo_fields q_z.2.1).toInt = (Mo_fields sMo).toInt ∨ (Mo_fields q_z.2.1).toInt = (Mo_fields sMo).toInt + 1; omega), (by show (Mo_fault q_z.2.1).toInt ≠ 0 ∨ (Mo_fields q_z.2.1).toInt = (Mo_fields sMo).toInt + 1; omega)⟩
  · rw [i_eq] at c_2
    have f_49 := I_Mo_fields I_sMo
    have k_50 : (100 : Int32).toInt = 100 := by decide
    have f_51 := I_Mo_at I_sMo
    have f_52 := I_Mo_many I_sMo
    refine So.imp (t_Mod_come_j21 hf I_sMo I_sMwidth (by show 0 ≤ (Mo_at sMo).toInt; omega) (by show (Mo_mode sMo).toInt < 2 ∨ ((Mo_at sMo).toInt ≤ (Mo_many sMo).toInt ∧ (Mo_many sMo).toInt ≤ 40000); omega) (by show (Mo_mode sMo).toInt ≠ 3 ∨ (Mo_subsets sMo).toInt ≤ 8; omega) (by show 0 ≤ (Mo_fault sMo).toInt; omega) (by show (Mo_fields sMo).toInt = (Mo_fields sMo).toInt; omega) (by show 0 ≤ a2.toInt; omega) (by show a2.toInt ≤ 32; omega) (by show (Mo_fields sMo).toInt < 100 ∨ 0 < (Mo_fault sMo).toInt; omega)) fun q_z h_z => ?_
    obtain ⟨p_53, p_54, p_55, p_56, p_57, p_58, p_59, p_60, p_61, p_62, p_63, p_64, p_65, p_66, p_67, p_68, p_69, p_70⟩ := h_z
    exact ⟨p_53, p_54, (by show 0 ≤ (Mo_at q_z.2.1).toInt; omega), (by show (Mo_mode q_z.2.1).toInt < 2 ∨ ((Mo_at q_z.2.1).toInt ≤ (Mo_many q_z.2.1).toInt ∧ (Mo_many q_z.2.1).toInt ≤ 40000); omega), (by show (Mo_mode q_z.2.1).toInt ≠ 3 ∨ (Mo_subsets q_z.2.1).toInt ≤ 8; omega), (by show 0 ≤ (Mo_fault q_z.2.1).toInt; omega), (by show (Mo_open q_z.2.1).toInt = (Mo_open sMo).toInt; omega), (by show (Mo_looked q_z.2.1).toInt = (Mo_looked sMo).toInt; omega), (by show (Mo_elements q_z.2.1).toInt = (Mo_elements sMo).toInt; omega), (by show (Mo_pointed q_z.2.1).toInt = (Mo_pointed sMo).toInt; omega), (by show (Mo_pointer q_z.2.1).toInt = (Mo_pointer sMo).toInt; omega), (by show (Mo_mode q_z.2.1).toInt = (Mo_mode sMo).toInt; omega), (by show (Mo_subset q_z.2.1).toInt = (Mo_subset sMo).toInt; omega), (by show (Mo_subsets q_z.2.1).toInt = (Mo_subsets sMo).toInt; omega), (by show (Mo_many q_z.2.1).toInt = (Mo_many sMo).toInt; omega), (KM.trans p_68 (KM.refl _)), (by show (Mo_fields q_z.2.1).toInt = (Mo_fields sMo).toInt ∨ (Mo_fields q_z.2.1).toInt = (Mo_fields sMo).toInt + 1; omega), (by show (Mo_fault q_z.2.1).toInt ≠ 0 ∨ (Mo_fields q_z.2.1).toInt = (Mo_fields sMo).toInt + 1; omega)⟩
set_option maxHeartbeats 4000000 in
theorem t_Mod_comes {sMo : S_Mo} (I_sMo : I_Mo sMo) (g_0 : 0 ≤ (Mo_fault sMo).toInt) (g_1 : 0 ≤ (Mo_looked sMo).toInt) (g_2 : (Mo_looked sMo).toInt ≤ 2001) : So (Mod_comes sMo) (fun r => I_Mo r.2 ∧ (0 ≤ (Mo_fault r.2).toInt) ∧ ((Mo_open r.2).toInt = (Mo_open sMo).toInt) ∧ ((Mo_fields r.2).toInt = (Mo_fields sMo).toInt) ∧ ((Mo_elements r.2).toInt = (Mo_elements sMo).toInt) ∧ ((Mo_pointed r.2).toInt = (Mo_pointed sMo).toInt) ∧ ((Mo_pointer r.2).toInt = (Mo_pointer sMo).toInt) ∧ ((Mo_mode r.2).toInt = (Mo_mode sMo).toInt) ∧ ((Mo_subset r.2).toInt = (Mo_subset sMo).toInt) ∧ ((Mo_subsets r.2).toInt = (Mo_subsets sMo).toInt) ∧ ((Mo_many r.2).toInt = (Mo_many sMo).toInt) ∧ ((Mo_at r.2).toInt = (Mo_at sMo).toInt) ∧ KM r.2 sMo ∧ ((Mo_looked r.2).toInt = (Mo_looked sMo).toInt + 1) ∧ ((r.1.toInt = 0 ∧ 0 < (Mo_fault r.2).toInt) ∨ (r.1.toInt = 1 ∧ (Mo_fault r.2).toInt = (Mo_fault sMo).toInt ∧ (Mo_looked r.2).toInt ≤ 2000))) := by
  unfold Mod_comes
  refine So.lt2 fun sMo_1 e_1 => ?_
  have I_2 : I_Mo sMo_1 := by rw [e_1]; exact (I_Mo_set_looked I_sMo)
  have K_3 : KM sMo_1 sMo := by rw [e_1]; exact (KM.refl _)
  have k_4 : (1 : Int32).toInt = 1 := by decide
  first | have f_5 := i_add (a := (Mo_looked sMo)) (b := 1) (by omega) (by omega) | have f_5 := i_addm (Mo_looked sMo) 1
  have f_6 : (Mo_fault sMo_1).toInt = (Mo_fault sMo).toInt := by subst e_1; rfl
  have f_7 : (Mo_open sMo_1).toInt = (Mo_open sMo).toInt := by subst e_1; rfl
  have f_8 : (Mo_looked sMo_1).toInt = (((Mo_looked sMo) + 1) : Int32).toInt := by subst e_1; rfl
  have f_9 : (Mo_fields sMo_1).toInt = (Mo_fields sMo).toInt := by subst e_1; rfl
  have f_10 : (Mo_elements sMo_1).toInt = (Mo_elements sMo).toInt := by subst e_1; rfl
  have f_11 : (Mo_pointed sMo_1).toInt = (Mo_pointed sMo).toInt := by subst e_1; rfl
  have f_12 : (Mo_pointer sMo_1).toInt = (Mo_pointer sMo).toInt := by subst e_1; rfl
  have f_13 : (Mo_mode sMo_1).toInt = (Mo_mode sMo).toInt := by subst e_1; rfl
  have f_14 : (Mo_subset sMo_1).toInt = (Mo_subset sMo).toInt := by subst e_1; rfl
  have f_15 : (Mo_subsets sMo_1).toInt = (Mo_subsets sMo).toInt := by subst e_1; rfl
  have f_16 : (Mo_many sMo_1).toInt = (Mo_many sMo).toInt := by subst e_1; rfl
  have f_17 : (Mo_at sMo_1).toInt = (Mo_at sMo).toInt := by subst e_1; rfl
  refine So.ite (fun c_18 => ?_) (fun c_18 => ?_)
  · rw [i_le] at c_18
    have k_19 : (2000 : Int32).toInt = 2000 := by decide
    unfold Mod_comes_j30
    refine So.ite (fun c_20 => ?_) (fun c_20 => ?_)
    · rw [i_lt] at c_20
      have k_21 : (0 : Int32).toInt = 0 := by decide
      exact So.one ⟨I_2, (by show 0 ≤ (Mo_fault sMo_1).toInt; omega), (by show (Mo_open sMo_1).toInt = (Mo_open sMo).toInt; omega), (by show (Mo_fields sMo_1).toInt = (Mo_fields sMo).toInt; omega), (by show (Mo_elements sMo_1).toInt = (Mo_elements sMo).toInt; omega), (by show (Mo_pointed sMo_1).toInt = (Mo_pointed sMo).toInt; omega), (by show (Mo_pointer sMo_1).toInt = (Mo_pointer sMo).toInt; omega), (by show (Mo_mode sMo_1).toInt = (Mo_mode sMo).toInt; omega), (by show (Mo_subset sMo_1).toInt = (Mo_subset sMo).toInt; omega), (by show (Mo_subsets sMo_1).toInt = (Mo_subsets sMo).toInt; omega), (by show (Mo_many sMo_1).toInt = (Mo_many sMo).toInt; omega), (by show (Mo_at sMo_1).toInt = (Mo_at sMo).toInt; omega), K_3, (by show (Mo_looked sMo_1).toInt = (Mo_looked sMo).toInt + 1; omega), (by show ((0 : Int32).toInt = 0 ∧ 0 < (Mo_fault sMo_1).toInt) ∨ ((0 : Int32).toInt = 1 ∧ (Mo_fault sMo_1).toInt = (Mo_fault sMo).toInt ∧ (Mo_looked sMo_1).toInt ≤ 2000); omega)⟩
    · rw [i_lt] at c_20
      exact So.one ⟨I_2, (by show 0 ≤ (Mo_fault sMo_1).toInt; omega), (by show (Mo_open sMo_1).toInt = (Mo_open sMo).toInt; omega), (by show (Mo_fields sMo_1).toInt = (Mo_fields sMo).toInt; omega), (by show (Mo_elements sMo_1).toInt = (Mo_elements sMo).toInt; omega), (by show (Mo_pointed sMo_1).toInt = (Mo_pointed sMo).toInt; omega), (by show (Mo_pointer sMo_1).toInt = (Mo_pointer sMo).toInt; omega), (by show (Mo_mode sMo_1).toInt = (Mo_mode sMo).toInt; omega), (by show (Mo_subset sMo_1).toInt = (Mo_subset sMo).toInt; omega), (by show (Mo_subsets sMo_1).toInt = (Mo_subsets sMo).toInt; omega), (by show (Mo_many sMo_1).toInt = (Mo_many sMo).toInt; omega), (by show (Mo_at sMo_1).toInt = (Mo_at sMo).toInt; omega), K_3, (by show (Mo_looked sMo_1).toInt = (Mo_looked sMo).toInt + 1; omega), (by show ((1 : Int32).toInt = 0 ∧ 0 < (Mo_fault sMo_1).toInt) ∨ ((1 : Int32).toInt = 1 ∧ (Mo_fault sMo_1).toInt = (Mo_fault sMo).toInt ∧ (Mo_looked sMo_1).toInt ≤ 2000); omega)⟩
  · rw [i_le] at c_18
    have k_22 : (2000 : Int32).toInt = 2000 := by decide
    have k_23 : (8 : Int32).toInt = 8 := by decide
    have f_24 := I_Mo_open I_2
    have f_25 := I_Mo_fields I_2
    have f_26 := I_Mo_elements I_2
    have f_27 := I_Mo_pointed I_2
    have f_28 := I_Mo_pointer I_2
    have f_29 := I_Mo_subset I_2
    have f_30 := I_Mo_many I_2
    have f_31 := I_Mo_at I_2
    refine So.bd (t_Mod_wrongAt I_2 (by show 0 < (8 : Int32).toInt; omega)) fun q2 h_32 => ?_
    obtain ⟨p_33, p_34, p_35, p_36, p_37, p_38, p_39, p_40, p_41, p_42, p_43, p_44, p_45, p_46⟩ := h_32
    unfold Mod_comes_j30
    refine So.ite (fun c_47 => ?_) (fun c_47 => ?_)
    · rw [i_lt] at c_47
      have k_48 : (0 : Int32).toInt = 0 := by decide
      exact So.one ⟨p_33, (by show 0 ≤ (Mo_fault q2).toInt; omega), (by show (Mo_open q2).toInt = (Mo_open sMo).toInt; omega), (by show (Mo_fields q2).toInt = (Mo_fields sMo).toInt; omega), (by show (Mo_elements q2).toInt = (Mo_elements sMo).toInt; omega), (by show (Mo_pointed q2).toInt = (Mo_pointed sMo).toInt; omega), (by show (Mo_pointer q2).toInt = (Mo_pointer sMo).toInt; omega), (by show (Mo_mode q2).toInt = (Mo_mode sMo).toInt; omega), (by show (Mo_subset q2).toInt = (Mo_subset sMo).toInt; omega), (by show (Mo_subsets q2).toInt = (Mo_subsets sMo).toInt; omega), (by show (Mo_many q2).toInt = (Mo_many sMo).toInt; omega), (by show (Mo_at q2).toInt = (Mo_at sMo).toInt; omega), (KM.trans p_46 K_3), (by show (Mo_looked q2).toInt = (Mo_looked sMo).toInt + 1; omega), (by show ((0 : Int32).toInt = 0 ∧ 0 < (Mo_fault q2).toInt) ∨ ((0 : Int32).toInt = 1 ∧ (Mo_fault q2).toInt = (Mo_fault sMo).toInt ∧ (Mo_looked q2).toInt ≤ 2000); omega)⟩
    · rw [i_lt] at c_47
      exact So.one ⟨p_33, (by show 0 ≤ (Mo_fault q2).toInt; omega), (by show (Mo_open q2).toInt = (Mo_open sMo).toInt; omega), (by show (Mo_fields q2).toInt = (Mo_fields sMo).toInt; omega), (by show (Mo_elements q2).toInt = (Mo_elements sMo).toInt; omega), (by show (Mo_pointed q2).toInt = (Mo_pointed sMo).toInt; omega), (by show (Mo_pointer q2).toInt = (Mo_pointer sMo).toInt; omega), (by show (Mo_mode q2).toInt = (Mo_mode sMo).toInt; omega), (by show (Mo_subset q2).toInt = (Mo_subset sMo).toInt; omega), (by show (Mo_subsets q2).toInt = (Mo_subsets sMo).toInt; omega), (by show (Mo_many q2).toInt = (Mo_many sMo).toInt; omega), (by show (Mo_at q2).toInt = (Mo_at sMo).toInt; omega), (KM.trans p_46 K_3), (by show (Mo_looked q2).toInt = (Mo_looked sMo).toInt + 1; omega), (by show ((1 : Int32).toInt = 0 ∧ 0 < (Mo_fault q2).toInt) ∨ ((1 : Int32).toInt = 1 ∧ (Mo_fault q2).toInt = (Mo_fault sMo).toInt ∧ (Mo_looked q2).toInt ≤ 2000); omega)⟩
set_option maxHeartbeats 4000000 in
theorem t_Mod_walkBits_L30 {fu : Nat} {sMvalues : (Nat → Int64)} {sMturn : (Nat → Int32)} {sMelementAt : (Nat → Int32)} {sMbits : (Nat → Int32)} {x1_L30 : Int32} (Z : S_Mo) (hf : 12000 ≤ fu) (I_sMelementAt : A_MelementAt sMelementAt) (g_0 : 0 ≤ x1_L30.toInt) (g_1 : x1_L30.toInt ≤ 16) : ∀ (n : Nat) (x2_L30 : Int32) (sMo_L30 : S_Mo) (sMread_L30 : Nat → Int64) (sMkind_L30 : Nat → Int32) (sMcode_L30 : Nat → Int32) (sMwidth_L30 : Nat → Int32) (sMscale_L30 : Nat → Int32) (sMlink_L30 : Nat → Int32) (sMrepeat_L30 : Nat → Int32) (sMbase_L30 : Nat → Int64) (sMpointAt_L30 : Nat → Int32), I_Mo sMo_L30 → A_Mwidth sMwidth_L30 → A_MpointAt sMpointAt_L30 → (0 ≤ x2_L30.toInt) → (x2_L30.toInt ≤ 16) → ((Mo_pointed sMo_L30).toInt ≤ x2_L30.toInt) → ((Mo_fault sMo_L30).toInt ≠ 0 ∨ x1_L30.toInt ≤ (Mo_elements sMo_L30).toInt) → ((Mo_pointer sMo_L30).toInt = 0) → ((Mo_elements sMo_L30).toInt ≤ (Mo_fields sMo_L30).toInt) → (0 ≤ (Mo_at sMo_L30).toInt) → ((Mo_mode sMo_L30).toInt < 2 ∨ ((Mo_at sMo_L30).toInt ≤ (Mo_many sMo_L30).toInt ∧ (Mo_many sMo_L30).toInt ≤ 40000)) → ((Mo_mode sMo_L30).toInt ≠ 3 ∨ (Mo_subsets sMo_L30).toInt ≤ 8) → (0 ≤ (Mo_fault sMo_L30).toInt) → ((Mo_open sMo_L30).toInt = (Mo_open Z).toInt) → ((Mo_looked sMo_L30).toInt = (Mo_looked Z).toInt) → ((Mo_elements sMo_L30).toInt = (Mo_elements Z).toInt) → ((Mo_mode sMo_L30).toInt = (Mo_mode Z).toInt) → ((Mo_subset sMo_L30).toInt = (Mo_subset Z).toInt) → ((Mo_subsets sMo_L30).toInt = (Mo_subsets Z).toInt) → ((Mo_many sMo_L30).toInt = (Mo_many Z).toInt) → (KM sMo_L30 Z) → (16 - x2_L30.toInt < (n : Nat)) → So (Mod_walkBits_L30 fu sMvalues sMturn sMelementAt sMbits x1_L30 n x2_L30 sMo_L30 sMread_L30 sMkind_L30 sMcode_L30 sMwidth_L30 sMscale_L30 sMlink_L30 sMrepeat_L30 sMbase_L30 sMpointAt_L30) (fun r => I_Mo r.1 ∧ A_Mwidth r.2.2.2.2.1 ∧ A_MpointAt r.2.2.2.2.2.2.2.2.2 ∧ (0 ≤ (Mo_at r.1).toInt) ∧ ((Mo_mode r.1).toInt < 2 ∨ ((Mo_at r.1).toInt ≤ (Mo_many r.1).toInt ∧ (Mo_many r.1).toInt ≤ 40000)) ∧ ((Mo_mode r.1).toInt ≠ 3 ∨ (Mo_subsets r.1).toInt ≤ 8) ∧ (0 ≤ (Mo_fault r.1).toInt) ∧ ((Mo_elements r.1).toInt ≤ (Mo_fields r.1).toInt) ∧ ((Mo_pointer r.1).toInt ≤ (Mo_pointed r.1).toInt) ∧ ((Mo_open r.1).toInt = (Mo_open Z).toInt) ∧ ((Mo_looked r.1).toInt = (Mo_looked Z).toInt) ∧ ((Mo_elements r.1).toInt = (Mo_elements Z).toInt) ∧ ((Mo_mode r.1).toInt = (Mo_mode Z).toInt) ∧ ((Mo_subset r.1).toInt = (Mo_subset Z).toInt) ∧ ((Mo_subsets r.1).toInt = (Mo_subsets Z).toInt) ∧ ((Mo_many r.1).toInt = (Mo_many Z).toInt) ∧ KM r.1 Z)
  | 0, x2_L30, sMo_L30, sMread_L30, sMkind_L30, sMcode_L30, sMwidth_L30, sMscale_L30, sMlink_L30, sMrepeat_L30, sMbase_L30, sMpointAt_L30, I_sMo_L30, I_sMwidth_L30, I_sMpointAt_L30, l_0, l_1, l_2, l_3, l_4, l_5, l_6, l_7, l_8, l_9, l_10, l_11, l_12, l_13, l_14, l_15, l_16, l_17, l_18 => absurd l_18 (by omega)
  | n + 1, x2_L30, sMo_L30, sMread_L30, sMkind_L30, sMcode_L30, sMwidth_L30, sMscale_L30, sMlink_L30, sMrepeat_L30, sMbase_L30, sMpointAt_L30, I_sMo_L30, I_sMwidth_L30, I_sMpointAt_L30, l_0, l_1, l_2, l_3, l_4, l_5, l_6, l_7, l_8, l_9, l_10, l_11, l_12, l_13, l_14, l_15, l_16, l_17, l_18 => by
    rw [Mod_walkBits_L30]
    have f_1 := I_Mo_elements I_sMo_L30
    have f_2 := I_Mo_fields I_sMo_L30
    have f_3 := I_Mo_pointed I_sMo_L30
    refine So.ite (fun c_4 => ?_) (fun c_4 => ?_)
    · rw [i_le] at c_4
      exact So.one ⟨I_sMo_L30, I_sMwidth_L30, I_sMpointAt_L30, (by show 0 ≤ (Mo_at sMo_L30).toInt; omega), (by show (Mo_mode sMo_L30).toInt < 2 ∨ ((Mo_at sMo_L30).toInt ≤ (Mo_many sMo_L30).toInt ∧ (Mo_many sMo_L30).toInt ≤ 40000); omega), (by show (Mo_mode sMo_L30).toInt ≠ 3 ∨ (Mo_subsets sMo_L30).toInt ≤ 8; omega), (by show 0 ≤ (Mo_fault sMo_L30).toInt; omega), (by show (Mo_elements sMo_L30).toInt ≤ (Mo_fields sMo_L30).toInt; omega), (by show (Mo_pointer sMo_L30).toInt ≤ (Mo_pointed sMo_L30).toInt; omega), (by show (Mo_open sMo_L30).toInt = (Mo_open Z).toInt; omega), (by show (Mo_looked sMo_L30).toInt = (Mo_looked Z).toInt; omega), (by show (Mo_elements sMo_L30).toInt = (Mo_elements Z).toInt; omega), (by show (Mo_mode sMo_L30).toInt = (Mo_mode Z).toInt; omega), (by show (Mo_subset sMo_L30).toInt = (Mo_subset Z).toInt; omega), (by show (Mo_subsets sMo_L30).toInt = (Mo_subsets Z).toInt; omega), (by show (Mo_many sMo_L30).toInt = (Mo_many Z).toInt; omega), l_17⟩
    · rw [i_le] at c_4
      refine So.ite (fun c_5 => ?_) (fun c_5 => ?_)
      · rw [i_eq] at c_5
        have k_6 : (0 : Int32).toInt = 0 := by decide
        have f_7 := I_Mo_elements I_sMo_L30
        first | have f_8 := i_sub (a := (Mo_elements sMo_L30)) (b := x1_L30) (by omega) (by omega) | have f_8 := i_subm (Mo_elements sMo_L30) x1_L30
        first | have f_9 := i_add (a := ((Mo_elements sMo_L30) - x1_L30)) (b := x2_L30) (by omega) (by omega) | have f_9 := i_addm ((Mo_elements sMo_L30) - x1_L30) x2_L30
        refine So.gd (i_in.mpr (by omega)) ?_
        refine So.lt2 fun u6 e_10 => ?_
        have f_11 := A_MelementAt_at I_sMelementAt ((((Mo_elements sMo_L30) - x1_L30) + x2_L30).toNatClampNeg)
        have f_12 : u6.toInt = (sMelementAt ((((Mo_elements sMo_L30) - x1_L30) + x2_L30).toNatClampNeg)).toInt := by rw [e_10]
        have f_13 := I_Mo_at I_sMo_L30
        have f_14 := I_Mo_many I_sMo_L30
        have k_15 : (1 : Int32).toInt = 1 := by decide
        have f_16 := I_Mo_open I_sMo_L30
        have f_17 := I_Mo_pointed I_sMo_L30
        have f_18 := I_Mo_pointer I_sMo_L30
        have f_19 := I_Mo_subset I_sMo_L30
        have f_20 := I_Mo_fields I_sMo_L30
        refine So.bd (t_Mod_come hf I_sMo_L30 I_sMwidth_L30 (by show 0 ≤ (Mo_at sMo_L30).toInt; omega) (by show (Mo_mode sMo_L30).toInt < 2 ∨ ((Mo_at sMo_L30).toInt ≤ (Mo_many sMo_L30).toInt ∧ (Mo_many sMo_L30).toInt ≤ 40000); omega) (by show (Mo_mode sMo_L30).toInt ≠ 3 ∨ (Mo_subsets sMo_L30).toInt ≤ 8; omega) (by show 0 ≤ (Mo_fault sMo_L30).toInt; omega) (by show 0 ≤ (1 : Int32).toInt; omega) (by show (1 : Int32).toInt ≤ 32; omega)) fun q7 h_21 => ?_
        obtain ⟨p_22, p_23, p_24, p_25, p_26, p_27, p_28, p_29, p_30, p_31, p_32, p_33, p_34, p_35, p_36, p_37, p_38, p_39⟩ := h_21
        refine So.ite (fun c_40 => ?_) (fun c_40 => ?_)
        · have f_41 := I_Mo_pointed p_22
          refine So.gd (i_in.mpr (by omega)) ?_
          refine So.lt2 fun sMpointAt_9 e_42 => ?_
          have I_43 : A_MpointAt sMpointAt_9 := by rw [e_42]; exact (A_MpointAt_upd I_sMpointAt_L30 (by show 0 ≤ (u6 : Int32).toInt ∧ (u6 : Int32).toInt ≤ 99; omega))
          first | have f_45 := i_add (a := (Mo_pointed q7.2.1)) (b := 1) (by omega) (by omega) | have f_45 := i_addm (Mo_pointed q7.2.1) 1
          refine So.lt2 fun sMo_10 e_44 => ?_
          have I_46 : I_Mo sMo_10 := by rw [e_44]; exact (I_Mo_set_pointed p_22 (by show 0 ≤ (((Mo_pointed q7.2.1) + 1) : Int32).toInt ∧ (((Mo_pointed q7.2.1) + 1) : Int32).toInt ≤ 100; omega))
          have K_47 : KM sMo_10 Z := by rw [e_44]; exact (KM.trans p_37 l_17)
          have f_48 : (Mo_fault sMo_10).toInt = (Mo_fault q7.2.1).toInt := by subst e_44; rfl
          have f_49 : (Mo_open sMo_10).toInt = (Mo_open q7.2.1).toInt := by subst e_44; rfl
          have f_50 : (Mo_looked sMo_10).toInt = (Mo_looked q7.2.1).toInt := by subst e_44; rfl
          have f_51 : (Mo_fields sMo_10).toInt = (Mo_fields q7.2.1).toInt := by subst e_44; rfl
          have f_52 : (Mo_elements sMo_10).toInt = (Mo_elements q7.2.1).toInt := by subst e_44; rfl
          have f_53 : (Mo_pointed sMo_10).toInt = (((Mo_pointed q7.2.1) + 1) : Int32).toInt := by subst e_44; rfl
          have f_54 : (Mo_pointer sMo_10).toInt = (Mo_pointer q7.2.1).toInt := by subst e_44; rfl
          have f_55 : (Mo_mode sMo_10).toInt = (Mo_mode q7.2.1).toInt := by subst e_44; rfl
          have f_56 : (Mo_subset sMo_10).toInt = (Mo_subset q7.2.1).toInt := by subst e_44; rfl
          have f_57 : (Mo_subsets sMo_10).toInt = (Mo_subsets q7.2.1).toInt := by subst e_44; rfl
          have f_58 : (Mo_many sMo_10).toInt = (Mo_many q7.2.1).toInt := by subst e_44; rfl
          have f_59 : (Mo_at sMo_10).toInt = (Mo_at q7.2.1).toInt := by subst e_44; rfl
          unfold Mod_walkBits_j91
          first | have f_60 := i_add (a := x2_L30) (b := 1) (by omega) (by omega) | have f_60 := i_addm x2_L30 1
          have f_61 := I_Mo_pointed I_46
          have f_62 := I_Mo_elements I_46
          have f_63 := I_Mo_pointer I_46
          have f_64 := I_Mo_fields I_46
          have f_65 := I_Mo_at I_46
          have f_66 := I_Mo_many I_46
          have f_67 := I_Mo_open I_46
          have f_68 := I_Mo_subset I_46
          exact t_Mod_walkBits_L30 (Z) hf I_sMelementAt (by show 0 ≤ x1_L30.toInt; omega) (by show x1_L30.toInt ≤ 16; omega)   n _ _ _ _ _ _ _ _ _ _ _ I_46 p_23 I_43 (by show 0 ≤ (x2_L30 + 1).toInt; omega) (by show (x2_L30 + 1).toInt ≤ 16; omega) (by show (Mo_pointed sMo_10).toInt ≤ (x2_L30 + 1).toInt; omega) (by show (Mo_fault sMo_10).toInt ≠ 0 ∨ x1_L30.toInt ≤ (Mo_elements sMo_10).toInt; omega) (by show (Mo_pointer sMo_10).toInt = 0; omega) (by show (Mo_elements sMo_10).toInt ≤ (Mo_fields sMo_10).toInt; omega) (by show 0 ≤ (Mo_at sMo_10).toInt; omega) (by show (Mo_mode sMo_10).toInt < 2 ∨ ((Mo_at sMo_10).toInt ≤ (Mo_many sMo_10).toInt ∧ (Mo_many sMo_10).toInt ≤ 40000); omega) (by show (Mo_mode sMo_10).toInt ≠ 3 ∨ (Mo_subsets sMo_10).toInt ≤ 8; omega) (by show 0 ≤ (Mo_fault sMo_10).toInt; omega) (by show (Mo_open sMo_10).toInt = (Mo_open Z).toInt; omega) (by show (Mo_looked sMo_10).toInt = (Mo_looked Z).toInt; omega) (by show (Mo_elements sMo_10).toInt = (Mo_elements Z).toInt; omega) (by show (Mo_mode sMo_10).toInt = (Mo_mode Z).toInt; omega) (by show (Mo_subset sMo_10).toInt = (Mo_subset Z).toInt; omega) (by show (Mo_subsets sMo_10).toInt = (Mo_subsets Z).toInt; omega) (by show (Mo_many sMo_10).toInt = (Mo_many Z).toInt; omega) K_47 (by show 16 - (x2_L30 + 1).toInt < (n : Nat); omega)
        · unfold Mod_walkBits_j91
          first | have f_69 := i_add (a := x2_L30) (b := 1) (by omega) (by omega) | have f_69 := i_addm x2_L30 1
          have f_70 := I_Mo_pointed p_22
          have f_71 := I_Mo_elements p_22
          have f_72 := I_Mo_pointer p_22
          have f_73 := I_Mo_fields p_22
          have f_74 := I_Mo_at p_22
          have f_75 := I_Mo_many p_22
          have f_76 := I_Mo_open p_22
          have f_77 := I_Mo_subset p_22
          exact t_Mod_walkBits_L30 (Z) hf I_sMelementAt (by show 0 ≤ x1_L30.toInt; omega) (by show x1_L30.toInt ≤ 16; omega)   n _ _ _ _ _ _ _ _ _ _ _ p_22 p_23 I_sMpointAt_L30 (by show 0 ≤ (x2_L30 + 1).toInt; omega) (by show (x2_L30 + 1).toInt ≤ 16; omega) (by show (Mo_pointed q7.2.1).toInt ≤ (x2_L30 + 1).toInt; omega) (by show (Mo_fault q7.2.1).toInt ≠ 0 ∨ x1_L30.toInt ≤ (Mo_elements q7.2.1).toInt; omega) (by show (Mo_pointer q7.2.1).toInt = 0; omega) (by show (Mo_elements q7.2.1).toInt ≤ (Mo_fields q7.2.1).toInt; omega) (by show 0 ≤ (Mo_at q7.2.1).toInt; omega) (by show (Mo_mode q7.2.1).toInt < 2 ∨ ((Mo_at q7.2.1).toInt ≤ (Mo_many q7.2.1).toInt ∧ (Mo_many q7.2.1).toInt ≤ 40000); omega) (by show (Mo_mode q7.2.1).toInt ≠ 3 ∨ (Mo_subsets q7.2.1).toInt ≤ 8; omega) (by show 0 ≤ (Mo_fault q7.2.1).toInt; omega) (by show (Mo_open q7.2.1).toInt = (Mo_open Z).toInt; omega) (by show (Mo_looked q7.2.1).toInt = (Mo_looked Z).toInt; omega) (by show (Mo_elements q7.2.1).toInt = (Mo_elements Z).toInt; omega) (by show (Mo_mode q7.2.1).toInt = (Mo_mode Z).toInt; omega) (by show (Mo_subset q7.2.1).toInt = (Mo_subset Z).toInt; omega) (by show (Mo_subsets q7.2.1).toInt = (Mo_subsets Z).toInt; omega) (by show (Mo_many q7.2.1).toInt = (Mo_many Z).toInt; omega) (KM.trans p_37 l_17) (by show 16 - (x2_L30 + 1).toInt < (n : Nat); omega)
      · rw [i_eq] at c_5
        have k_78 : (0 : Int32).toInt = 0 := by decide
        exact So.one ⟨I_sMo_L30, I_sMwidth_L30, I_sMpointAt_L30, (by show 0 ≤ (Mo_at sMo_L30).toInt; omega), (by show (Mo_mode sMo_L30).toInt < 2 ∨ ((Mo_at sMo_L30).toInt ≤ (Mo_many sMo_L30).toInt ∧ (Mo_many sMo_L30).toInt ≤ 40000); omega), (by show (Mo_mode sMo_L30).toInt ≠ 3 ∨ (Mo_subsets sMo_L30).toInt ≤ 8; omega), (by show 0 ≤ (Mo_fault sMo_L30).toInt; omega), (by show (Mo_elements sMo_L30).toInt ≤ (Mo_fields sMo_L30).toInt; omega), (by show (Mo_pointer sMo_L30).toInt ≤ (Mo_pointed sMo_L30).toInt; omega), (by show (Mo_open sMo_L30).toInt = (Mo_open Z).toInt; omega), (by show (Mo_looked sMo_L30).toInt = (Mo_looked Z).toInt; omega), (by show (Mo_elements sMo_L30).toInt = (Mo_elements Z).toInt; omega), (by show (Mo_mode sMo_L30).toInt = (Mo_mode Z).toInt; omega), (by show (Mo_subset sMo_L30).toInt = (Mo_subset Z).toInt; omega), (by show (Mo_subsets sMo_L30).toInt = (Mo_subsets Z).toInt; omega), (by show (Mo_many sMo_L30).toInt = (Mo_many Z).toInt; omega), l_17⟩
set_option maxHeartbeats 4000000 in
theorem t_Mod_walkBits {fu : Nat} {sMvalues : (Nat → Int64)} {sMturn : (Nat → Int32)} {sMelementAt : (Nat → Int32)} {sMbits : (Nat → Int32)} {a0 : Int32} {sMo : S_Mo} {sMread : (Nat → Int64)} {sMkind : (Nat → Int32)} {sMcode : (Nat → Int32)} {sMwidth : (Nat → Int32)} {sMscale : (Nat → Int32)} {sMlink : (Nat → Int32)} {sMrepeat : (Nat → Int32)} {sMbase : (Nat → Int64)} {sMpointAt : (Nat → Int32)} (hf : 12000 ≤ fu) (I_sMelementAt : A_MelementAt sMelementAt) (I_sMo : I_Mo sMo) (I_sMwidth : A_Mwidth sMwidth) (I_sMpointAt : A_MpointAt sMpointAt) (g_0 : 0 ≤ (Mo_at sMo).toInt) (g_1 : (Mo_mode sMo).toInt < 2 ∨ ((Mo_at sMo).toInt ≤ (Mo_many sMo).toInt ∧ (Mo_many sMo).toInt ≤ 40000)) (g_2 : (Mo_mode sMo).toInt ≠ 3 ∨ (Mo_subsets sMo).toInt ≤ 8) (g_3 : 0 ≤ (Mo_fault sMo).toInt) (g_4 : (Mo_elements sMo).toInt ≤ (Mo_fields sMo).toInt) (g_5 : 1 ≤ a0.toInt) (g_6 : a0.toInt ≤ 16) : So (Mod_walkBits fu sMvalues sMturn sMelementAt sMbits a0 sMo sMread sMkind sMcode sMwidth sMscale sMlink sMrepeat sMbase sMpointAt) (fun r => I_Mo r.1 ∧ A_Mwidth r.2.2.2.2.1 ∧ A_MpointAt r.2.2.2.2.2.2.2.2.2 ∧ (0 ≤ (Mo_at r.1).toInt) ∧ ((Mo_mode r.1).toInt < 2 ∨ ((Mo_at r.1).toInt ≤ (Mo_many r.1).toInt ∧ (Mo_many r.1).toInt ≤ 40000)) ∧ ((Mo_mode r.1).toInt ≠ 3 ∨ (Mo_subsets r.1).toInt ≤ 8) ∧ (0 ≤ (Mo_fault r.1).toInt) ∧ ((Mo_elements r.1).toInt ≤ (Mo_fields r.1).toInt) ∧ ((Mo_pointer r.1).toInt ≤ (Mo_pointed r.1).toInt) ∧ ((Mo_open r.1).toInt = (Mo_open sMo).toInt) ∧ ((Mo_looked r.1).toInt = (Mo_looked sMo).toInt) ∧ ((Mo_elements r.1).toInt = (Mo_elements sMo).toInt) ∧ ((Mo_mode r.1).toInt = (Mo_mode sMo).toInt) ∧ ((Mo_subset r.1).toInt = (Mo_subset sMo).toInt) ∧ ((Mo_subsets r.1).toInt = (Mo_subsets sMo).toInt) ∧ ((Mo_many r.1).toInt = (Mo_many sMo).toInt) ∧ KM r.1 sMo) := by
  unfold Mod_walkBits
  have f_1 := I_Mo_elements I_sMo
  refine So.ite (fun c_2 => ?_) (fun c_2 => ?_)
  · rw [i_le] at c_2
    have f_3 := I_Mo_elements I_sMo
    unfold Mod_walkBits_j18
    have k_5 : (0 : Int32).toInt = 0 := by decide
    refine So.lt2 fun sMo_3 e_4 => ?_
    have I_6 : I_Mo sMo_3 := by rw [e_4]; exact (I_Mo_set_pointed I_sMo (by show 0 ≤ (0 : Int32).toInt ∧ (0 : Int32).toInt ≤ 100; omega))
    have K_7 : KM sMo_3 sMo := by rw [e_4]; exact (KM.refl _)
    have f_8 : (Mo_fault sMo_3).toInt = (Mo_fault sMo).toInt := by subst e_4; rfl
    have f_9 : (Mo_open sMo_3).toInt = (Mo_open sMo).toInt := by subst e_4; rfl
    have f_10 : (Mo_looked sMo_3).toInt = (Mo_looked sMo).toInt := by subst e_4; rfl
    have f_11 : (Mo_fields sMo_3).toInt = (Mo_fields sMo).toInt := by subst e_4; rfl
    have f_12 : (Mo_elements sMo_3).toInt = (Mo_elements sMo).toInt := by subst e_4; rfl
    have f_13 : (Mo_pointed sMo_3).toInt = (0 : Int32).toInt := by subst e_4; rfl
    have f_14 : (Mo_pointer sMo_3).toInt = (Mo_pointer sMo).toInt := by subst e_4; rfl
    have f_15 : (Mo_mode sMo_3).toInt = (Mo_mode sMo).toInt := by subst e_4; rfl
    have f_16 : (Mo_subset sMo_3).toInt = (Mo_subset sMo).toInt := by subst e_4; rfl
    have f_17 : (Mo_subsets sMo_3).toInt = (Mo_subsets sMo).toInt := by subst e_4; rfl
    have f_18 : (Mo_many sMo_3).toInt = (Mo_many sMo).toInt := by subst e_4; rfl
    have f_19 : (Mo_at sMo_3).toInt = (Mo_at sMo).toInt := by subst e_4; rfl
    refine So.lt2 fun sMo_4 e_20 => ?_
    have I_21 : I_Mo sMo_4 := by rw [e_20]; exact (I_Mo_set_pointer I_6 (by show 0 ≤ (0 : Int32).toInt ∧ (0 : Int32).toInt ≤ 100; omega))
    have K_22 : KM sMo_4 sMo := by rw [e_20]; exact K_7
    have f_23 : (Mo_fault sMo_4).toInt = (Mo_fault sMo_3).toInt := by subst e_20; rfl
    have f_24 : (Mo_open sMo_4).toInt = (Mo_open sMo_3).toInt := by subst e_20; rfl
    have f_25 : (Mo_looked sMo_4).toInt = (Mo_looked sMo_3).toInt := by subst e_20; rfl
    have f_26 : (Mo_fields sMo_4).toInt = (Mo_fields sMo_3).toInt := by subst e_20; rfl
    have f_27 : (Mo_elements sMo_4).toInt = (Mo_elements sMo_3).toInt := by subst e_20; rfl
    have f_28 : (Mo_pointed sMo_4).toInt = (Mo_pointed sMo_3).toInt := by subst e_20; rfl
    have f_29 : (Mo_pointer sMo_4).toInt = (0 : Int32).toInt := by subst e_20; rfl
    have f_30 : (Mo_mode sMo_4).toInt = (Mo_mode sMo_3).toInt := by subst e_20; rfl
    have f_31 : (Mo_subset sMo_4).toInt = (Mo_subset sMo_3).toInt := by subst e_20; rfl
    have f_32 : (Mo_subsets sMo_4).toInt = (Mo_subsets sMo_3).toInt := by subst e_20; rfl
    have f_33 : (Mo_many sMo_4).toInt = (Mo_many sMo_3).toInt := by subst e_20; rfl
    have f_34 : (Mo_at sMo_4).toInt = (Mo_at sMo_3).toInt := by subst e_20; rfl
    have f_35 := I_Mo_pointed I_21
    have f_36 := I_Mo_elements I_21
    have f_37 := I_Mo_pointer I_21
    have f_38 := I_Mo_fields I_21
    have f_39 := I_Mo_at I_21
    have f_40 := I_Mo_many I_21
    have f_41 := I_Mo_open I_21
    have f_42 := I_Mo_subset I_21
    refine So.imp (t_Mod_walkBits_L30 (sMo) hf I_sMelementAt (by show 0 ≤ a0.toInt; omega) (by show a0.toInt ≤ 16; omega) fu _ _ _ _ _ _ _ _ _ _ _ I_21 I_sMwidth I_sMpointAt (by show 0 ≤ (0 : Int32).toInt; omega) (by show (0 : Int32).toInt ≤ 16; omega) (by show (Mo_pointed sMo_4).toInt ≤ (0 : Int32).toInt; omega) (by show (Mo_fault sMo_4).toInt ≠ 0 ∨ a0.toInt ≤ (Mo_elements sMo_4).toInt; omega) (by show (Mo_pointer sMo_4).toInt = 0; omega) (by show (Mo_elements sMo_4).toInt ≤ (Mo_fields sMo_4).toInt; omega) (by show 0 ≤ (Mo_at sMo_4).toInt; omega) (by show (Mo_mode sMo_4).toInt < 2 ∨ ((Mo_at sMo_4).toInt ≤ (Mo_many sMo_4).toInt ∧ (Mo_many sMo_4).toInt ≤ 40000); omega) (by show (Mo_mode sMo_4).toInt ≠ 3 ∨ (Mo_subsets sMo_4).toInt ≤ 8; omega) (by show 0 ≤ (Mo_fault sMo_4).toInt; omega) (by show (Mo_open sMo_4).toInt = (Mo_open sMo).toInt; omega) (by show (Mo_looked sMo_4).toInt = (Mo_looked sMo).toInt; omega) (by show (Mo_elements sMo_4).toInt = (Mo_elements sMo).toInt; omega) (by show (Mo_mode sMo_4).toInt = (Mo_mode sMo).toInt; omega) (by show (Mo_subset sMo_4).toInt = (Mo_subset sMo).toInt; omega) (by show (Mo_subsets sMo_4).toInt = (Mo_subsets sMo).toInt; omega) (by show (Mo_many sMo_4).toInt = (Mo_many sMo).toInt; omega) K_22 (by show 16 - (0 : Int32).toInt < (fu : Nat); omega)) fun q_z h_z => ?_
    obtain ⟨p_43, p_44, p_45, p_46, p_47, p_48, p_49, p_50, p_51, p_52, p_53, p_54, p_55, p_56, p_57, p_58, p_59⟩ := h_z
    exact ⟨p_43, p_44, p_45, (by show 0 ≤ (Mo_at q_z.1).toInt; omega), (by show (Mo_mode q_z.1).toInt < 2 ∨ ((Mo_at q_z.1).toInt ≤ (Mo_many q_z.1).toInt ∧ (Mo_many q_z.1).toInt ≤ 40000); omega), (by show (Mo_mode q_z.1).toInt ≠ 3 ∨ (Mo_subsets q_z.1).toInt ≤ 8; omega), (by show 0 ≤ (Mo_fault q_z.1).toInt; omega), (by show (Mo_elements q_z.1).toInt ≤ (Mo_fields q_z.1).toInt; omega), (by show (Mo_pointer q_z.1).toInt ≤ (Mo_pointed q_z.1).toInt; omega), (by show (Mo_open q_z.1).toInt = (Mo_open sMo).toInt; omega), (by show (Mo_looked q_z.1).toInt = (Mo_looked sMo).toInt; omega), (by show (Mo_elements q_z.1).toInt = (Mo_elements sMo).toInt; omega), (by show (Mo_mode q_z.1).toInt = (Mo_mode sMo).toInt; omega), (by show (Mo_subset q_z.1).toInt = (Mo_subset sMo).toInt; omega), (by show (Mo_subsets q_z.1).toInt = (Mo_subsets sMo).toInt; omega), (by show (Mo_many q_z.1).toInt = (Mo_many sMo).toInt; omega), (KM.trans p_59 (KM.refl _))⟩
  · rw [i_le] at c_2
    have f_60 := I_Mo_elements I_sMo
    have k_61 : (7 : Int32).toInt = 7 := by decide
    have f_62 := I_Mo_open I_sMo
    have f_63 := I_Mo_fields I_sMo
    have f_64 := I_Mo_pointed I_sMo
    have f_65 := I_Mo_pointer I_sMo
    have f_66 := I_Mo_subset I_sMo
    have f_67 := I_Mo_many I_sMo
    have f_68 := I_Mo_at I_sMo
    refine So.bd (t_Mod_wrongAt I_sMo (by show 0 < (7 : Int32).toInt; omega)) fun q1 h_69 => ?_
    obtain ⟨p_70, p_71, p_72, p_73, p_74, p_75, p_76, p_77, p_78, p_79, p_80, p_81, p_82, p_83⟩ := h_69
    unfold Mod_walkBits_j18
    have k_85 : (0 : Int32).toInt = 0 := by decide
    refine So.lt2 fun sMo_3 e_84 => ?_
    have I_86 : I_Mo sMo_3 := by rw [e_84]; exact (I_Mo_set_pointed p_70 (by show 0 ≤ (0 : Int32).toInt ∧ (0 : Int32).toInt ≤ 100; omega))
    have K_87 : KM sMo_3 sMo := by rw [e_84]; exact (KM.trans p_83 (KM.refl _))
    have f_88 : (Mo_fault sMo_3).toInt = (Mo_fault q1).toInt := by subst e_84; rfl
    have f_89 : (Mo_open sMo_3).toInt = (Mo_open q1).toInt := by subst e_84; rfl
    have f_90 : (Mo_looked sMo_3).toInt = (Mo_looked q1).toInt := by subst e_84; rfl
    have f_91 : (Mo_fields sMo_3).toInt = (Mo_fields q1).toInt := by subst e_84; rfl
    have f_92 : (Mo_elements sMo_3).toInt = (Mo_elements q1).toInt := by subst e_84; rfl
    have f_93 : (Mo_pointed sMo_3).toInt = (0 : Int32).toInt := by subst e_84; rfl
    have f_94 : (Mo_pointer sMo_3).toInt = (Mo_pointer q1).toInt := by subst e_84; rfl
    have f_95 : (Mo_mode sMo_3).toInt = (Mo_mode q1).toInt := by subst e_84; rfl
    have f_96 : (Mo_subset sMo_3).toInt = (Mo_subset q1).toInt := by subst e_84; rfl
    have f_97 : (Mo_subsets sMo_3).toInt = (Mo_subsets q1).toInt := by subst e_84; rfl
    have f_98 : (Mo_many sMo_3).toInt = (Mo_many q1).toInt := by subst e_84; rfl
    have f_99 : (Mo_at sMo_3).toInt = (Mo_at q1).toInt := by subst e_84; rfl
    refine So.lt2 fun sMo_4 e_100 => ?_
    have I_101 : I_Mo sMo_4 := by rw [e_100]; exact (I_Mo_set_pointer I_86 (by show 0 ≤ (0 : Int32).toInt ∧ (0 : Int32).toInt ≤ 100; omega))
    have K_102 : KM sMo_4 sMo := by rw [e_100]; exact K_87
    have f_103 : (Mo_fault sMo_4).toInt = (Mo_fault sMo_3).toInt := by subst e_100; rfl
    have f_104 : (Mo_open sMo_4).toInt = (Mo_open sMo_3).toInt := by subst e_100; rfl
    have f_105 : (Mo_looked sMo_4).toInt = (Mo_looked sMo_3).toInt := by subst e_100; rfl
    have f_106 : (Mo_fields sMo_4).toInt = (Mo_fields sMo_3).toInt := by subst e_100; rfl
    have f_107 : (Mo_elements sMo_4).toInt = (Mo_elements sMo_3).toInt := by subst e_100; rfl
    have f_108 : (Mo_pointed sMo_4).toInt = (Mo_pointed sMo_3).toInt := by subst e_100; rfl
    have f_109 : (Mo_pointer sMo_4).toInt = (0 : Int32).toInt := by subst e_100; rfl
    have f_110 : (Mo_mode sMo_4).toInt = (Mo_mode sMo_3).toInt := by subst e_100; rfl
    have f_111 : (Mo_subset sMo_4).toInt = (Mo_subset sMo_3).toInt := by subst e_100; rfl
    have f_112 : (Mo_subsets sMo_4).toInt = (Mo_subsets sMo_3).toInt := by subst e_100; rfl
    have f_113 : (Mo_many sMo_4).toInt = (Mo_many sMo_3).toInt := by subst e_100; rfl
    have f_114 : (Mo_at sMo_4).toInt = (Mo_at sMo_3).toInt := by subst e_100; rfl
    have f_115 := I_Mo_pointed I_101
    have f_116 := I_Mo_elements I_101
    have f_117 := I_Mo_pointer I_101
    have f_118 := I_Mo_fields I_101
    have f_119 := I_Mo_at I_101
    have f_120 := I_Mo_many I_101
    have f_121 := I_Mo_open I_101
    have f_122 := I_Mo_subset I_101
    refine So.imp (t_Mod_walkBits_L30 (sMo) hf I_sMelementAt (by show 0 ≤ a0.toInt; omega) (by show a0.toInt ≤ 16; omega) fu _ _ _ _ _ _ _ _ _ _ _ I_101 I_sMwidth I_sMpointAt (by show 0 ≤ (0 : Int32).toInt; omega) (by show (0 : Int32).toInt ≤ 16; omega) (by show (Mo_pointed sMo_4).toInt ≤ (0 : Int32).toInt; omega) (by show (Mo_fault sMo_4).toInt ≠ 0 ∨ a0.toInt ≤ (Mo_elements sMo_4).toInt; omega) (by show (Mo_pointer sMo_4).toInt = 0; omega) (by show (Mo_elements sMo_4).toInt ≤ (Mo_fields sMo_4).toInt; omega) (by show 0 ≤ (Mo_at sMo_4).toInt; omega) (by show (Mo_mode sMo_4).toInt < 2 ∨ ((Mo_at sMo_4).toInt ≤ (Mo_many sMo_4).toInt ∧ (Mo_many sMo_4).toInt ≤ 40000); omega) (by show (Mo_mode sMo_4).toInt ≠ 3 ∨ (Mo_subsets sMo_4).toInt ≤ 8; omega) (by show 0 ≤ (Mo_fault sMo_4).toInt; omega) (by show (Mo_open sMo_4).toInt = (Mo_open sMo).toInt; omega) (by show (Mo_looked sMo_4).toInt = (Mo_looked sMo).toInt; omega) (by show (Mo_elements sMo_4).toInt = (Mo_elements sMo).toInt; omega) (by show (Mo_mode sMo_4).toInt = (Mo_mode sMo).toInt; omega) (by show (Mo_subset sMo_4).toInt = (Mo_subset sMo).toInt; omega) (by show (Mo_subsets sMo_4).toInt = (Mo_subsets sMo).toInt; omega) (by show (Mo_many sMo_4).toInt = (Mo_many sMo).toInt; omega) K_102 (by show 16 - (0 : Int32).toInt < (fu : Nat); omega)) fun q_z h_z => ?_
    obtain ⟨p_123, p_124, p_125, p_126, p_127, p_128, p_129, p_130, p_131, p_132, p_133, p_134, p_135, p_136, p_137, p_138, p_139⟩ := h_z
    exact ⟨p_123, p_124, p_125, (by show 0 ≤ (Mo_at q_z.1).toInt; omega), (by show (Mo_mode q_z.1).toInt < 2 ∨ ((Mo_at q_z.1).toInt ≤ (Mo_many q_z.1).toInt ∧ (Mo_many q_z.1).toInt ≤ 40000); omega), (by show (Mo_mode q_z.1).toInt ≠ 3 ∨ (Mo_subsets q_z.1).toInt ≤ 8; omega), (by show 0 ≤ (Mo_fault q_z.1).toInt; omega), (by show (Mo_elements q_z.1).toInt ≤ (Mo_fields q_z.1).toInt; omega), (by show (Mo_pointer q_z.1).toInt ≤ (Mo_pointed q_z.1).toInt; omega), (by show (Mo_open q_z.1).toInt = (Mo_open sMo).toInt; omega), (by show (Mo_looked q_z.1).toInt = (Mo_looked sMo).toInt; omega), (by show (Mo_elements q_z.1).toInt = (Mo_elements sMo).toInt; omega), (by show (Mo_mode q_z.1).toInt = (Mo_mode sMo).toInt; omega), (by show (Mo_subset q_z.1).toInt = (Mo_subset sMo).toInt; omega), (by show (Mo_subsets q_z.1).toInt = (Mo_subsets sMo).toInt; omega), (by show (Mo_many q_z.1).toInt = (Mo_many sMo).toInt; omega), (KM.trans p_139 (KM.refl _))⟩
set_option maxHeartbeats 4000000 in
theorem t_Mod_walkMark {fu : Nat} {sMvalues : (Nat → Int64)} {sMturn : (Nat → Int32)} {sMpointAt : (Nat → Int32)} {sMbits : (Nat → Int32)} {sMo : S_Mo} {sMread : (Nat → Int64)} {sMkind : (Nat → Int32)} {sMcode : (Nat → Int32)} {sMwidth : (Nat → Int32)} {sMscale : (Nat → Int32)} {sMlink : (Nat → Int32)} {sMrepeat : (Nat → Int32)} {sMbase : (Nat → Int64)} (hf : 12000 ≤ fu) (I_sMpointAt : A_MpointAt sMpointAt) (I_sMo : I_Mo sMo) (I_sMwidth : A_Mwidth sMwidth) (g_0 : 0 ≤ (Mo_at sMo).toInt) (g_1 : (Mo_mode sMo).toInt < 2 ∨ ((Mo_at sMo).toInt ≤ (Mo_many sMo).toInt ∧ (Mo_many sMo).toInt ≤ 40000)) (g_2 : (Mo_mode sMo).toInt ≠ 3 ∨ (Mo_subsets sMo).toInt ≤ 8) (g_3 : 0 ≤ (Mo_fault sMo).toInt) (g_4 : (Mo_elements sMo).toInt ≤ (Mo_fields sMo).toInt) (g_5 : (Mo_pointer sMo).toInt ≤ (Mo_pointed sMo).toInt) : So (Mod_walkMark fu sMvalues sMturn sMpointAt sMbits sMo sMread sMkind sMcode sMwidth sMscale sMlink sMrepeat sMbase) (fun r => I_Mo r.1 ∧ A_Mwidth r.2.2.2.2.1 ∧ (0 ≤ (Mo_at r.1).toInt) ∧ ((Mo_mode r.1).toInt < 2 ∨ ((Mo_at r.1).toInt ≤ (Mo_many r.1).toInt ∧ (Mo_many r.1).toInt ≤ 40000)) ∧ ((Mo_mode r.1).toInt ≠ 3 ∨ (Mo_subsets r.1).toInt ≤ 8) ∧ (0 ≤ (Mo_fault r.1).toInt) ∧ ((Mo_elements r.1).toInt ≤ (Mo_fields r.1).toInt) ∧ ((Mo_pointer r.1).toInt ≤ (Mo_pointed r.1).toInt) ∧ ((Mo_open r.1).toInt = (Mo_open sMo).toInt) ∧ ((Mo_looked r.1).toInt = (Mo_looked sMo).toInt) ∧ ((Mo_elements r.1).toInt = (Mo_elements sMo).toInt) ∧ ((Mo_pointed r.1).toInt = (Mo_pointed sMo).toInt) ∧ ((Mo_mode r.1).toInt = (Mo_mode sMo).toInt) ∧ ((Mo_subset r.1).toInt = (Mo_subset sMo).toInt) ∧ ((Mo_subsets r.1).toInt = (Mo_subsets sMo).toInt) ∧ ((Mo_many r.1).toInt = (Mo_many sMo).toInt) ∧ KM r.1 sMo) := by
  unfold Mod_walkMark
  have f_1 := I_Mo_pointer I_sMo
  have f_2 := I_Mo_pointed I_sMo
  refine So.ite (fun c_3 => ?_) (fun c_3 => ?_)
  · rw [i_eq] at c_3
    have f_4 := I_Mo_pointer I_sMo
    have f_5 := I_Mo_pointed I_sMo
    have k_6 : (7 : Int32).toInt = 7 := by decide
    have f_7 := I_Mo_open I_sMo
    have f_8 := I_Mo_fields I_sMo
    have f_9 := I_Mo_elements I_sMo
    have f_10 := I_Mo_subset I_sMo
    have f_11 := I_Mo_many I_sMo
    have f_12 := I_Mo_at I_sMo
    refine So.bd (t_Mod_wrongAt I_sMo (by show 0 < (7 : Int32).toInt; omega)) fun q8 h_13 => ?_
    obtain ⟨p_14, p_15, p_16, p_17, p_18, p_19, p_20, p_21, p_22, p_23, p_24, p_25, p_26, p_27⟩ := h_13
    exact So.one ⟨p_14, I_sMwidth, (by show 0 ≤ (Mo_at q8).toInt; omega), (by show (Mo_mode q8).toInt < 2 ∨ ((Mo_at q8).toInt ≤ (Mo_many q8).toInt ∧ (Mo_many q8).toInt ≤ 40000); omega), (by show (Mo_mode q8).toInt ≠ 3 ∨ (Mo_subsets q8).toInt ≤ 8; omega), (by show 0 ≤ (Mo_fault q8).toInt; omega), (by show (Mo_elements q8).toInt ≤ (Mo_fields q8).toInt; omega), (by show (Mo_pointer q8).toInt ≤ (Mo_pointed q8).toInt; omega), (by show (Mo_open q8).toInt = (Mo_open sMo).toInt; omega), (by show (Mo_looked q8).toInt = (Mo_looked sMo).toInt; omega), (by show (Mo_elements q8).toInt = (Mo_elements sMo).toInt; omega), (by show (Mo_pointed q8).toInt = (Mo_pointed sMo).toInt; omega), (by show (Mo_mode q8).toInt = (Mo_mode sMo).toInt; omega), (by show (Mo_subset q8).toInt = (Mo_subset sMo).toInt; omega), (by show (Mo_subsets q8).toInt = (Mo_subsets sMo).toInt; omega), (by show (Mo_many q8).toInt = (Mo_many sMo).toInt; omega), (KM.trans p_27 (KM.refl _))⟩
  · rw [i_eq] at c_3
    have f_28 := I_Mo_pointer I_sMo
    have f_29 := I_Mo_pointed I_sMo
    refine So.gd (i_in.mpr (by omega)) ?_
    have k_31 : (1 : Int32).toInt = 1 := by decide
    first | have f_32 := i_add (a := (Mo_pointer sMo)) (b := 1) (by omega) (by omega) | have f_32 := i_addm (Mo_pointer sMo) 1
    refine So.lt2 fun sMo_2 e_30 => ?_
    have I_33 : I_Mo sMo_2 := by rw [e_30]; exact (I_Mo_set_pointer I_sMo (by show 0 ≤ (((Mo_pointer sMo) + 1) : Int32).toInt ∧ (((Mo_pointer sMo) + 1) : Int32).toInt ≤ 100; omega))
    have K_34 : KM sMo_2 sMo := by rw [e_30]; exact (KM.refl _)
    have f_35 : (Mo_fault sMo_2).toInt = (Mo_fault sMo).toInt := by subst e_30; rfl
    have f_36 : (Mo_open sMo_2).toInt = (Mo_open sMo).toInt := by subst e_30; rfl
    have f_37 : (Mo_looked sMo_2).toInt = (Mo_looked sMo).toInt := by subst e_30; rfl
    have f_38 : (Mo_fields sMo_2).toInt = (Mo_fields sMo).toInt := by subst e_30; rfl
    have f_39 : (Mo_elements sMo_2).toInt = (Mo_elements sMo).toInt := by subst e_30; rfl
    have f_40 : (Mo_pointed sMo_2).toInt = (Mo_pointed sMo).toInt := by subst e_30; rfl
    have f_41 : (Mo_pointer sMo_2).toInt = (((Mo_pointer sMo) + 1) : Int32).toInt := by subst e_30; rfl
    have f_42 : (Mo_mode sMo_2).toInt = (Mo_mode sMo).toInt := by subst e_30; rfl
    have f_43 : (Mo_subset sMo_2).toInt = (Mo_subset sMo).toInt := by subst e_30; rfl
    have f_44 : (Mo_subsets sMo_2).toInt = (Mo_subsets sMo).toInt := by subst e_30; rfl
    have f_45 : (Mo_many sMo_2).toInt = (Mo_many sMo).toInt := by subst e_30; rfl
    have f_46 : (Mo_at sMo_2).toInt = (Mo_at sMo).toInt := by subst e_30; rfl
    have f_47 := A_MpointAt_at I_sMpointAt ((Mo_pointer sMo).toNatClampNeg)
    refine So.gd (i_in.mpr (by omega)) ?_
    refine So.gd (i_in.mpr (by omega)) ?_
    refine So.gd (i_in.mpr (by omega)) ?_
    refine So.gd (i_in.mpr (by omega)) ?_
    have f_48 := I_Mo_at I_33
    have f_49 := I_Mo_many I_33
    have f_50 := A_Mwidth_at I_sMwidth ((sMpointAt ((Mo_pointer sMo).toNatClampNeg)).toNatClampNeg)
    have f_51 := I_Mo_open I_33
    have f_52 := I_Mo_elements I_33
    have f_53 := I_Mo_pointed I_33
    have f_54 := I_Mo_pointer I_33
    have f_55 := I_Mo_subset I_33
    have f_56 := I_Mo_fields I_33
    refine So.bd (t_Mod_come hf I_33 I_sMwidth (by show 0 ≤ (Mo_at sMo_2).toInt; omega) (by show (Mo_mode sMo_2).toInt < 2 ∨ ((Mo_at sMo_2).toInt ≤ (Mo_many sMo_2).toInt ∧ (Mo_many sMo_2).toInt ≤ 40000); omega) (by show (Mo_mode sMo_2).toInt ≠ 3 ∨ (Mo_subsets sMo_2).toInt ≤ 8; omega) (by show 0 ≤ (Mo_fault sMo_2).toInt; omega) (by show 0 ≤ (sMwidth ((sMpointAt ((Mo_pointer sMo).toNatClampNeg)).toNatClampNeg)).toInt; omega) (by show (sMwidth ((sMpointAt ((Mo_pointer sMo).toNatClampNeg)).toNatClampNeg)).toInt ≤ 32; omega)) fun q7 h_57 => ?_
    obtain ⟨p_58, p_59, p_60, p_61, p_62, p_63, p_64, p_65, p_66, p_67, p_68, p_69, p_70, p_71, p_72, p_73, p_74, p_75⟩ := h_57
    exact So.one ⟨p_58, p_59, (by show 0 ≤ (Mo_at q7.2.1).toInt; omega), (by show (Mo_mode q7.2.1).toInt < 2 ∨ ((Mo_at q7.2.1).toInt ≤ (Mo_many q7.2.1).toInt ∧ (Mo_many q7.2.1).toInt ≤ 40000); omega), (by show (Mo_mode q7.2.1).toInt ≠ 3 ∨ (Mo_subsets q7.2.1).toInt ≤ 8; omega), (by show 0 ≤ (Mo_fault q7.2.1).toInt; omega), (by show (Mo_elements q7.2.1).toInt ≤ (Mo_fields q7.2.1).toInt; omega), (by show (Mo_pointer q7.2.1).toInt ≤ (Mo_pointed q7.2.1).toInt; omega), (by show (Mo_open q7.2.1).toInt = (Mo_open sMo).toInt; omega), (by show (Mo_looked q7.2.1).toInt = (Mo_looked sMo).toInt; omega), (by show (Mo_elements q7.2.1).toInt = (Mo_elements sMo).toInt; omega), (by show (Mo_pointed q7.2.1).toInt = (Mo_pointed sMo).toInt; omega), (by show (Mo_mode q7.2.1).toInt = (Mo_mode sMo).toInt; omega), (by show (Mo_subset q7.2.1).toInt = (Mo_subset sMo).toInt; omega), (by show (Mo_subsets q7.2.1).toInt = (Mo_subsets sMo).toInt; omega), (by show (Mo_many q7.2.1).toInt = (Mo_many sMo).toInt; omega), (KM.trans p_73 K_34)⟩

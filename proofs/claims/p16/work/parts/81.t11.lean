def A_Mwidth (f : Nat → Int32) : Prop := ∀ j : Nat, 0 ≤ (f j).toInt ∧ (f j).toInt ≤ 32
theorem A_Mwidth_at {f : Nat → Int32} (h : A_Mwidth f) (j : Nat) : 0 ≤ (f j).toInt ∧ (f j).toInt ≤ 32 := h j
theorem A_Mwidth_upd {f : Nat → Int32} {k : Nat} {x : Int32} (h : A_Mwidth f) (h0 : 0 ≤ x.toInt ∧ x.toInt ≤ 32) : A_Mwidth (upd f k x) := i_arp (P := fun j x => 0 ≤ x.toInt ∧ x.toInt ≤ 32) h h0
theorem t_Mod_wrong {a0 : Int32} {a1 : Int32} {sMo : S_Mo} (I_sMo : I_Mo sMo) (g_0 : 0 < a0.toInt) : So (Mod_wrong a0 a1 sMo) (fun r => I_Mo r ∧ (0 < (Mo_fault r).toInt) ∧ ((Mo_open r).toInt = (Mo_open sMo).toInt) ∧ ((Mo_looked r).toInt = (Mo_looked sMo).toInt) ∧ ((Mo_fields r).toInt = (Mo_fields sMo).toInt) ∧ ((Mo_elements r).toInt = (Mo_elements sMo).toInt) ∧ ((Mo_pointed r).toInt = (Mo_pointed sMo).toInt) ∧ ((Mo_pointer r).toInt = (Mo_pointer sMo).toInt) ∧ ((Mo_mode r).toInt = (Mo_mode sMo).toInt) ∧ ((Mo_subset r).toInt = (Mo_subset sMo).toInt) ∧ ((Mo_subsets r).toInt = (Mo_subsets sMo).toInt) ∧ ((Mo_many r).toInt = (Mo_many sMo).toInt) ∧ ((Mo_at r).toInt = (Mo_at sMo).toInt) ∧ KM r sMo) := by
  unfold Mod_wrong
  refine So.ite (fun c_1 => ?_) (fun c_1 => ?_)
  · rw [i_le] at c_1
    have k_2 : (0 : Int32).toInt = 0 := by decide
    refine So.lt2 fun sMo_1 e_3 => ?_
    have I_4 : I_Mo sMo_1 := by rw [e_3]; exact (I_Mo_set_fault I_sMo)
    have K_5 : KM sMo_1 sMo := by rw [e_3]; exact (KM.refl _)
    have f_6 : (Mo_fault sMo_1).toInt = (a0 : Int32).toInt := by subst e_3; rfl
    have f_7 : (Mo_open sMo_1).toInt = (Mo_open sMo).toInt := by subst e_3; rfl
    have f_8 : (Mo_looked sMo_1).toInt = (Mo_looked sMo).toInt := by subst e_3; rfl
    have f_9 : (Mo_fields sMo_1).toInt = (Mo_fields sMo).toInt := by subst e_3; rfl
    have f_10 : (Mo_elements sMo_1).toInt = (Mo_elements sMo).toInt := by subst e_3; rfl
    have f_11 : (Mo_pointed sMo_1).toInt = (Mo_pointed sMo).toInt := by subst e_3; rfl
    have f_12 : (Mo_pointer sMo_1).toInt = (Mo_pointer sMo).toInt := by subst e_3; rfl
    have f_13 : (Mo_mode sMo_1).toInt = (Mo_mode sMo).toInt := by subst e_3; rfl
    have f_14 : (Mo_subset sMo_1).toInt = (Mo_subset sMo).toInt := by subst e_3; rfl
    have f_15 : (Mo_subsets sMo_1).toInt = (Mo_subsets sMo).toInt := by subst e_3; rfl
    have f_16 : (Mo_many sMo_1).toInt = (Mo_many sMo).toInt := by subst e_3; rfl
    have f_17 : (Mo_at sMo_1).toInt = (Mo_at sMo).toInt := by subst e_3; rfl
    refine So.lt2 fun sMo_2 e_18 => ?_
    have I_19 : I_Mo sMo_2 := by rw [e_18]; exact (I_Mo_set_place I_4)
    have K_20 : KM sMo_2 sMo := by rw [e_18]; exact K_5
    have f_21 : (Mo_fault sMo_2).toInt = (Mo_fault sMo_1).toInt := by subst e_18; rfl
    have f_22 : (Mo_open sMo_2).toInt = (Mo_open sMo_1).toInt := by subst e_18; rfl
    have f_23 : (Mo_looked sMo_2).toInt = (Mo_looked sMo_1).toInt := by subst e_18; rfl
    have f_24 : (Mo_fields sMo_2).toInt = (Mo_fields sMo_1).toInt := by subst e_18; rfl
    have f_25 : (Mo_elements sMo_2).toInt = (Mo_elements sMo_1).toInt := by subst e_18; rfl
    have f_26 : (Mo_pointed sMo_2).toInt = (Mo_pointed sMo_1).toInt := by subst e_18; rfl
    have f_27 : (Mo_pointer sMo_2).toInt = (Mo_pointer sMo_1).toInt := by subst e_18; rfl
    have f_28 : (Mo_mode sMo_2).toInt = (Mo_mode sMo_1).toInt := by subst e_18; rfl
    have f_29 : (Mo_subset sMo_2).toInt = (Mo_subset sMo_1).toInt := by subst e_18; rfl
    have f_30 : (Mo_subsets sMo_2).toInt = (Mo_subsets sMo_1).toInt := by subst e_18; rfl
    have f_31 : (Mo_many sMo_2).toInt = (Mo_many sMo_1).toInt := by subst e_18; rfl
    have f_32 : (Mo_at sMo_2).toInt = (Mo_at sMo_1).toInt := by subst e_18; rfl
    exact So.one ⟨I_19, (by show 0 < (Mo_fault sMo_2).toInt; omega), (by show (Mo_open sMo_2).toInt = (Mo_open sMo).toInt; omega), (by show (Mo_looked sMo_2).toInt = (Mo_looked sMo).toInt; omega), (by show (Mo_fields sMo_2).toInt = (Mo_fields sMo).toInt; omega), (by show (Mo_elements sMo_2).toInt = (Mo_elements sMo).toInt; omega), (by show (Mo_pointed sMo_2).toInt = (Mo_pointed sMo).toInt; omega), (by show (Mo_pointer sMo_2).toInt = (Mo_pointer sMo).toInt; omega), (by show (Mo_mode sMo_2).toInt = (Mo_mode sMo).toInt; omega), (by show (Mo_subset sMo_2).toInt = (Mo_subset sMo).toInt; omega), (by show (Mo_subsets sMo_2).toInt = (Mo_subsets sMo).toInt; omega), (by show (Mo_many sMo_2).toInt = (Mo_many sMo).toInt; omega), (by show (Mo_at sMo_2).toInt = (Mo_at sMo).toInt; omega), K_20⟩
  · rw [i_le] at c_1
    have k_33 : (0 : Int32).toInt = 0 := by decide
    exact So.one ⟨I_sMo, (by show 0 < (Mo_fault sMo).toInt; omega), (by show (Mo_open sMo).toInt = (Mo_open sMo).toInt; omega), (by show (Mo_looked sMo).toInt = (Mo_looked sMo).toInt; omega), (by show (Mo_fields sMo).toInt = (Mo_fields sMo).toInt; omega), (by show (Mo_elements sMo).toInt = (Mo_elements sMo).toInt; omega), (by show (Mo_pointed sMo).toInt = (Mo_pointed sMo).toInt; omega), (by show (Mo_pointer sMo).toInt = (Mo_pointer sMo).toInt; omega), (by show (Mo_mode sMo).toInt = (Mo_mode sMo).toInt; omega), (by show (Mo_subset sMo).toInt = (Mo_subset sMo).toInt; omega), (by show (Mo_subsets sMo).toInt = (Mo_subsets sMo).toInt; omega), (by show (Mo_many sMo).toInt = (Mo_many sMo).toInt; omega), (by show (Mo_at sMo).toInt = (Mo_at sMo).toInt; omega), (KM.refl _)⟩
theorem t_Mod_wrongAt {a0 : Int32} {a1 : Int32} {sMo : S_Mo} (I_sMo : I_Mo sMo) (g_0 : 0 < a0.toInt) : So (Mod_wrongAt a0 a1 sMo) (fun r => I_Mo r ∧ (0 < (Mo_fault r).toInt) ∧ ((Mo_open r).toInt = (Mo_open sMo).toInt) ∧ ((Mo_looked r).toInt = (Mo_looked sMo).toInt) ∧ ((Mo_fields r).toInt = (Mo_fields sMo).toInt) ∧ ((Mo_elements r).toInt = (Mo_elements sMo).toInt) ∧ ((Mo_pointed r).toInt = (Mo_pointed sMo).toInt) ∧ ((Mo_pointer r).toInt = (Mo_pointer sMo).toInt) ∧ ((Mo_mode r).toInt = (Mo_mode sMo).toInt) ∧ ((Mo_subset r).toInt = (Mo_subset sMo).toInt) ∧ ((Mo_subsets r).toInt = (Mo_subsets sMo).toInt) ∧ ((Mo_many r).toInt = (Mo_many sMo).toInt) ∧ ((Mo_at r).toInt = (Mo_at sMo).toInt) ∧ KM r sMo) := by
  unfold Mod_wrongAt
  refine So.ite (fun c_1 => ?_) (fun c_1 => ?_)
  · rw [i_eq] at c_1
    have k_2 : (3 : Int32).toInt = 3 := by decide
    have f_3 := I_Mo_open I_sMo
    have f_4 := I_Mo_fields I_sMo
    have f_5 := I_Mo_elements I_sMo
    have f_6 := I_Mo_pointed I_sMo
    have f_7 := I_Mo_pointer I_sMo
    have f_8 := I_Mo_subset I_sMo
    have f_9 := I_Mo_many I_sMo
    have f_10 := I_Mo_at I_sMo
    refine So.bd (t_Mod_wrong I_sMo (by show 0 < a0.toInt; omega)) fun q2 h_11 => ?_
    obtain ⟨p_12, p_13, p_14, p_15, p_16, p_17, p_18, p_19, p_20, p_21, p_22, p_23, p_24, p_25⟩ := h_11
    exact So.one ⟨p_12, (by show 0 < (Mo_fault q2).toInt; omega), (by show (Mo_open q2).toInt = (Mo_open sMo).toInt; omega), (by show (Mo_looked q2).toInt = (Mo_looked sMo).toInt; omega), (by show (Mo_fields q2).toInt = (Mo_fields sMo).toInt; omega), (by show (Mo_elements q2).toInt = (Mo_elements sMo).toInt; omega), (by show (Mo_pointed q2).toInt = (Mo_pointed sMo).toInt; omega), (by show (Mo_pointer q2).toInt = (Mo_pointer sMo).toInt; omega), (by show (Mo_mode q2).toInt = (Mo_mode sMo).toInt; omega), (by show (Mo_subset q2).toInt = (Mo_subset sMo).toInt; omega), (by show (Mo_subsets q2).toInt = (Mo_subsets sMo).toInt; omega), (by show (Mo_many q2).toInt = (Mo_many sMo).toInt; omega), (by show (Mo_at q2).toInt = (Mo_at sMo).toInt; omega), (KM.trans p_25 (KM.refl _))⟩
  · rw [i_eq] at c_1
    have k_26 : (3 : Int32).toInt = 3 := by decide
    have f_27 := I_Mo_open I_sMo
    have f_28 := I_Mo_fields I_sMo
    have f_29 := I_Mo_elements I_sMo
    have f_30 := I_Mo_pointed I_sMo
    have f_31 := I_Mo_pointer I_sMo
    have f_32 := I_Mo_subset I_sMo
    have f_33 := I_Mo_many I_sMo
    have f_34 := I_Mo_at I_sMo
    refine So.bd (t_Mod_wrong I_sMo (by show 0 < a0.toInt; omega)) fun q1 h_35 => ?_
    obtain ⟨p_36, p_37, p_38, p_39, p_40, p_41, p_42, p_43, p_44, p_45, p_46, p_47, p_48, p_49⟩ := h_35
    exact So.one ⟨p_36, (by show 0 < (Mo_fault q1).toInt; omega), (by show (Mo_open q1).toInt = (Mo_open sMo).toInt; omega), (by show (Mo_looked q1).toInt = (Mo_looked sMo).toInt; omega), (by show (Mo_fields q1).toInt = (Mo_fields sMo).toInt; omega), (by show (Mo_elements q1).toInt = (Mo_elements sMo).toInt; omega), (by show (Mo_pointed q1).toInt = (Mo_pointed sMo).toInt; omega), (by show (Mo_pointer q1).toInt = (Mo_pointer sMo).toInt; omega), (by show (Mo_mode q1).toInt = (Mo_mode sMo).toInt; omega), (by show (Mo_subset q1).toInt = (Mo_subset sMo).toInt; omega), (by show (Mo_subsets q1).toInt = (Mo_subsets sMo).toInt; omega), (by show (Mo_many q1).toInt = (Mo_many sMo).toInt; omega), (by show (Mo_at q1).toInt = (Mo_at sMo).toInt; omega), (KM.trans p_49 (KM.refl _))⟩
theorem t_Mod_take_L27 {fu : Nat} {sMbits : (Nat → Int32)} {x1_L27 : Int32} (Z : S_Mo) (hf : 12000 ≤ fu) (g_0 : x1_L27.toInt ≤ 120) : ∀ (n : Nat) (x3_L27 : Int64) (x5_L27 : Int32) (sMo_L27 : S_Mo), I_Mo sMo_L27 → (0 ≤ x5_L27.toInt) → (x5_L27.toInt ≤ 120) → (0 ≤ (Mo_at sMo_L27).toInt) → (x1_L27.toInt ≤ x5_L27.toInt ∨ (Mo_at sMo_L27).toInt + x1_L27.toInt - x5_L27.toInt ≤ (Mo_many sMo_L27).toInt) → ((Mo_at sMo_L27).toInt ≤ (Mo_many sMo_L27).toInt) → ((Mo_many sMo_L27).toInt ≤ 40000) → (0 ≤ (Mo_fault sMo_L27).toInt) → ((Mo_open sMo_L27).toInt = (Mo_open Z).toInt) → ((Mo_looked sMo_L27).toInt = (Mo_looked Z).toInt) → ((Mo_fields sMo_L27).toInt = (Mo_fields Z).toInt) → ((Mo_elements sMo_L27).toInt = (Mo_elements Z).toInt) → ((Mo_pointed sMo_L27).toInt = (Mo_pointed Z).toInt) → ((Mo_pointer sMo_L27).toInt = (Mo_pointer Z).toInt) → ((Mo_mode sMo_L27).toInt = (Mo_mode Z).toInt) → ((Mo_subset sMo_L27).toInt = (Mo_subset Z).toInt) → ((Mo_subsets sMo_L27).toInt = (Mo_subsets Z).toInt) → ((Mo_many sMo_L27).toInt = (Mo_many Z).toInt) → (KM sMo_L27 Z) → (120 - x5_L27.toInt < (n : Nat)) → So (Mod_take_L27 fu sMbits x1_L27 n x3_L27 x5_L27 sMo_L27) (fun r => I_Mo r.2 ∧ (0 ≤ (Mo_at r.2).toInt) ∧ ((Mo_at r.2).toInt ≤ (Mo_many r.2).toInt) ∧ (0 ≤ (Mo_fault r.2).toInt) ∧ ((Mo_open r.2).toInt = (Mo_open Z).toInt) ∧ ((Mo_looked r.2).toInt = (Mo_looked Z).toInt) ∧ ((Mo_fields r.2).toInt = (Mo_fields Z).toInt) ∧ ((Mo_elements r.2).toInt = (Mo_elements Z).toInt) ∧ ((Mo_pointed r.2).toInt = (Mo_pointed Z).toInt) ∧ ((Mo_pointer r.2).toInt = (Mo_pointer Z).toInt) ∧ ((Mo_mode r.2).toInt = (Mo_mode Z).toInt) ∧ ((Mo_subset r.2).toInt = (Mo_subset Z).toInt) ∧ ((Mo_subsets r.2).toInt = (Mo_subsets Z).toInt) ∧ ((Mo_many r.2).toInt = (Mo_many Z).toInt) ∧ KM r.2 Z)
  | 0, x3_L27, x5_L27, sMo_L27, I_sMo_L27, l_0, l_1, l_2, l_3, l_4, l_5, l_6, l_7, l_8, l_9, l_10, l_11, l_12, l_13, l_14, l_15, l_16, l_17, l_18 => absurd l_18 (by omega)
  | n + 1, x3_L27, x5_L27, sMo_L27, I_sMo_L27, l_0, l_1, l_2, l_3, l_4, l_5, l_6, l_7, l_8, l_9, l_10, l_11, l_12, l_13, l_14, l_15, l_16, l_17, l_18 => by
    rw [Mod_take_L27]
    have f_1 := I_Mo_many I_sMo_L27
    refine So.ite (fun c_2 => ?_) (fun c_2 => ?_)
    · rw [i_le] at c_2
      exact So.one ⟨I_sMo_L27, (by show 0 ≤ (Mo_at sMo_L27).toInt; omega), (by show (Mo_at sMo_L27).toInt ≤ (Mo_many sMo_L27).toInt; omega), (by show 0 ≤ (Mo_fault sMo_L27).toInt; omega), (by show (Mo_open sMo_L27).toInt = (Mo_open Z).toInt; omega), (by show (Mo_looked sMo_L27).toInt = (Mo_looked Z).toInt; omega), (by show (Mo_fields sMo_L27).toInt = (Mo_fields Z).toInt; omega), (by show (Mo_elements sMo_L27).toInt = (Mo_elements Z).toInt; omega), (by show (Mo_pointed sMo_L27).toInt = (Mo_pointed Z).toInt; omega), (by show (Mo_pointer sMo_L27).toInt = (Mo_pointer Z).toInt; omega), (by show (Mo_mode sMo_L27).toInt = (Mo_mode Z).toInt; omega), (by show (Mo_subset sMo_L27).toInt = (Mo_subset Z).toInt; omega), (by show (Mo_subsets sMo_L27).toInt = (Mo_subsets Z).toInt; omega), (by show (Mo_many sMo_L27).toInt = (Mo_many Z).toInt; omega), l_17⟩
    · rw [i_le] at c_2
      have f_3 := I_Mo_at I_sMo_L27
      refine So.gd (i_in.mpr (by omega)) ?_
      refine So.ite (fun c_4 => ?_) (fun c_4 => ?_)
      · rw [i_eq] at c_4
        have k_5 : (0 : Int32).toInt = 0 := by decide
        unfold Mod_take_j55
        have k_7 : (1 : Int32).toInt = 1 := by decide
        first | have f_8 := i_add (a := (Mo_at sMo_L27)) (b := 1) (by omega) (by omega) | have f_8 := i_addm (Mo_at sMo_L27) 1
        refine So.lt2 fun sMo_4 e_6 => ?_
        have I_9 : I_Mo sMo_4 := by rw [e_6]; exact (I_Mo_set_at I_sMo_L27 (by show 0 ≤ (((Mo_at sMo_L27) + 1) : Int32).toInt ∧ (((Mo_at sMo_L27) + 1) : Int32).toInt ≤ 40000; omega))
        have K_10 : KM sMo_4 Z := by rw [e_6]; exact l_17
        have f_11 : (Mo_fault sMo_4).toInt = (Mo_fault sMo_L27).toInt := by subst e_6; rfl
        have f_12 : (Mo_open sMo_4).toInt = (Mo_open sMo_L27).toInt := by subst e_6; rfl
        have f_13 : (Mo_looked sMo_4).toInt = (Mo_looked sMo_L27).toInt := by subst e_6; rfl
        have f_14 : (Mo_fields sMo_4).toInt = (Mo_fields sMo_L27).toInt := by subst e_6; rfl
        have f_15 : (Mo_elements sMo_4).toInt = (Mo_elements sMo_L27).toInt := by subst e_6; rfl
        have f_16 : (Mo_pointed sMo_4).toInt = (Mo_pointed sMo_L27).toInt := by subst e_6; rfl
        have f_17 : (Mo_pointer sMo_4).toInt = (Mo_pointer sMo_L27).toInt := by subst e_6; rfl
        have f_18 : (Mo_mode sMo_4).toInt = (Mo_mode sMo_L27).toInt := by subst e_6; rfl
        have f_19 : (Mo_subset sMo_4).toInt = (Mo_subset sMo_L27).toInt := by subst e_6; rfl
        have f_20 : (Mo_subsets sMo_4).toInt = (Mo_subsets sMo_L27).toInt := by subst e_6; rfl
        have f_21 : (Mo_many sMo_4).toInt = (Mo_many sMo_L27).toInt := by subst e_6; rfl
        have f_22 : (Mo_at sMo_4).toInt = (((Mo_at sMo_L27) + 1) : Int32).toInt := by subst e_6; rfl
        first | have f_23 := i_add (a := x5_L27) (b := 1) (by omega) (by omega) | have f_23 := i_addm x5_L27 1
        have f_24 := I_Mo_at I_9
        have f_25 := I_Mo_many I_9
        have f_26 := I_Mo_open I_9
        have f_27 := I_Mo_fields I_9
        have f_28 := I_Mo_elements I_9
        have f_29 := I_Mo_pointed I_9
        have f_30 := I_Mo_pointer I_9
        have f_31 := I_Mo_subset I_9
        exact t_Mod_take_L27 (Z) hf (by show x1_L27.toInt ≤ 120; omega)   n _ _ _ I_9 (by show 0 ≤ (x5_L27 + 1).toInt; omega) (by show (x5_L27 + 1).toInt ≤ 120; omega) (by show 0 ≤ (Mo_at sMo_4).toInt; omega) (by show x1_L27.toInt ≤ (x5_L27 + 1).toInt ∨ (Mo_at sMo_4).toInt + x1_L27.toInt - (x5_L27 + 1).toInt ≤ (Mo_many sMo_4).toInt; omega) (by show (Mo_at sMo_4).toInt ≤ (Mo_many sMo_4).toInt; omega) (by show (Mo_many sMo_4).toInt ≤ 40000; omega) (by show 0 ≤ (Mo_fault sMo_4).toInt; omega) (by show (Mo_open sMo_4).toInt = (Mo_open Z).toInt; omega) (by show (Mo_looked sMo_4).toInt = (Mo_looked Z).toInt; omega) (by show (Mo_fields sMo_4).toInt = (Mo_fields Z).toInt; omega) (by show (Mo_elements sMo_4).toInt = (Mo_elements Z).toInt; omega) (by show (Mo_pointed sMo_4).toInt = (Mo_pointed Z).toInt; omega) (by show (Mo_pointer sMo_4).toInt = (Mo_pointer Z).toInt; omega) (by show (Mo_mode sMo_4).toInt = (Mo_mode Z).toInt; omega) (by show (Mo_subset sMo_4).toInt = (Mo_subset Z).toInt; omega) (by show (Mo_subsets sMo_4).toInt = (Mo_subsets Z).toInt; omega) (by show (Mo_many sMo_4).toInt = (Mo_many Z).toInt; omega) K_10 (by show 120 - (x5_L27 + 1).toInt < (n : Nat); omega)
      · rw [i_eq] at c_4
        have k_32 : (0 : Int32).toInt = 0 := by decide
        unfold Mod_take_j55
        have k_34 : (1 : Int32).toInt = 1 := by decide
        first | have f_35 := i_add (a := (Mo_at sMo_L27)) (b := 1) (by omega) (by omega) | have f_35 := i_addm (Mo_at sMo_L27) 1
        refine So.lt2 fun sMo_4 e_33 => ?_
        have I_36 : I_Mo sMo_4 := by rw [e_33]; exact (I_Mo_set_at I_sMo_L27 (by show 0 ≤ (((Mo_at sMo_L27) + 1) : Int32).toInt ∧ (((Mo_at sMo_L27) + 1) : Int32).toInt ≤ 40000; omega))
        have K_37 : KM sMo_4 Z := by rw [e_33]; exact l_17
        have f_38 : (Mo_fault sMo_4).toInt = (Mo_fault sMo_L27).toInt := by subst e_33; rfl
        have f_39 : (Mo_open sMo_4).toInt = (Mo_open sMo_L27).toInt := by subst e_33; rfl
        have f_40 : (Mo_looked sMo_4).toInt = (Mo_looked sMo_L27).toInt := by subst e_33; rfl
        have f_41 : (Mo_fields sMo_4).toInt = (Mo_fields sMo_L27).toInt := by subst e_33; rfl
        have f_42 : (Mo_elements sMo_4).toInt = (Mo_elements sMo_L27).toInt := by subst e_33; rfl
        have f_43 : (Mo_pointed sMo_4).toInt = (Mo_pointed sMo_L27).toInt := by subst e_33; rfl
        have f_44 : (Mo_pointer sMo_4).toInt = (Mo_pointer sMo_L27).toInt := by subst e_33; rfl
        have f_45 : (Mo_mode sMo_4).toInt = (Mo_mode sMo_L27).toInt := by subst e_33; rfl
        have f_46 : (Mo_subset sMo_4).toInt = (Mo_subset sMo_L27).toInt := by subst e_33; rfl
        have f_47 : (Mo_subsets sMo_4).toInt = (Mo_subsets sMo_L27).toInt := by subst e_33; rfl
        have f_48 : (Mo_many sMo_4).toInt = (Mo_many sMo_L27).toInt := by subst e_33; rfl
        have f_49 : (Mo_at sMo_4).toInt = (((Mo_at sMo_L27) + 1) : Int32).toInt := by subst e_33; rfl
        first | have f_50 := i_add (a := x5_L27) (b := 1) (by omega) (by omega) | have f_50 := i_addm x5_L27 1
        have f_51 := I_Mo_at I_36
        have f_52 := I_Mo_many I_36
        have f_53 := I_Mo_open I_36
        have f_54 := I_Mo_fields I_36
        have f_55 := I_Mo_elements I_36
        have f_56 := I_Mo_pointed I_36
        have f_57 := I_Mo_pointer I_36
        have f_58 := I_Mo_subset I_36
        exact t_Mod_take_L27 (Z) hf (by show x1_L27.toInt ≤ 120; omega)   n _ _ _ I_36 (by show 0 ≤ (x5_L27 + 1).toInt; omega) (by show (x5_L27 + 1).toInt ≤ 120; omega) (by show 0 ≤ (Mo_at sMo_4).toInt; omega) (by show x1_L27.toInt ≤ (x5_L27 + 1).toInt ∨ (Mo_at sMo_4).toInt + x1_L27.toInt - (x5_L27 + 1).toInt ≤ (Mo_many sMo_4).toInt; omega) (by show (Mo_at sMo_4).toInt ≤ (Mo_many sMo_4).toInt; omega) (by show (Mo_many sMo_4).toInt ≤ 40000; omega) (by show 0 ≤ (Mo_fault sMo_4).toInt; omega) (by show (Mo_open sMo_4).toInt = (Mo_open Z).toInt; omega) (by show (Mo_looked sMo_4).toInt = (Mo_looked Z).toInt; omega) (by show (Mo_fields sMo_4).toInt = (Mo_fields Z).toInt; omega) (by show (Mo_elements sMo_4).toInt = (Mo_elements Z).toInt; omega) (by show (Mo_pointed sMo_4).toInt = (Mo_pointed Z).toInt; omega) (by show (Mo_pointer sMo_4).toInt = (Mo_pointer Z).toInt; omega) (by show (Mo_mode sMo_4).toInt = (Mo_mode Z).toInt; omega) (by show (Mo_subset sMo_4).toInt = (Mo_subset Z).toInt; omega) (by show (Mo_subsets sMo_4).toInt = (Mo_subsets Z).toInt; omega) (by show (Mo_many sMo_4).toInt = (Mo_many Z).toInt; omega) K_37 (by show 120 - (x5_L27 + 1).toInt < (n : Nat); omega)
theorem t_Mod_take {fu : Nat} {sMbits : (Nat → Int32)} {a0 : Int32} {a1 : Int32} {sMo : S_Mo} (hf : 12000 ≤ fu) (I_sMo : I_Mo sMo) (g_0 : a0.toInt ≤ 120) (g_1 : 0 ≤ (Mo_at sMo).toInt) (g_2 : (Mo_at sMo).toInt ≤ (Mo_many sMo).toInt) (g_3 : (Mo_many sMo).toInt ≤ 40000) (g_4 : 0 ≤ (Mo_fault sMo).toInt) : So (Mod_take fu sMbits a0 a1 sMo) (fun r => I_Mo r.2 ∧ (0 ≤ (Mo_at r.2).toInt) ∧ ((Mo_at r.2).toInt ≤ (Mo_many r.2).toInt) ∧ (0 ≤ (Mo_fault r.2).toInt) ∧ ((Mo_open r.2).toInt = (Mo_open sMo).toInt) ∧ ((Mo_looked r.2).toInt = (Mo_looked sMo).toInt) ∧ ((Mo_fields r.2).toInt = (Mo_fields sMo).toInt) ∧ ((Mo_elements r.2).toInt = (Mo_elements sMo).toInt) ∧ ((Mo_pointed r.2).toInt = (Mo_pointed sMo).toInt) ∧ ((Mo_pointer r.2).toInt = (Mo_pointer sMo).toInt) ∧ ((Mo_mode r.2).toInt = (Mo_mode sMo).toInt) ∧ ((Mo_subset r.2).toInt = (Mo_subset sMo).toInt) ∧ ((Mo_subsets r.2).toInt = (Mo_subsets sMo).toInt) ∧ ((Mo_many r.2).toInt = (Mo_many sMo).toInt) ∧ KM r.2 sMo) := by
  unfold Mod_take
  have f_1 := I_Mo_many I_sMo
  refine So.ite (fun c_2 => ?_) (fun c_2 => ?_)
  · rw [i_le] at c_2
    have f_3 := I_Mo_at I_sMo
    first | have f_4 := i_add (a := (Mo_at sMo)) (b := a0) (by omega) (by omega) | have f_4 := i_addm (Mo_at sMo) a0
    have f_5 := I_Mo_many I_sMo
    have k_6 : (0 : Int32).toInt = 0 := by decide
    have f_7 := I_Mo_open I_sMo
    have f_8 := I_Mo_fields I_sMo
    have f_9 := I_Mo_elements I_sMo
    have f_10 := I_Mo_pointed I_sMo
    have f_11 := I_Mo_pointer I_sMo
    have f_12 := I_Mo_subset I_sMo
    refine So.imp (t_Mod_take_L27 (sMo) hf (by show a0.toInt ≤ 120; omega) fu _ _ _ I_sMo (by show 0 ≤ (0 : Int32).toInt; omega) (by show (0 : Int32).toInt ≤ 120; omega) (by show 0 ≤ (Mo_at sMo).toInt; omega) (by show a0.toInt ≤ (0 : Int32).toInt ∨ (Mo_at sMo).toInt + a0.toInt - (0 : Int32).toInt ≤ (Mo_many sMo).toInt; omega) (by show (Mo_at sMo).toInt ≤ (Mo_many sMo).toInt; omega) (by show (Mo_many sMo).toInt ≤ 40000; omega) (by show 0 ≤ (Mo_fault sMo).toInt; omega) (by show (Mo_open sMo).toInt = (Mo_open sMo).toInt; omega) (by show (Mo_looked sMo).toInt = (Mo_looked sMo).toInt; omega) (by show (Mo_fields sMo).toInt = (Mo_fields sMo).toInt; omega) (by show (Mo_elements sMo).toInt = (Mo_elements sMo).toInt; omega) (by show (Mo_pointed sMo).toInt = (Mo_pointed sMo).toInt; omega) (by show (Mo_pointer sMo).toInt = (Mo_pointer sMo).toInt; omega) (by show (Mo_mode sMo).toInt = (Mo_mode sMo).toInt; omega) (by show (Mo_subset sMo).toInt = (Mo_subset sMo).toInt; omega) (by show (Mo_subsets sMo).toInt = (Mo_subsets sMo).toInt; omega) (by show (Mo_many sMo).toInt = (Mo_many sMo).toInt; omega) (KM.refl _) (by show 120 - (0 : Int32).toInt < (fu : Nat); omega)) fun q_z h_z => ?_
    obtain ⟨p_13, p_14, p_15, p_16, p_17, p_18, p_19, p_20, p_21, p_22, p_23, p_24, p_25, p_26, p_27⟩ := h_z
    exact ⟨p_13, (by show 0 ≤ (Mo_at q_z.2).toInt; omega), (by show (Mo_at q_z.2).toInt ≤ (Mo_many q_z.2).toInt; omega), (by show 0 ≤ (Mo_fault q_z.2).toInt; omega), (by show (Mo_open q_z.2).toInt = (Mo_open sMo).toInt; omega), (by show (Mo_looked q_z.2).toInt = (Mo_looked sMo).toInt; omega), (by show (Mo_fields q_z.2).toInt = (Mo_fields sMo).toInt; omega), (by show (Mo_elements q_z.2).toInt = (Mo_elements sMo).toInt; omega), (by show (Mo_pointed q_z.2).toInt = (Mo_pointed sMo).toInt; omega), (by show (Mo_pointer q_z.2).toInt = (Mo_pointer sMo).toInt; omega), (by show (Mo_mode q_z.2).toInt = (Mo_mode sMo).toInt; omega), (by show (Mo_subset q_z.2).toInt = (Mo_subset sMo).toInt; omega), (by show (Mo_subsets q_z.2).toInt = (Mo_subsets sMo).toInt; omega), (by show (Mo_many q_z.2).toInt = (Mo_many sMo).toInt; omega), (KM.trans p_27 (KM.refl _))⟩
  · rw [i_le] at c_2
    have f_28 := I_Mo_at I_sMo
    first | have f_29 := i_add (a := (Mo_at sMo)) (b := a0) (by omega) (by omega) | have f_29 := i_addm (Mo_at sMo) a0
    have f_30 := I_Mo_many I_sMo
    have k_31 : (12 : Int32).toInt = 12 := by decide
    have f_32 := I_Mo_open I_sMo
    have f_33 := I_Mo_fields I_sMo
    have f_34 := I_Mo_elements I_sMo
    have f_35 := I_Mo_pointed I_sMo
    have f_36 := I_Mo_pointer I_sMo
    have f_37 := I_Mo_subset I_sMo
    refine So.bd (t_Mod_wrongAt I_sMo (by show 0 < (12 : Int32).toInt; omega)) fun q5 h_38 => ?_
    obtain ⟨p_39, p_40, p_41, p_42, p_43, p_44, p_45, p_46, p_47, p_48, p_49, p_50, p_51, p_52⟩ := h_38
    exact So.one ⟨p_39, (by show 0 ≤ (Mo_at q5).toInt; omega), (by show (Mo_at q5).toInt ≤ (Mo_many q5).toInt; omega), (by show 0 ≤ (Mo_fault q5).toInt; omega), (by show (Mo_open q5).toInt = (Mo_open sMo).toInt; omega), (by show (Mo_looked q5).toInt = (Mo_looked sMo).toInt; omega), (by show (Mo_fields q5).toInt = (Mo_fields sMo).toInt; omega), (by show (Mo_elements q5).toInt = (Mo_elements sMo).toInt; omega), (by show (Mo_pointed q5).toInt = (Mo_pointed sMo).toInt; omega), (by show (Mo_pointer q5).toInt = (Mo_pointer sMo).toInt; omega), (by show (Mo_mode q5).toInt = (Mo_mode sMo).toInt; omega), (by show (Mo_subset q5).toInt = (Mo_subset sMo).toInt; omega), (by show (Mo_subsets q5).toInt = (Mo_subsets sMo).toInt; omega), (by show (Mo_many q5).toInt = (Mo_many sMo).toInt; omega), (KM.trans p_52 (KM.refl _))⟩
theorem t_Mod_meant {sMo : S_Mo} {sMkind : (Nat → Int32)} {sMwidth : (Nat → Int32)} {sMbase : (Nat → Int64)} {a0 : Int32} {a1 : Int64} (I_sMo : I_Mo sMo) (I_sMwidth : A_Mwidth sMwidth) (g_0 : 0 ≤ a0.toInt) (g_1 : a0.toInt < 101) : So (Mod_meant sMo sMkind sMwidth sMbase a0 a1) (fun r => True) := by
  unfold Mod_meant
  refine So.gd (i_in.mpr (by omega)) ?_
  refine So.ite (fun c_1 => ?_) (fun c_1 => ?_)
  · rw [i_eq] at c_1
    have k_2 : (3 : Int32).toInt = 3 := by decide
    exact So.one trivial
  · rw [i_eq] at c_1
    have k_3 : (3 : Int32).toInt = 3 := by decide
    refine So.gd (i_in.mpr (by omega)) ?_
    refine So.bd (t_Mod_most ) fun q3 h_4 => ?_
    refine So.ite (fun c_5 => ?_) (fun c_5 => ?_)
    · exact So.one trivial
    · refine So.gd (i_in.mpr (by omega)) ?_
      exact So.one trivial
theorem t_Mod_raw {sMo : S_Mo} {sMkind : (Nat → Int32)} {sMwidth : (Nat → Int32)} {sMbase : (Nat → Int64)} {a0 : Int32} {a1 : Int64} (I_sMo : I_Mo sMo) (I_sMwidth : A_Mwidth sMwidth) (g_0 : 0 ≤ a0.toInt) (g_1 : a0.toInt < 101) : So (Mod_raw sMo sMkind sMwidth sMbase a0 a1) (fun r => True) := by
  unfold Mod_raw
  refine So.gd (i_in.mpr (by omega)) ?_
  refine So.ite (fun c_1 => ?_) (fun c_1 => ?_)
  · rw [i_eq] at c_1
    have k_2 : (3 : Int32).toInt = 3 := by decide
    exact So.one trivial
  · rw [i_eq] at c_1
    have k_3 : (3 : Int32).toInt = 3 := by decide
    refine So.ite (fun c_4 => ?_) (fun c_4 => ?_)
    · refine So.gd (i_in.mpr (by omega)) ?_
      refine So.bd (t_Mod_most ) fun q4 h_5 => ?_
      exact So.one trivial
    · refine So.gd (i_in.mpr (by omega)) ?_
      exact So.one trivial
set_option maxHeartbeats 4000000 in
theorem t_Mod_takeAll_L107 {fu : Nat} {sMkind : (Nat → Int32)} {sMwidth : (Nat → Int32)} {sMbase : (Nat → Int64)} {sMbits : (Nat → Int32)} {x1_L107 : Int32} {x2_L107 : Int64} {x4_L107 : Int32} (Z : S_Mo) (hf : 12000 ≤ fu) (I_sMwidth : A_Mwidth sMwidth) (g_0 : 0 ≤ x1_L107.toInt) (g_1 : x1_L107.toInt < 100) : ∀ (n : Nat) (x6_L107 : Int32) (sMo_L107 : S_Mo) (sMread_L107 : Nat → Int64), I_Mo sMo_L107 → (0 ≤ x6_L107.toInt) → (x6_L107.toInt ≤ 8) → ((Mo_subsets sMo_L107).toInt ≤ 8) → ((Mo_fault sMo_L107).toInt ≠ 0 ∨ x4_L107.toInt ≤ 33) → (0 ≤ (Mo_at sMo_L107).toInt) → ((Mo_at sMo_L107).toInt ≤ (Mo_many sMo_L107).toInt) → ((Mo_many sMo_L107).toInt ≤ 40000) → (0 ≤ (Mo_fault sMo_L107).toInt) → ((Mo_open sMo_L107).toInt = (Mo_open Z).toInt) → ((Mo_looked sMo_L107).toInt = (Mo_looked Z).toInt) → ((Mo_fields sMo_L107).toInt = (Mo_fields Z).toInt) → ((Mo_elements sMo_L107).toInt = (Mo_elements Z).toInt) → ((Mo_pointed sMo_L107).toInt = (Mo_pointed Z).toInt) → ((Mo_pointer sMo_L107).toInt = (Mo_pointer Z).toInt) → ((Mo_mode sMo_L107).toInt = (Mo_mode Z).toInt) → ((Mo_subset sMo_L107).toInt = (Mo_subset Z).toInt) → ((Mo_subsets sMo_L107).toInt = (Mo_subsets Z).toInt) → ((Mo_many sMo_L107).toInt = (Mo_many Z).toInt) → (KM sMo_L107 Z) → (8 - x6_L107.toInt < (n : Nat)) → So (Mod_takeAll_L107 fu sMkind sMwidth sMbase sMbits x1_L107 x2_L107 x4_L107 n x6_L107 sMo_L107 sMread_L107) (fun r => I_Mo r.1 ∧ (0 ≤ (Mo_at r.1).toInt) ∧ ((Mo_at r.1).toInt ≤ (Mo_many r.1).toInt) ∧ ((Mo_many r.1).toInt ≤ 40000) ∧ (0 ≤ (Mo_fault r.1).toInt) ∧ ((Mo_open r.1).toInt = (Mo_open Z).toInt) ∧ ((Mo_looked r.1).toInt = (Mo_looked Z).toInt) ∧ ((Mo_fields r.1).toInt = (Mo_fields Z).toInt) ∧ ((Mo_elements r.1).toInt = (Mo_elements Z).toInt) ∧ ((Mo_pointed r.1).toInt = (Mo_pointed Z).toInt) ∧ ((Mo_pointer r.1).toInt = (Mo_pointer Z).toInt) ∧ ((Mo_mode r.1).toInt = (Mo_mode Z).toInt) ∧ ((Mo_subset r.1).toInt = (Mo_subset Z).toInt) ∧ ((Mo_subsets r.1).toInt = (Mo_subsets Z).toInt) ∧ ((Mo_many r.1).toInt = (Mo_many Z).toInt) ∧ KM r.1 Z)
  | 0, x6_L107, sMo_L107, sMread_L107, I_sMo_L107, l_0, l_1, l_2, l_3, l_4, l_5, l_6, l_7, l_8, l_9, l_10, l_11, l_12, l_13, l_14, l_15, l_16, l_17, l_18, l_19 => absurd l_19 (by omega)
  | n + 1, x6_L107, sMo_L107, sMread_L107, I_sMo_L107, l_0, l_1, l_2, l_3, l_4, l_5, l_6, l_7, l_8, l_9, l_10, l_11, l_12, l_13, l_14, l_15, l_16, l_17, l_18, l_19 => by
    rw [Mod_takeAll_L107]
    refine So.ite (fun c_1 => ?_) (fun c_1 => ?_)
    · rw [i_le] at c_1
      exact So.one ⟨I_sMo_L107, (by show 0 ≤ (Mo_at sMo_L107).toInt; omega), (by show (Mo_at sMo_L107).toInt ≤ (Mo_many sMo_L107).toInt; omega), (by show (Mo_many sMo_L107).toInt ≤ 40000; omega), (by show 0 ≤ (Mo_fault sMo_L107).toInt; omega), (by show (Mo_open sMo_L107).toInt = (Mo_open Z).toInt; omega), (by show (Mo_looked sMo_L107).toInt = (Mo_looked Z).toInt; omega), (by show (Mo_fields sMo_L107).toInt = (Mo_fields Z).toInt; omega), (by show (Mo_elements sMo_L107).toInt = (Mo_elements Z).toInt; omega), (by show (Mo_pointed sMo_L107).toInt = (Mo_pointed Z).toInt; omega), (by show (Mo_pointer sMo_L107).toInt = (Mo_pointer Z).toInt; omega), (by show (Mo_mode sMo_L107).toInt = (Mo_mode Z).toInt; omega), (by show (Mo_subset sMo_L107).toInt = (Mo_subset Z).toInt; omega), (by show (Mo_subsets sMo_L107).toInt = (Mo_subsets Z).toInt; omega), (by show (Mo_many sMo_L107).toInt = (Mo_many Z).toInt; omega), l_18⟩
    · rw [i_le] at c_1
      refine So.ite (fun c_2 => ?_) (fun c_2 => ?_)
      · rw [i_eq] at c_2
        have k_3 : (0 : Int32).toInt = 0 := by decide
        refine So.ite (fun c_4 => ?_) (fun c_4 => ?_)
        · rw [i_eq] at c_4
          unfold Mod_takeAll_j139
          refine So.ite (fun c_5 => ?_) (fun c_5 => ?_)
          · rw [i_le] at c_5
            unfold Mod_takeAll_j161
            unfold Mod_takeAll_j162
            refine So.ite (fun c_6 => ?_) (fun c_6 => ?_)
            · rw [i_le] at c_6
              unfold Mod_takeAll_j207
              refine So.pos (by decide) ?_
              refine So.bd (t_Mod_meant I_sMo_L107 I_sMwidth (by show 0 ≤ x1_L107.toInt; omega) (by show x1_L107.toInt < 101; omega)) fun q32 h_8 => ?_
              unfold Mod_takeAll_j238
              have k_9 : (100 : Int32).toInt = 100 := by decide
              first | have f_10 := i_mull 100 x6_L107 (100) (by decide) (by omega) (by omega) | have f_10 := i_mullm 100 x6_L107 (100) (by decide)
              first | have f_11 := i_add (a := (100 * x6_L107)) (b := x1_L107) (by omega) (by omega) | have f_11 := i_addm (100 * x6_L107) x1_L107
              refine So.gd (i_in.mpr (by omega)) ?_
              refine So.lt2 fun sMread_35 e_12 => ?_
              have k_13 : (1 : Int32).toInt = 1 := by decide
              first | have f_14 := i_add (a := x6_L107) (b := 1) (by omega) (by omega) | have f_14 := i_addm x6_L107 1
              have f_15 := I_Mo_at I_sMo_L107
              have f_16 := I_Mo_many I_sMo_L107
              have f_17 := I_Mo_open I_sMo_L107
              have f_18 := I_Mo_fields I_sMo_L107
              have f_19 := I_Mo_elements I_sMo_L107
              have f_20 := I_Mo_pointed I_sMo_L107
              have f_21 := I_Mo_pointer I_sMo_L107
              have f_22 := I_Mo_subset I_sMo_L107
              exact t_Mod_takeAll_L107 (Z) hf I_sMwidth (by show 0 ≤ x1_L107.toInt; omega) (by show x1_L107.toInt < 100; omega)   n _ _ _ I_sMo_L107 (by show 0 ≤ (x6_L107 + 1).toInt; omega) (by show (x6_L107 + 1).toInt ≤ 8; omega) (by show (Mo_subsets sMo_L107).toInt ≤ 8; omega) (by show (Mo_fault sMo_L107).toInt ≠ 0 ∨ x4_L107.toInt ≤ 33; omega) (by show 0 ≤ (Mo_at sMo_L107).toInt; omega) (by show (Mo_at sMo_L107).toInt ≤ (Mo_many sMo_L107).toInt; omega) (by show (Mo_many sMo_L107).toInt ≤ 40000; omega) (by show 0 ≤ (Mo_fault sMo_L107).toInt; omega) (by show (Mo_open sMo_L107).toInt = (Mo_open Z).toInt; omega) (by show (Mo_looked sMo_L107).toInt = (Mo_looked Z).toInt; omega) (by show (Mo_fields sMo_L107).toInt = (Mo_fields Z).toInt; omega) (by show (Mo_elements sMo_L107).toInt = (Mo_elements Z).toInt; omega) (by show (Mo_pointed sMo_L107).toInt = (Mo_pointed Z).toInt; omega) (by show (Mo_pointer sMo_L107).toInt = (Mo_pointer Z).toInt; omega) (by show (Mo_mode sMo_L107).toInt = (Mo_mode Z).toInt; omega) (by show (Mo_subset sMo_L107).toInt = (Mo_subset Z).toInt; omega) (by show (Mo_subsets sMo_L107).toInt = (Mo_subsets Z).toInt; omega) (by show (Mo_many sMo_L107).toInt = (Mo_many Z).toInt; omega) l_18 (by show 8 - (x6_L107 + 1).toInt < (n : Nat); omega)
            · rw [i_le] at c_6
              refine So.pos (by decide) ?_
              refine So.ite (fun c_24 => ?_) (fun c_24 => ?_)
              · rw [i_eq] at c_24
                refine So.gd (i_in.mpr (by omega)) ?_
                refine So.bd (t_Mod_most ) fun q26 h_25 => ?_
                refine So.ite (fun c_26 => ?_) (fun c_26 => ?_)
                · unfold Mod_takeAll_j207
                  refine So.pos (by decide) ?_
                  refine So.bd (t_Mod_meant I_sMo_L107 I_sMwidth (by show 0 ≤ x1_L107.toInt; omega) (by show x1_L107.toInt < 101; omega)) fun q32 h_28 => ?_
                  unfold Mod_takeAll_j238
                  have k_29 : (100 : Int32).toInt = 100 := by decide
                  first | have f_30 := i_mull 100 x6_L107 (100) (by decide) (by omega) (by omega) | have f_30 := i_mullm 100 x6_L107 (100) (by decide)
                  first | have f_31 := i_add (a := (100 * x6_L107)) (b := x1_L107) (by omega) (by omega) | have f_31 := i_addm (100 * x6_L107) x1_L107
                  refine So.gd (i_in.mpr (by omega)) ?_
                  refine So.lt2 fun sMread_35 e_32 => ?_
                  have k_33 : (1 : Int32).toInt = 1 := by decide
                  first | have f_34 := i_add (a := x6_L107) (b := 1) (by omega) (by omega) | have f_34 := i_addm x6_L107 1
                  have f_35 := I_Mo_at I_sMo_L107
                  have f_36 := I_Mo_many I_sMo_L107
                  have f_37 := I_Mo_open I_sMo_L107
                  have f_38 := I_Mo_fields I_sMo_L107
                  have f_39 := I_Mo_elements I_sMo_L107
                  have f_40 := I_Mo_pointed I_sMo_L107
                  have f_41 := I_Mo_pointer I_sMo_L107
                  have f_42 := I_Mo_subset I_sMo_L107
                  exact t_Mod_takeAll_L107 (Z) hf I_sMwidth (by show 0 ≤ x1_L107.toInt; omega) (by show x1_L107.toInt < 100; omega)   n _ _ _ I_sMo_L107 (by show 0 ≤ (x6_L107 + 1).toInt; omega) (by show (x6_L107 + 1).toInt ≤ 8; omega) (by show (Mo_subsets sMo_L107).toInt ≤ 8; omega) (by show (Mo_fault sMo_L107).toInt ≠ 0 ∨ x4_L107.toInt ≤ 33; omega) (by show 0 ≤ (Mo_at sMo_L107).toInt; omega) (by show (Mo_at sMo_L107).toInt ≤ (Mo_many sMo_L107).toInt; omega) (by show (Mo_many sMo_L107).toInt ≤ 40000; omega) (by show 0 ≤ (Mo_fault sMo_L107).toInt; omega) (by show (Mo_open sMo_L107).toInt = (Mo_open Z).toInt; omega) (by show (Mo_looked sMo_L107).toInt = (Mo_looked Z).toInt; omega) (by show (Mo_fields sMo_L107).toInt = (Mo_fields Z).toInt; omega) (by show (Mo_elements sMo_L107).toInt = (Mo_elements Z).toInt; omega) (by show (Mo_pointed sMo_L107).toInt = (Mo_pointed Z).toInt; omega) (by show (Mo_pointer sMo_L107).toInt = (Mo_pointer Z).toInt; omega) (by show (Mo_mode sMo_L107).toInt = (Mo_mode Z).toInt; omega) (by show (Mo_subset sMo_L107).toInt = (Mo_subset Z).toInt; omega) (by show (Mo_subsets sMo_L107).toInt = (Mo_subsets Z).toInt; omega) (by show (Mo_many sMo_L107).toInt = (Mo_many Z).toInt; omega) l_18 (by show 8 - (x6_L107 + 1).toInt < (n : Nat); omega)
                · have k_43 : (12 : Int32).toInt = 12 := by decide
                  have f_44 := I_Mo_open I_sMo_L107
                  have f_45 := I_Mo_fields I_sMo_L107
                  have f_46 := I_Mo_elements I_sMo_L107
                  have f_47 := I_Mo_pointed I_sMo_L107
                  have f_48 := I_Mo_pointer I_sMo_L107
                  have f_49 := I_Mo_subset I_sMo_L107
                  have f_50 := I_Mo_many I_sMo_L107
                  have f_51 := I_Mo_at I_sMo_L107
                  refine So.bd (t_Mod_wrongAt I_sMo_L107 (by show 0 < (12 : Int32).toInt; omega)) fun q27 h_52 => ?_
                  obtain ⟨p_53, p_54, p_55, p_56, p_57, p_58, p_59, p_60, p_61, p_62, p_63, p_64, p_65, p_66⟩ := h_52
                  unfold Mod_takeAll_j207
                  refine So.pos (by decide) ?_
                  refine So.bd (t_Mod_meant p_53 I_sMwidth (by show 0 ≤ x1_L107.toInt; omega) (by show x1_L107.toInt < 101; omega)) fun q32 h_68 => ?_
                  unfold Mod_takeAll_j238
                  have k_69 : (100 : Int32).toInt = 100 := by decide
                  first | have f_70 := i_mull 100 x6_L107 (100) (by decide) (by omega) (by omega) | have f_70 := i_mullm 100 x6_L107 (100) (by decide)
                  first | have f_71 := i_add (a := (100 * x6_L107)) (b := x1_L107) (by omega) (by omega) | have f_71 := i_addm (100 * x6_L107) x1_L107
                  refine So.gd (i_in.mpr (by omega)) ?_
                  refine So.lt2 fun sMread_35 e_72 => ?_
                  have k_73 : (1 : Int32).toInt = 1 := by decide
                  first | have f_74 := i_add (a := x6_L107) (b := 1) (by omega) (by omega) | have f_74 := i_addm x6_L107 1
                  have f_75 := I_Mo_at p_53
                  have f_76 := I_Mo_many p_53
                  have f_77 := I_Mo_open p_53
                  have f_78 := I_Mo_fields p_53
                  have f_79 := I_Mo_elements p_53
                  have f_80 := I_Mo_pointed p_53
                  have f_81 := I_Mo_pointer p_53
                  have f_82 := I_Mo_subset p_53
                  exact t_Mod_takeAll_L107 (Z) hf I_sMwidth (by show 0 ≤ x1_L107.toInt; omega) (by show x1_L107.toInt < 100; omega)   n _ _ _ p_53 (by show 0 ≤ (x6_L107 + 1).toInt; omega) (by show (x6_L107 + 1).toInt ≤ 8; omega) (by show (Mo_subsets q27).toInt ≤ 8; omega) (by show (Mo_fault q27).toInt ≠ 0 ∨ x4_L107.toInt ≤ 33; omega) (by show 0 ≤ (Mo_at q27).toInt; omega) (by show (Mo_at q27).toInt ≤ (Mo_many q27).toInt; omega) (by show (Mo_many q27).toInt ≤ 40000; omega) (by show 0 ≤ (Mo_fault q27).toInt; omega) (by show (Mo_open q27).toInt = (Mo_open Z).toInt; omega) (by show (Mo_looked q27).toInt = (Mo_looked Z).toInt; omega) (by show (Mo_fields q27).toInt = (Mo_fields Z).toInt; omega) (by show (Mo_elements q27).toInt = (Mo_elements Z).toInt; omega) (by show (Mo_pointed q27).toInt = (Mo_pointed Z).toInt; omega) (by show (Mo_pointer q27).toInt = (Mo_pointer Z).toInt; omega) (by show (Mo_mode q27).toInt = (Mo_mode Z).toInt; omega) (by show (Mo_subset q27).toInt = (Mo_subset Z).toInt; omega) (by show (Mo_subsets q27).toInt = (Mo_subsets Z).toInt; omega) (by show (Mo_many q27).toInt = (Mo_many Z).toInt; omega) (KM.trans p_66 l_18) (by show 8 - (x6_L107 + 1).toInt < (n : Nat); omega)
              · rw [i_eq] at c_24
                unfold Mod_takeAll_j207
                refine So.pos (by decide) ?_
                refine So.bd (t_Mod_meant I_sMo_L107 I_sMwidth (by show 0 ≤ x1_L107.toInt; omega) (by show x1_L107.toInt < 101; omega)) fun q32 h_84 => ?_
                unfold Mod_takeAll_j238
                have k_85 : (100 : Int32).toInt = 100 := by decide
                first | have f_86 := i_mull 100 x6_L107 (100) (by decide) (by omega) (by omega) | have f_86 := i_mullm 100 x6_L107 (100) (by decide)
                first | have f_87 := i_add (a := (100 * x6_L107)) (b := x1_L107) (by omega) (by omega) | have f_87 := i_addm (100 * x6_L107) x1_L107
                refine So.gd (i_in.mpr (by omega)) ?_
                refine So.lt2 fun sMread_35 e_88 => ?_
                have k_89 : (1 : Int32).toInt = 1 := by decide
                first | have f_90 := i_add (a := x6_L107) (b := 1) (by omega) (by omega) | have f_90 := i_addm x6_L107 1
                have f_91 := I_Mo_at I_sMo_L107
                have f_92 := I_Mo_many I_sMo_L107
                have f_93 := I_Mo_open I_sMo_L107
                have f_94 := I_Mo_fields I_sMo_L107
                have f_95 := I_Mo_elements I_sMo_L107
                have f_96 := I_Mo_pointed I_sMo_L107
                have f_97 := I_Mo_pointer I_sMo_L107
                have f_98 := I_Mo_subset I_sMo_L107
                exact t_Mod_takeAll_L107 (Z) hf I_sMwidth (by show 0 ≤ x1_L107.toInt; omega) (by show x1_L107.toInt < 100; omega)   n _ _ _ I_sMo_L107 (by show 0 ≤ (x6_L107 + 1).toInt; omega) (by show (x6_L107 + 1).toInt ≤ 8; omega) (by show (Mo_subsets sMo_L107).toInt ≤ 8; omega) (by show (Mo_fault sMo_L107).toInt ≠ 0 ∨ x4_L107.toInt ≤ 33; omega) (by show 0 ≤ (Mo_at sMo_L107).toInt; omega) (by show (Mo_at sMo_L107).toInt ≤ (Mo_many sMo_L107).toInt; omega) (by show (Mo_many sMo_L107).toInt ≤ 40000; omega) (by show 0 ≤ (Mo_fault sMo_L107).toInt; omega) (by show (Mo_open sMo_L107).toInt = (Mo_open Z).toInt; omega) (by show (Mo_looked sMo_L107).toInt = (Mo_looked Z).toInt; omega) (by show (Mo_fields sMo_L107).toInt = (Mo_fields Z).toInt; omega) (by show (Mo_elements sMo_L107).toInt = (Mo_elements Z).toInt; omega) (by show (Mo_pointed sMo_L107).toInt = (Mo_pointed Z).toInt; omega) (by show (Mo_pointer sMo_L107).toInt = (Mo_pointer Z).toInt; omega) (by show (Mo_mode sMo_L107).toInt = (Mo_mode Z).toInt; omega) (by show (Mo_subset sMo_L107).toInt = (Mo_subset Z).toInt; omega) (by show (Mo_subsets sMo_L107).toInt = (Mo_subsets Z).toInt; omega) (by show (Mo_many sMo_L107).toInt = (Mo_many Z).toInt; omega) l_18 (by show 8 - (x6_L107 + 1).toInt < (n : Nat); omega)
          · rw [i_le] at c_5
            refine So.bd (t_Mod_most ) fun q22 h_99 => ?_
            refine So.ite (fun c_100 => ?_) (fun c_100 => ?_)
            · unfold Mod_takeAll_j162
              refine So.ite (fun c_101 => ?_) (fun c_101 => ?_)
              · rw [i_le] at c_101
                unfold Mod_takeAll_j207
                refine So.neg (by decide) ?_
                unfold Mod_takeAll_j238
                have k_103 : (100 : Int32).toInt = 100 := by decide
                first | have f_104 := i_mull 100 x6_L107 (100) (by decide) (by omega) (by omega) | have f_104 := i_mullm 100 x6_L107 (100) (by decide)
                first | have f_105 := i_add (a := (100 * x6_L107)) (b := x1_L107) (by omega) (by omega) | have f_105 := i_addm (100 * x6_L107) x1_L107
                refine So.gd (i_in.mpr (by omega)) ?_
                refine So.lt2 fun sMread_35 e_106 => ?_
                have k_107 : (1 : Int32).toInt = 1 := by decide
                first | have f_108 := i_add (a := x6_L107) (b := 1) (by omega) (by omega) | have f_108 := i_addm x6_L107 1
                have f_109 := I_Mo_at I_sMo_L107
                have f_110 := I_Mo_many I_sMo_L107
                have f_111 := I_Mo_open I_sMo_L107
                have f_112 := I_Mo_fields I_sMo_L107
                have f_113 := I_Mo_elements I_sMo_L107
                have f_114 := I_Mo_pointed I_sMo_L107
                have f_115 := I_Mo_pointer I_sMo_L107
                have f_116 := I_Mo_subset I_sMo_L107
                exact t_Mod_takeAll_L107 (Z) hf I_sMwidth (by show 0 ≤ x1_L107.toInt; omega) (by show x1_L107.toInt < 100; omega)   n _ _ _ I_sMo_L107 (by show 0 ≤ (x6_L107 + 1).toInt; omega) (by show (x6_L107 + 1).toInt ≤ 8; omega) (by show (Mo_subsets sMo_L107).toInt ≤ 8; omega) (by show (Mo_fault sMo_L107).toInt ≠ 0 ∨ x4_L107.toInt ≤ 33; omega) (by show 0 ≤ (Mo_at sMo_L107).toInt; omega) (by show (Mo_at sMo_L107).toInt ≤ (Mo_many sMo_L107).toInt; omega) (by show (Mo_many sMo_L107).toInt ≤ 40000; omega) (by show 0 ≤ (Mo_fault sMo_L107).toInt; omega) (by show (Mo_open sMo_L107).toInt = (Mo_open Z).toInt; omega) (by show (Mo_looked sMo_L107).toInt = (Mo_looked Z).toInt; omega) (by show (Mo_fields sMo_L107).toInt = (Mo_fields Z).toInt; omega) (by show (Mo_elements sMo_L107).toInt = (Mo_elements Z).toInt; omega) (by show (Mo_pointed sMo_L107).toInt = (Mo_pointed Z).toInt; omega) (by show (Mo_pointer sMo_L107).toInt = (Mo_pointer Z).toInt; omega) (by show (Mo_mode sMo_L107).toInt = (Mo_mode Z).toInt; omega) (by show (Mo_subset sMo_L107).toInt = (Mo_subset Z).toInt; omega) (by show (Mo_subsets sMo_L107).toInt = (Mo_subsets Z).toInt; omega) (by show (Mo_many sMo_L107).toInt = (Mo_many Z).toInt; omega) l_18 (by show 8 - (x6_L107 + 1).toInt < (n : Nat); omega)
              · rw [i_le] at c_101
                refine So.neg (by decide) ?_
                unfold Mod_takeAll_j207
                refine So.neg (by decide) ?_
                unfold Mod_takeAll_j238
                have k_119 : (100 : Int32).toInt = 100 := by decide
                first | have f_120 := i_mull 100 x6_L107 (100) (by decide) (by omega) (by omega) | have f_120 := i_mullm 100 x6_L107 (100) (by decide)
                first | have f_121 := i_add (a := (100 * x6_L107)) (b := x1_L107) (by omega) (by omega) | have f_121 := i_addm (100 * x6_L107) x1_L107
                refine So.gd (i_in.mpr (by omega)) ?_
                refine So.lt2 fun sMread_35 e_122 => ?_
                have k_123 : (1 : Int32).toInt = 1 := by decide
                first | have f_124 := i_add (a := x6_L107) (b := 1) (by omega) (by omega) | have f_124 := i_addm x6_L107 1
                have f_125 := I_Mo_at I_sMo_L107
                have f_126 := I_Mo_many I_sMo_L107
                have f_127 := I_Mo_open I_sMo_L107
                have f_128 := I_Mo_fields I_sMo_L107
                have f_129 := I_Mo_elements I_sMo_L107
                have f_130 := I_Mo_pointed I_sMo_L107
                have f_131 := I_Mo_pointer I_sMo_L107
                have f_132 := I_Mo_subset I_sMo_L107
                exact t_Mod_takeAll_L107 (Z) hf I_sMwidth (by show 0 ≤ x1_L107.toInt; omega) (by show x1_L107.toInt < 100; omega)   n _ _ _ I_sMo_L107 (by show 0 ≤ (x6_L107 + 1).toInt; omega) (by show (x6_L107 + 1).toInt ≤ 8; omega) (by show (Mo_subsets sMo_L107).toInt ≤ 8; omega) (by show (Mo_fault sMo_L107).toInt ≠ 0 ∨ x4_L107.toInt ≤ 33; omega) (by show 0 ≤ (Mo_at sMo_L107).toInt; omega) (by show (Mo_at sMo_L107).toInt ≤ (Mo_many sMo_L107).toInt; omega) (by show (Mo_many sMo_L107).toInt ≤ 40000; omega) (by show 0 ≤ (Mo_fault sMo_L107).toInt; omega) (by show (Mo_open sMo_L107).toInt = (Mo_open Z).toInt; omega) (by show (Mo_looked sMo_L107).toInt = (Mo_looked Z).toInt; omega) (by show (Mo_fields sMo_L107).toInt = (Mo_fields Z).toInt; omega) (by show (Mo_elements sMo_L107).toInt = (Mo_elements Z).toInt; omega) (by show (Mo_pointed sMo_L107).toInt = (Mo_pointed Z).toInt; omega) (by show (Mo_pointer sMo_L107).toInt = (Mo_pointer Z).toInt; omega) (by show (Mo_mode sMo_L107).toInt = (Mo_mode Z).toInt; omega) (by show (Mo_subset sMo_L107).toInt = (Mo_subset Z).toInt; omega) (by show (Mo_subsets sMo_L107).toInt = (Mo_subsets Z).toInt; omega) (by show (Mo_many sMo_L107).toInt = (Mo_many Z).toInt; omega) l_18 (by show 8 - (x6_L107 + 1).toInt < (n : Nat); omega)
            · unfold Mod_takeAll_j161
              unfold Mod_takeAll_j162
              refine So.ite (fun c_133 => ?_) (fun c_133 => ?_)
              · rw [i_le] at c_133
                unfold Mod_takeAll_j207
                refine So.pos (by decide) ?_
                refine So.bd (t_Mod_meant I_sMo_L107 I_sMwidth (by show 0 ≤ x1_L107.toInt; omega) (by show x1_L107.toInt < 101; omega)) fun q32 h_135 => ?_
                unfold Mod_takeAll_j238
                have k_136 : (100 : Int32).toInt = 100 := by decide
                first | have f_137 := i_mull 100 x6_L107 (100) (by decide) (by omega) (by omega) | have f_137 := i_mullm 100 x6_L107 (100) (by decide)
                first | have f_138 := i_add (a := (100 * x6_L107)) (b := x1_L107) (by omega) (by omega) | have f_138 := i_addm (100 * x6_L107) x1_L107
                refine So.gd (i_in.mpr (by omega)) ?_
                refine So.lt2 fun sMread_35 e_139 => ?_
                have k_140 : (1 : Int32).toInt = 1 := by decide
                first | have f_141 := i_add (a := x6_L107) (b := 1) (by omega) (by omega) | have f_141 := i_addm x6_L107 1
                have f_142 := I_Mo_at I_sMo_L107
                have f_143 := I_Mo_many I_sMo_L107
                have f_144 := I_Mo_open I_sMo_L107
                have f_145 := I_Mo_fields I_sMo_L107
                have f_146 := I_Mo_elements I_sMo_L107
                have f_147 := I_Mo_pointed I_sMo_L107
                have f_148 := I_Mo_pointer I_sMo_L107
                have f_149 := I_Mo_subset I_sMo_L107
                exact t_Mod_takeAll_L107 (Z) hf I_sMwidth (by show 0 ≤ x1_L107.toInt; omega) (by show x1_L107.toInt < 100; omega)   n _ _ _ I_sMo_L107 (by show 0 ≤ (x6_L107 + 1).toInt; omega) (by show (x6_L107 + 1).toInt ≤ 8; omega) (by show (Mo_subsets sMo_L107).toInt ≤ 8; omega) (by show (Mo_fault sMo_L107).toInt ≠ 0 ∨ x4_L107.toInt ≤ 33; omega) (by show 0 ≤ (Mo_at sMo_L107).toInt; omega) (by show (Mo_at sMo_L107).toInt ≤ (Mo_many sMo_L107).toInt; omega) (by show (Mo_many sMo_L107).toInt ≤ 40000; omega) (by show 0 ≤ (Mo_fault sMo_L107).toInt; omega) (by show (Mo_open sMo_L107).toInt = (Mo_open Z).toInt; omega) (by show (Mo_looked sMo_L107).toInt = (Mo_looked Z).toInt; omega) (by show (Mo_fields sMo_L107).toInt = (Mo_fields Z).toInt; omega) (by show (Mo_elements sMo_L107).toInt = (Mo_elements Z).toInt; omega) (by show (Mo_pointed sMo_L107).toInt = (Mo_pointed Z).toInt; omega) (by show (Mo_pointer sMo_L107).toInt = (Mo_pointer Z).toInt; omega) (by show (Mo_mode sMo_L107).toInt = (Mo_mode Z).toInt; omega) (by show (Mo_subset sMo_L107).toInt = (Mo_subset Z).toInt; omega) (by show (Mo_subsets sMo_L107).toInt = (Mo_subsets Z).toInt; omega) (by show (Mo_many sMo_L107).toInt = (Mo_many Z).toInt; omega) l_18 (by show 8 - (x6_L107 + 1).toInt < (n : Nat); omega)
              · rw [i_le] at c_133
                refine So.pos (by decide) ?_
                refine So.ite (fun c_151 => ?_) (fun c_151 => ?_)
                · rw [i_eq] at c_151
                  refine So.gd (i_in.mpr (by omega)) ?_
                  refine So.bd (t_Mod_most ) fun q26 h_152 => ?_
                  refine So.ite (fun c_153 => ?_) (fun c_153 => ?_)
                  · unfold Mod_takeAll_j207
                    refine So.pos (by decide) ?_
                    refine So.bd (t_Mod_meant I_sMo_L107 I_sMwidth (by show 0 ≤ x1_L107.toInt; omega) (by show x1_L107.toInt < 101; omega)) fun q32 h_155 => ?_
                    unfold Mod_takeAll_j238
                    have k_156 : (100 : Int32).toInt = 100 := by decide
                    first | have f_157 := i_mull 100 x6_L107 (100) (by decide) (by omega) (by omega) | have f_157 := i_mullm 100 x6_L107 (100) (by decide)
                    first | have f_158 := i_add (a := (100 * x6_L107)) (b := x1_L107) (by omega) (by omega) | have f_158 := i_addm (100 * x6_L107) x1_L107
                    refine So.gd (i_in.mpr (by omega)) ?_
                    refine So.lt2 fun sMread_35 e_159 => ?_
                    have k_160 : (1 : Int32).toInt = 1 := by decide
                    first | have f_161 := i_add (a := x6_L107) (b := 1) (by omega) (by omega) | have f_161 := i_addm x6_L107 1
                    have f_162 := I_Mo_at I_sMo_L107
                    have f_163 := I_Mo_many I_sMo_L107
                    have f_164 := I_Mo_open I_sMo_L107
                    have f_165 := I_Mo_fields I_sMo_L107
                    have f_166 := I_Mo_elements I_sMo_L107
                    have f_167 := I_Mo_pointed I_sMo_L107
                    have f_168 := I_Mo_pointer I_sMo_L107
                    have f_169 := I_Mo_subset I_sMo_L107
                    exact t_Mod_takeAll_L107 (Z) hf I_sMwidth (by show 0 ≤ x1_L107.toInt; omega) (by show x1_L107.toInt < 100; omega)   n _ _ _ I_sMo_L107 (by show 0 ≤ (x6_L107 + 1).toInt; omega) (by show (x6_L107 + 1).toInt ≤ 8; omega) (by show (Mo_subsets sMo_L107).toInt ≤ 8; omega) (by show (Mo_fault sMo_L107).toInt ≠ 0 ∨ x4_L107.toInt ≤ 33; omega) (by show 0 ≤ (Mo_at sMo_L107).toInt; omega) (by show (Mo_at sMo_L107).toInt ≤ (Mo_many sMo_L107).toInt; omega) (by show (Mo_many sMo_L107).toInt ≤ 40000; omega) (by show 0 ≤ (Mo_fault sMo_L107).toInt; omega) (by show (Mo_open sMo_L107).toInt = (Mo_open Z).toInt; omega) (by show (Mo_looked sMo_L107).toInt = (Mo_looked Z).toInt; omega) (by show (Mo_fields sMo_L107).toInt = (Mo_fields Z).toInt; omega) (by show (Mo_elements sMo_L107).toInt = (Mo_elements Z).toInt; omega) (by show (Mo_pointed sMo_L107).toInt = (Mo_pointed Z).toInt; omega) (by show (Mo_pointer sMo_L107).toInt = (Mo_pointer Z).toInt; omega) (by show (Mo_mode sMo_L107).toInt = (Mo_mode Z).toInt; omega) (by show (Mo_subset sMo_L107).toInt = (Mo_subset Z).toInt; omega) (by show (Mo_subsets sMo_L107).toInt = (Mo_subsets Z).toInt; omega) (by show (Mo_many sMo_L107).toInt = (Mo_many Z).toInt; omega) l_18 (by show 8 - (x6_L107 + 1).toInt < (n : Nat); omega)
                  · have k_170 : (12 : Int32).toInt = 12 := by decide
                    have f_171 := I_Mo_open I_sMo_L107
                    have f_172 := I_Mo_fields I_sMo_L107
                    have f_173 := I_Mo_elements I_sMo_L107
                    have f_174 := I_Mo_pointed I_sMo_L107
                    have f_175 := I_Mo_pointer I_sMo_L107
                    have f_176 := I_Mo_subset I_sMo_L107
                    have f_177 := I_Mo_many I_sMo_L107
                    have f_178 := I_Mo_at I_sMo_L107
                    refine So.bd (t_Mod_wrongAt I_sMo_L107 (by show 0 < (12 : Int32).toInt; omega)) fun q27 h_179 => ?_
                    obtain ⟨p_180, p_181, p_182, p_183, p_184, p_185, p_186, p_187, p_188, p_189, p_190, p_191, p_192, p_193⟩ := h_179
                    unfold Mod_takeAll_j207
                    refine So.pos (by decide) ?_
                    refine So.bd (t_Mod_meant p_180 I_sMwidth (by show 0 ≤ x1_L107.toInt; omega) (by show x1_L107.toInt < 101; omega)) fun q32 h_195 => ?_
                    unfold Mod_takeAll_j238
                    have k_196 : (100 : Int32).toInt = 100 := by decide
                    first | have f_197 := i_mull 100 x6_L107 (100) (by decide) (by omega) (by omega) | have f_197 := i_mullm 100 x6_L107 (100) (by decide)
                    first | have f_198 := i_add (a := (100 * x6_L107)) (b := x1_L107) (by omega) (by omega) | have f_198 := i_addm (100 * x6_L107) x1_L107
                    refine So.gd (i_in.mpr (by omega)) ?_
                    refine So.lt2 fun sMread_35 e_199 => ?_
                    have k_200 : (1 : Int32).toInt = 1 := by decide
                    first | have f_201 := i_add (a := x6_L107) (b := 1) (by omega) (by omega) | have f_201 := i_addm x6_L107 1
                    have f_202 := I_Mo_at p_180
                    have f_203 := I_Mo_many p_180
                    have f_204 := I_Mo_open p_180
                    have f_205 := I_Mo_fields p_180
                    have f_206 := I_Mo_elements p_180
                    have f_207 := I_Mo_pointed p_180
                    have f_208 := I_Mo_pointer p_180
                    have f_209 := I_Mo_subset p_180
                    exact t_Mod_takeAll_L107 (Z) hf I_sMwidth (by show 0 ≤ x1_L107.toInt; omega) (by show x1_L107.toInt < 100; omega)   n _ _ _ p_180 (by show 0 ≤ (x6_L107 + 1).toInt; omega) (by show (x6_L107 + 1).toInt ≤ 8; omega) (by show (Mo_subsets q27).toInt ≤ 8; omega) (by show (Mo_fault q27).toInt ≠ 0 ∨ x4_L107.toInt ≤ 33; omega) (by show 0 ≤ (Mo_at q27).toInt; omega) (by show (Mo_at q27).toInt ≤ (Mo_many q27).toInt; omega) (by show (Mo_many q27).toInt ≤ 40000; omega) (by show 0 ≤ (Mo_fault q27).toInt; omega) (by show (Mo_open q27).toInt = (Mo_open Z).toInt; omega) (by show (Mo_looked q27).toInt = (Mo_looked Z).toInt; omega) (by show (Mo_fields q27).toInt = (Mo_fields Z).toInt; omega) (by show (Mo_elements q27).toInt = (Mo_elements Z).toInt; omega) (by show (Mo_pointed q27).toInt = (Mo_pointed Z).toInt; omega) (by show (Mo_pointer q27).toInt = (Mo_pointer Z).toInt; omega) (by show (Mo_mode q27).toInt = (Mo_mode Z).toInt; omega) (by show (Mo_subset q27).toInt = (Mo_subset Z).toInt; omega) (by show (Mo_subsets q27).toInt = (Mo_subsets Z).toInt; omega) (by show (Mo_many q27).toInt = (Mo_many Z).toInt; omega) (KM.trans p_193 l_18) (by show 8 - (x6_L107 + 1).toInt < (n : Nat); omega)
                · rw [i_eq] at c_151
                  unfold Mod_takeAll_j207
                  refine So.pos (by decide) ?_
                  refine So.bd (t_Mod_meant I_sMo_L107 I_sMwidth (by show 0 ≤ x1_L107.toInt; omega) (by show x1_L107.toInt < 101; omega)) fun q32 h_211 => ?_
                  unfold Mod_takeAll_j238
                  have k_212 : (100 : Int32).toInt = 100 := by decide
                  first | have f_213 := i_mull 100 x6_L107 (100) (by decide) (by omega) (by omega) | have f_213 := i_mullm 100 x6_L107 (100) (by decide)
                  first | have f_214 := i_add (a := (100 * x6_L107)) (b := x1_L107) (by omega) (by omega) | have f_214 := i_addm (100 * x6_L107) x1_L107
                  refine So.gd (i_in.mpr (by omega)) ?_
                  refine So.lt2 fun sMread_35 e_215 => ?_
                  have k_216 : (1 : Int32).toInt = 1 := by decide
                  first | have f_217 := i_add (a := x6_L107) (b := 1) (by omega) (by omega) | have f_217 := i_addm x6_L107 1
                  have f_218 := I_Mo_at I_sMo_L107
                  have f_219 := I_Mo_many I_sMo_L107
                  have f_220 := I_Mo_open I_sMo_L107
                  have f_221 := I_Mo_fields I_sMo_L107
                  have f_222 := I_Mo_elements I_sMo_L107
                  have f_223 := I_Mo_pointed I_sMo_L107
                  have f_224 := I_Mo_pointer I_sMo_L107
                  have f_225 := I_Mo_subset I_sMo_L107
                  exact t_Mod_takeAll_L107 (Z) hf I_sMwidth (by show 0 ≤ x1_L107.toInt; omega) (by show x1_L107.toInt < 100; omega)   n _ _ _ I_sMo_L107 (by show 0 ≤ (x6_L107 + 1).toInt; omega) (by show (x6_L107 + 1).toInt ≤ 8; omega) (by show (Mo_subsets sMo_L107).toInt ≤ 8; omega) (by show (Mo_fault sMo_L107).toInt ≠ 0 ∨ x4_L107.toInt ≤ 33; omega) (by show 0 ≤ (Mo_at sMo_L107).toInt; omega) (by show (Mo_at sMo_L107).toInt ≤ (Mo_many sMo_L107).toInt; omega) (by show (Mo_many sMo_L107).toInt ≤ 40000; omega) (by show 0 ≤ (Mo_fault sMo_L107).toInt; omega) (by show (Mo_open sMo_L107).toInt = (Mo_open Z).toInt; omega) (by show (Mo_looked sMo_L107).toInt = (Mo_looked Z).toInt; omega) (by show (Mo_fields sMo_L107).toInt = (Mo_fields Z).toInt; omega) (by show (Mo_elements sMo_L107).toInt = (Mo_elements Z).toInt; omega) (by show (Mo_pointed sMo_L107).toInt = (Mo_pointed Z).toInt; omega) (by show (Mo_pointer sMo_L107).toInt = (Mo_pointer Z).toInt; omega) (by show (Mo_mode sMo_L107).toInt = (Mo_mode Z).toInt; omega) (by show (Mo_subset sMo_L107).toInt = (Mo_subset Z).toInt; omega) (by show (Mo_subsets sMo_L107).toInt = (Mo_subsets Z).toInt; omega) (by show (Mo_many sMo_L107).toInt = (Mo_many Z).toInt; omega) l_18 (by show 8 - (x6_L107 + 1).toInt < (n : Nat); omega)
        · rw [i_eq] at c_4
          have f_226 := I_Mo_at I_sMo_L107
          have f_227 := I_Mo_many I_sMo_L107
          have f_228 := I_Mo_open I_sMo_L107
          have f_229 := I_Mo_fields I_sMo_L107
          have f_230 := I_Mo_elements I_sMo_L107
          have f_231 := I_Mo_pointed I_sMo_L107
          have f_232 := I_Mo_pointer I_sMo_L107
          have f_233 := I_Mo_subset I_sMo_L107
          refine So.bd (t_Mod_take hf I_sMo_L107 (by show x4_L107.toInt ≤ 120; omega) (by show 0 ≤ (Mo_at sMo_L107).toInt; omega) (by show (Mo_at sMo_L107).toInt ≤ (Mo_many sMo_L107).toInt; omega) (by show (Mo_many sMo_L107).toInt ≤ 40000; omega) (by show 0 ≤ (Mo_fault sMo_L107).toInt; omega)) fun q18 h_234 => ?_
          obtain ⟨p_235, p_236, p_237, p_238, p_239, p_240, p_241, p_242, p_243, p_244, p_245, p_246, p_247, p_248, p_249⟩ := h_234
          unfold Mod_takeAll_j139
          refine So.ite (fun c_250 => ?_) (fun c_250 => ?_)
          · rw [i_le] at c_250
            unfold Mod_takeAll_j161
            unfold Mod_takeAll_j162
            refine So.ite (fun c_251 => ?_) (fun c_251 => ?_)
            · rw [i_le] at c_251
              unfold Mod_takeAll_j207
              refine So.pos (by decide) ?_
              refine So.bd (t_Mod_meant p_235 I_sMwidth (by show 0 ≤ x1_L107.toInt; omega) (by show x1_L107.toInt < 101; omega)) fun q32 h_253 => ?_
              unfold Mod_takeAll_j238
              have k_254 : (100 : Int32).toInt = 100 := by decide
              first | have f_255 := i_mull 100 x6_L107 (100) (by decide) (by omega) (by omega) | have f_255 := i_mullm 100 x6_L107 (100) (by decide)
              first | have f_256 := i_add (a := (100 * x6_L107)) (b := x1_L107) (by omega) (by omega) | have f_256 := i_addm (100 * x6_L107) x1_L107
              refine So.gd (i_in.mpr (by omega)) ?_
              refine So.lt2 fun sMread_35 e_257 => ?_
              have k_258 : (1 : Int32).toInt = 1 := by decide
              first | have f_259 := i_add (a := x6_L107) (b := 1) (by omega) (by omega) | have f_259 := i_addm x6_L107 1
              have f_260 := I_Mo_at p_235
              have f_261 := I_Mo_many p_235
              have f_262 := I_Mo_open p_235
              have f_263 := I_Mo_fields p_235
              have f_264 := I_Mo_elements p_235
              have f_265 := I_Mo_pointed p_235
              have f_266 := I_Mo_pointer p_235
              have f_267 := I_Mo_subset p_235
              exact t_Mod_takeAll_L107 (Z) hf I_sMwidth (by show 0 ≤ x1_L107.toInt; omega) (by show x1_L107.toInt < 100; omega)   n _ _ _ p_235 (by show 0 ≤ (x6_L107 + 1).toInt; omega) (by show (x6_L107 + 1).toInt ≤ 8; omega) (by show (Mo_subsets q18.2).toInt ≤ 8; omega) (by show (Mo_fault q18.2).toInt ≠ 0 ∨ x4_L107.toInt ≤ 33; omega) (by show 0 ≤ (Mo_at q18.2).toInt; omega) (by show (Mo_at q18.2).toInt ≤ (Mo_many q18.2).toInt; omega) (by show (Mo_many q18.2).toInt ≤ 40000; omega) (by show 0 ≤ (Mo_fault q18.2).toInt; omega) (by show (Mo_open q18.2).toInt = (Mo_open Z).toInt; omega) (by show (Mo_looked q18.2).toInt = (Mo_looked Z).toInt; omega) (by show (Mo_fields q18.2).toInt = (Mo_fields Z).toInt; omega) (by show (Mo_elements q18.2).toInt = (Mo_elements Z).toInt; omega) (by show (Mo_pointed q18.2).toInt = (Mo_pointed Z).toInt; omega) (by show (Mo_pointer q18.2).toInt = (Mo_pointer Z).toInt; omega) (by show (Mo_mode q18.2).toInt = (Mo_mode Z).toInt; omega) (by show (Mo_subset q18.2).toInt = (Mo_subset Z).toInt; omega) (by show (Mo_subsets q18.2).toInt = (Mo_subsets Z).toInt; omega) (by show (Mo_many q18.2).toInt = (Mo_many Z).toInt; omega) (KM.trans p_249 l_18) (by show 8 - (x6_L107 + 1).toInt < (n : Nat); omega)
            · rw [i_le] at c_251
              refine So.pos (by decide) ?_
              refine So.ite (fun c_269 => ?_) (fun c_269 => ?_)
              · rw [i_eq] at c_269
                refine So.gd (i_in.mpr (by omega)) ?_
                refine So.bd (t_Mod_most ) fun q26 h_270 => ?_
                refine So.ite (fun c_271 => ?_) (fun c_271 => ?_)
                · unfold Mod_takeAll_j207
                  refine So.pos (by decide) ?_
                  refine So.bd (t_Mod_meant p_235 I_sMwidth (by show 0 ≤ x1_L107.toInt; omega) (by show x1_L107.toInt < 101; omega)) fun q32 h_273 => ?_
                  unfold Mod_takeAll_j238
                  have k_274 : (100 : Int32).toInt = 100 := by decide
                  first | have f_275 := i_mull 100 x6_L107 (100) (by decide) (by omega) (by omega) | have f_275 := i_mullm 100 x6_L107 (100) (by decide)
                  first | have f_276 := i_add (a := (100 * x6_L107)) (b := x1_L107) (by omega) (by omega) | have f_276 := i_addm (100 * x6_L107) x1_L107
                  refine So.gd (i_in.mpr (by omega)) ?_
                  refine So.lt2 fun sMread_35 e_277 => ?_
                  have k_278 : (1 : Int32).toInt = 1 := by decide
                  first | have f_279 := i_add (a := x6_L107) (b := 1) (by omega) (by omega) | have f_279 := i_addm x6_L107 1
                  have f_280 := I_Mo_at p_235
                  have f_281 := I_Mo_many p_235
                  have f_282 := I_Mo_open p_235
                  have f_283 := I_Mo_fields p_235
                  have f_284 := I_Mo_elements p_235
                  have f_285 := I_Mo_pointed p_235
                  have f_286 := I_Mo_pointer p_235
                  have f_287 := I_Mo_subset p_235
                  exact t_Mod_takeAll_L107 (Z) hf I_sMwidth (by show 0 ≤ x1_L107.toInt; omega) (by show x1_L107.toInt < 100; omega)   n _ _ _ p_235 (by show 0 ≤ (x6_L107 + 1).toInt; omega) (by show (x6_L107 + 1).toInt ≤ 8; omega) (by show (Mo_subsets q18.2).toInt ≤ 8; omega) (by show (Mo_fault q18.2).toInt ≠ 0 ∨ x4_L107.toInt ≤ 33; omega) (by show 0 ≤ (Mo_at q18.2).toInt; omega) (by show (Mo_at q18.2).toInt ≤ (Mo_many q18.2).toInt; omega) (by show (Mo_many q18.2).toInt ≤ 40000; omega) (by show 0 ≤ (Mo_fault q18.2).toInt; omega) (by show (Mo_open q18.2).toInt = (Mo_open Z).toInt; omega) (by show (Mo_looked q18.2).toInt = (Mo_looked Z).toInt; omega) (by show (Mo_fields q18.2).toInt = (Mo_fields Z).toInt; omega) (by show (Mo_elements q18.2).toInt = (Mo_elements Z).toInt; omega) (by show (Mo_pointed q18.2).toInt = (Mo_pointed Z).toInt; omega) (by show (Mo_pointer q18.2).toInt = (Mo_pointer Z).toInt; omega) (by show (Mo_mode q18.2).toInt = (Mo_mode Z).toInt; omega) (by show (Mo_subset q18.2).toInt = (Mo_subset Z).toInt; omega) (by show (Mo_subsets q18.2).toInt = (Mo_subsets Z).toInt; omega) (by show (Mo_many q18.2).toInt = (Mo_many Z).toInt; omega) (KM.trans p_249 l_18) (by show 8 - (x6_L107 + 1).toInt < (n : Nat); omega)
                · have k_288 : (12 : Int32).toInt = 12 := by decide
                  have f_289 := I_Mo_open p_235
                  have f_290 := I_Mo_fields p_235
                  have f_291 := I_Mo_elements p_235
                  have f_292 := I_Mo_pointed p_235
                  have f_293 := I_Mo_pointer p_235
                  have f_294 := I_Mo_subset p_235
                  have f_295 := I_Mo_many p_235
                  have f_296 := I_Mo_at p_235
                  refine So.bd (t_Mod_wrongAt p_235 (by show 0 < (12 : Int32).toInt; omega)) fun q27 h_297 => ?_
                  obtain ⟨p_298, p_299, p_300, p_301, p_302, p_303, p_304, p_305, p_306, p_307, p_308, p_309, p_310, p_311⟩ := h_297
                  unfold Mod_takeAll_j207
                  refine So.pos (by decide) ?_
                  refine So.bd (t_Mod_meant p_298 I_sMwidth (by show 0 ≤ x1_L107.toInt; omega) (by show x1_L107.toInt < 101; omega)) fun q32 h_313 => ?_
                  unfold Mod_takeAll_j238
                  have k_314 : (100 : Int32).toInt = 100 := by decide
                  first | have f_315 := i_mull 100 x6_L107 (100) (by decide) (by omega) (by omega) | have f_315 := i_mullm 100 x6_L107 (100) (by decide)
                  first | have f_316 := i_add (a := (100 * x6_L107)) (b := x1_L107) (by omega) (by omega) | have f_316 := i_addm (100 * x6_L107) x1_L107
                  refine So.gd (i_in.mpr (by omega)) ?_
                  refine So.lt2 fun sMread_35 e_317 => ?_
                  have k_318 : (1 : Int32).toInt = 1 := by decide
                  first | have f_319 := i_add (a := x6_L107) (b := 1) (by omega) (by omega) | have f_319 := i_addm x6_L107 1
                  have f_320 := I_Mo_at p_298
                  have f_321 := I_Mo_many p_298
                  have f_322 := I_Mo_open p_298
                  have f_323 := I_Mo_fields p_298
                  have f_324 := I_Mo_elements p_298
                  have f_325 := I_Mo_pointed p_298
                  have f_326 := I_Mo_pointer p_298
                  have f_327 := I_Mo_subset p_298
                  exact t_Mod_takeAll_L107 (Z) hf I_sMwidth (by show 0 ≤ x1_L107.toInt; omega) (by show x1_L107.toInt < 100; omega)   n _ _ _ p_298 (by show 0 ≤ (x6_L107 + 1).toInt; omega) (by show (x6_L107 + 1).toInt ≤ 8; omega) (by show (Mo_subsets q27).toInt ≤ 8; omega) (by show (Mo_fault q27).toInt ≠ 0 ∨ x4_L107.toInt ≤ 33; omega) (by show 0 ≤ (Mo_at q27).toInt; omega) (by show (Mo_at q27).toInt ≤ (Mo_many q27).toInt; omega) (by show (Mo_many q27).toInt ≤ 40000; omega) (by show 0 ≤ (Mo_fault q27).toInt; omega) (by show (Mo_open q27).toInt = (Mo_open Z).toInt; omega) (by show (Mo_looked q27).toInt = (Mo_looked Z).toInt; omega) (by show (Mo_fields q27).toInt = (Mo_fields Z).toInt; omega) (by show (Mo_elements q27).toInt = (Mo_elements Z).toInt; omega) (by show (Mo_pointed q27).toInt = (Mo_pointed Z).toInt; omega) (by show (Mo_pointer q27).toInt = (Mo_pointer Z).toInt; omega) (by show (Mo_mode q27).toInt = (Mo_mode Z).toInt; omega) (by show (Mo_subset q27).toInt = (Mo_subset Z).toInt; omega) (by show (Mo_subsets q27).toInt = (Mo_subsets Z).toInt; omega) (by show (Mo_many q27).toInt = (Mo_many Z).toInt; omega) (KM.trans p_311 (KM.trans p_249 l_18)) (by show 8 - (x6_L107 + 1).toInt < (n : Nat); omega)
              · rw [i_eq] at c_269
                unfold Mod_takeAll_j207
                refine So.pos (by decide) ?_
                refine So.bd (t_Mod_meant p_235 I_sMwidth (by show 0 ≤ x1_L107.toInt; omega) (by show x1_L107.toInt < 101; omega)) fun q32 h_329 => ?_
                unfold Mod_takeAll_j238
                have k_330 : (100 : Int32).toInt = 100 := by decide
                first | have f_331 := i_mull 100 x6_L107 (100) (by decide) (by omega) (by omega) | have f_331 := i_mullm 100 x6_L107 (100) (by decide)
                first | have f_332 := i_add (a := (100 * x6_L107)) (b := x1_L107) (by omega) (by omega) | have f_332 := i_addm (100 * x6_L107) x1_L107
                refine So.gd (i_in.mpr (by omega)) ?_
                refine So.lt2 fun sMread_35 e_333 => ?_
                have k_334 : (1 : Int32).toInt = 1 := by decide
                first | have f_335 := i_add (a := x6_L107) (b := 1) (by omega) (by omega) | have f_335 := i_addm x6_L107 1
                have f_336 := I_Mo_at p_235
                have f_337 := I_Mo_many p_235
                have f_338 := I_Mo_open p_235
                have f_339 := I_Mo_fields p_235
                have f_340 := I_Mo_elements p_235
                have f_341 := I_Mo_pointed p_235
                have f_342 := I_Mo_pointer p_235
                have f_343 := I_Mo_subset p_235
                exact t_Mod_takeAll_L107 (Z) hf I_sMwidth (by show 0 ≤ x1_L107.toInt; omega) (by show x1_L107.toInt < 100; omega)   n _ _ _ p_235 (by show 0 ≤ (x6_L107 + 1).toInt; omega) (by show (x6_L107 + 1).toInt ≤ 8; omega) (by show (Mo_subsets q18.2).toInt ≤ 8; omega) (by show (Mo_fault q18.2).toInt ≠ 0 ∨ x4_L107.toInt ≤ 33; omega) (by show 0 ≤ (Mo_at q18.2).toInt; omega) (by show (Mo_at q18.2).toInt ≤ (Mo_many q18.2).toInt; omega) (by show (Mo_many q18.2).toInt ≤ 40000; omega) (by show 0 ≤ (Mo_fault q18.2).toInt; omega) (by show (Mo_open q18.2).toInt = (Mo_open Z).toInt; omega) (by show (Mo_looked q18.2).toInt = (Mo_looked Z).toInt; omega) (by show (Mo_fields q18.2).toInt = (Mo_fields Z).toInt; omega) (by show (Mo_elements q18.2).toInt = (Mo_elements Z).toInt; omega) (by show (Mo_pointed q18.2).toInt = (Mo_pointed Z).toInt; omega) (by show (Mo_pointer q18.2).toInt = (Mo_pointer Z).toInt; omega) (by show (Mo_mode q18.2).toInt = (Mo_mode Z).toInt; omega) (by show (Mo_subset q18.2).toInt = (Mo_subset Z).toInt; omega) (by show (Mo_subsets q18.2).toInt = (Mo_subsets Z).toInt; omega) (by show (Mo_many q18.2).toInt = (Mo_many Z).toInt; omega) (KM.trans p_249 l_18) (by show 8 - (x6_L107 + 1).toInt < (n : Nat); omega)
          · rw [i_le] at c_250
            refine So.bd (t_Mod_most ) fun q22 h_344 => ?_
            refine So.ite (fun c_345 => ?_) (fun c_345 => ?_)
            · unfold Mod_takeAll_j162
              refine So.ite (fun c_346 => ?_) (fun c_346 => ?_)
              · rw [i_le] at c_346
                unfold Mod_takeAll_j207
                refine So.neg (by decide) ?_
                unfold Mod_takeAll_j238
                have k_348 : (100 : Int32).toInt = 100 := by decide
                first | have f_349 := i_mull 100 x6_L107 (100) (by decide) (by omega) (by omega) | have f_349 := i_mullm 100 x6_L107 (100) (by decide)
                first | have f_350 := i_add (a := (100 * x6_L107)) (b := x1_L107) (by omega) (by omega) | have f_350 := i_addm (100 * x6_L107) x1_L107
                refine So.gd (i_in.mpr (by omega)) ?_
                refine So.lt2 fun sMread_35 e_351 => ?_
                have k_352 : (1 : Int32).toInt = 1 := by decide
                first | have f_353 := i_add (a := x6_L107) (b := 1) (by omega) (by omega) | have f_353 := i_addm x6_L107 1
                have f_354 := I_Mo_at p_235
                have f_355 := I_Mo_many p_235
                have f_356 := I_Mo_open p_235
                have f_357 := I_Mo_fields p_235
                have f_358 := I_Mo_elements p_235
                have f_359 := I_Mo_pointed p_235
                have f_360 := I_Mo_pointer p_235
                have f_361 := I_Mo_subset p_235
                exact t_Mod_takeAll_L107 (Z) hf I_sMwidth (by show 0 ≤ x1_L107.toInt; omega) (by show x1_L107.toInt < 100; omega)   n _ _ _ p_235 (by show 0 ≤ (x6_L107 + 1).toInt; omega) (by show (x6_L107 + 1).toInt ≤ 8; omega) (by show (Mo_subsets q18.2).toInt ≤ 8; omega) (by show (Mo_fault q18.2).toInt ≠ 0 ∨ x4_L107.toInt ≤ 33; omega) (by show 0 ≤ (Mo_at q18.2).toInt; omega) (by show (Mo_at q18.2).toInt ≤ (Mo_many q18.2).toInt; omega) (by show (Mo_many q18.2).toInt ≤ 40000; omega) (by show 0 ≤ (Mo_fault q18.2).toInt; omega) (by show (Mo_open q18.2).toInt = (Mo_open Z).toInt; omega) (by show (Mo_looked q18.2).toInt = (Mo_looked Z).toInt; omega) (by show (Mo_fields q18.2).toInt = (Mo_fields Z).toInt; omega) (by show (Mo_elements q18.2).toInt = (Mo_elements Z).toInt; omega) (by show (Mo_pointed q18.2).toInt = (Mo_pointed Z).toInt; omega) (by show (Mo_pointer q18.2).toInt = (Mo_pointer Z).toInt; omega) (by show (Mo_mode q18.2).toInt = (Mo_mode Z).toInt; omega) (by show (Mo_subset q18.2).toInt = (Mo_subset Z).toInt; omega) (by show (Mo_subsets q18.2).toInt = (Mo_subsets Z).toInt; omega) (by show (Mo_many q18.2).toInt = (Mo_many Z).toInt; omega) (KM.trans p_249 l_18) (by show 8 - (x6_L107 + 1).toInt < (n : Nat); omega)
              · rw [i_le] at c_346
                refine So.neg (by decide) ?_
                unfold Mod_takeAll_j207
                refine So.neg (by decide) ?_
                unfold Mod_takeAll_j238
                have k_364 : (100 : Int32).toInt = 100 := by decide
                first | have f_365 := i_mull 100 x6_L107 (100) (by decide) (by omega) (by omega) | have f_365 := i_mullm 100 x6_L107 (100) (by decide)
                first | have f_366 := i_add (a := (100 * x6_L107)) (b := x1_L107) (by omega) (by omega) | have f_366 := i_addm (100 * x6_L107) x1_L107
                refine So.gd (i_in.mpr (by omega)) ?_
                refine So.lt2 fun sMread_35 e_367 => ?_
                have k_368 : (1 : Int32).toInt = 1 := by decide
                first | have f_369 := i_add (a := x6_L107) (b := 1) (by omega) (by omega) | have f_369 := i_addm x6_L107 1
                have f_370 := I_Mo_at p_235
                have f_371 := I_Mo_many p_235
                have f_372 := I_Mo_open p_235
                have f_373 := I_Mo_fields p_235
                have f_374 := I_Mo_elements p_235
                have f_375 := I_Mo_pointed p_235
                have f_376 := I_Mo_pointer p_235
                have f_377 := I_Mo_subset p_235
                exact t_Mod_takeAll_L107 (Z) hf I_sMwidth (by show 0 ≤ x1_L107.toInt; omega) (by show x1_L107.toInt < 100; omega)   n _ _ _ p_235 (by show 0 ≤ (x6_L107 + 1).toInt; omega) (by show (x6_L107 + 1).toInt ≤ 8; omega) (by show (Mo_subsets q18.2).toInt ≤ 8; omega) (by show (Mo_fault q18.2).toInt ≠ 0 ∨ x4_L107.toInt ≤ 33; omega) (by show 0 ≤ (Mo_at q18.2).toInt; omega) (by show (Mo_at q18.2).toInt ≤ (Mo_many q18.2).toInt; omega) (by show (Mo_many q18.2).toInt ≤ 40000; omega) (by show 0 ≤ (Mo_fault q18.2).toInt; omega) (by show (Mo_open q18.2).toInt = (Mo_open Z).toInt; omega) (by show (Mo_looked q18.2).toInt = (Mo_looked Z).toInt; omega) (by show (Mo_fields q18.2).toInt = (Mo_fields Z).toInt; omega) (by show (Mo_elements q18.2).toInt = (Mo_elements Z).toInt; omega) (by show (Mo_pointed q18.2).toInt = (Mo_pointed Z).toInt; omega) (by show (Mo_pointer q18.2).toInt = (Mo_pointer Z).toInt; omega) (by show (Mo_mode q18.2).toInt = (Mo_mode Z).toInt; omega) (by show (Mo_subset q18.2).toInt = (Mo_subset Z).toInt; omega) (by show (Mo_subsets q18.2).toInt = (Mo_subsets Z).toInt; omega) (by show (Mo_many q18.2).toInt = (Mo_many Z).toInt; omega) (KM.trans p_249 l_18) (by show 8 - (x6_L107 + 1).toInt < (n : Nat); omega)
            · unfold Mod_takeAll_j161
              unfold Mod_takeAll_j162
              refine So.ite (fun c_378 => ?_) (fun c_378 => ?_)
              · rw [i_le] at c_378
                unfold Mod_takeAll_j207
                refine So.pos (by decide) ?_
                refine So.bd (t_Mod_meant p_235 I_sMwidth (by show 0 ≤ x1_L107.toInt; omega) (by show x1_L107.toInt < 101; omega)) fun q32 h_380 => ?_
                unfold Mod_takeAll_j238
                have k_381 : (100 : Int32).toInt = 100 := by decide
                first | have f_382 := i_mull 100 x6_L107 (100) (by decide) (by omega) (by omega) | have f_382 := i_mullm 100 x6_L107 (100) (by decide)
                first | have f_383 := i_add (a := (100 * x6_L107)) (b := x1_L107) (by omega) (by omega) | have f_383 := i_addm (100 * x6_L107) x1_L107
                refine So.gd (i_in.mpr (by omega)) ?_
                refine So.lt2 fun sMread_35 e_384 => ?_
                have k_385 : (1 : Int32).toInt = 1 := by decide
                first | have f_386 := i_add (a := x6_L107) (b := 1) (by omega) (by omega) | have f_386 := i_addm x6_L107 1
                have f_387 := I_Mo_at p_235
                have f_388 := I_Mo_many p_235
                have f_389 := I_Mo_open p_235
                have f_390 := I_Mo_fields p_235
                have f_391 := I_Mo_elements p_235
                have f_392 := I_Mo_pointed p_235
                have f_393 := I_Mo_pointer p_235
                have f_394 := I_Mo_subset p_235
                exact t_Mod_takeAll_L107 (Z) hf I_sMwidth (by show 0 ≤ x1_L107.toInt; omega) (by show x1_L107.toInt < 100; omega)   n _ _ _ p_235 (by show 0 ≤ (x6_L107 + 1).toInt; omega) (by show (x6_L107 + 1).toInt ≤ 8; omega) (by show (Mo_subsets q18.2).toInt ≤ 8; omega) (by show (Mo_fault q18.2).toInt ≠ 0 ∨ x4_L107.toInt ≤ 33; omega) (by show 0 ≤ (Mo_at q18.2).toInt; omega) (by show (Mo_at q18.2).toInt ≤ (Mo_many q18.2).toInt; omega) (by show (Mo_many q18.2).toInt ≤ 40000; omega) (by show 0 ≤ (Mo_fault q18.2).toInt; omega) (by show (Mo_open q18.2).toInt = (Mo_open Z).toInt; omega) (by show (Mo_looked q18.2).toInt = (Mo_looked Z).toInt; omega) (by show (Mo_fields q18.2).toInt = (Mo_fields Z).toInt; omega) (by show (Mo_elements q18.2).toInt = (Mo_elements Z).toInt; omega) (by show (Mo_pointed q18.2).toInt = (Mo_pointed Z).toInt; omega) (by show (Mo_pointer q18.2).toInt = (Mo_pointer Z).toInt; omega) (by show (Mo_mode q18.2).toInt = (Mo_mode Z).toInt; omega) (by show (Mo_subset q18.2).toInt = (Mo_subset Z).toInt; omega) (by show (Mo_subsets q18.2).toInt = (Mo_subsets Z).toInt; omega) (by show (Mo_many q18.2).toInt = (Mo_many Z).toInt; omega) (KM.trans p_249 l_18) (by show 8 - (x6_L107 + 1).toInt < (n : Nat); omega)
              · rw [i_le] at c_378
                refine So.pos (by decide) ?_
                refine So.ite (fun c_396 => ?_) (fun c_396 => ?_)
                · rw [i_eq] at c_396
                  refine So.gd (i_in.mpr (by omega)) ?_
                  refine So.bd (t_Mod_most ) fun q26 h_397 => ?_
                  refine So.ite (fun c_398 => ?_) (fun c_398 => ?_)
                  · unfold Mod_takeAll_j207
                    refine So.pos (by decide) ?_
                    refine So.bd (t_Mod_meant p_235 I_sMwidth (by show 0 ≤ x1_L107.toInt; omega) (by show x1_L107.toInt < 101; omega)) fun q32 h_400 => ?_
                    unfold Mod_takeAll_j238
                    have k_401 : (100 : Int32).toInt = 100 := by decide
                    first | have f_402 := i_mull 100 x6_L107 (100) (by decide) (by omega) (by omega) | have f_402 := i_mullm 100 x6_L107 (100) (by decide)
                    first | have f_403 := i_add (a := (100 * x6_L107)) (b := x1_L107) (by omega) (by omega) | have f_403 := i_addm (100 * x6_L107) x1_L107
                    refine So.gd (i_in.mpr (by omega)) ?_
                    refine So.lt2 fun sMread_35 e_404 => ?_
                    have k_405 : (1 : Int32).toInt = 1 := by decide
                    first | have f_406 := i_add (a := x6_L107) (b := 1) (by omega) (by omega) | have f_406 := i_addm x6_L107 1
                    have f_407 := I_Mo_at p_235
                    have f_408 := I_Mo_many p_235
                    have f_409 := I_Mo_open p_235
                    have f_410 := I_Mo_fields p_235
                    have f_411 := I_Mo_elements p_235
                    have f_412 := I_Mo_pointed p_235
                    have f_413 := I_Mo_pointer p_235
                    have f_414 := I_Mo_subset p_235
                    exact t_Mod_takeAll_L107 (Z) hf I_sMwidth (by show 0 ≤ x1_L107.toInt; omega) (by show x1_L107.toInt < 100; omega)   n _ _ _ p_235 (by show 0 ≤ (x6_L107 + 1).toInt; omega) (by show (x6_L107 + 1).toInt ≤ 8; omega) (by show (Mo_subsets q18.2).toInt ≤ 8; omega) (by show (Mo_fault q18.2).toInt ≠ 0 ∨ x4_L107.toInt ≤ 33; omega) (by show 0 ≤ (Mo_at q18.2).toInt; omega) (by show (Mo_at q18.2).toInt ≤ (Mo_many q18.2).toInt; omega) (by show (Mo_many q18.2).toInt ≤ 40000; omega) (by show 0 ≤ (Mo_fault q18.2).toInt; omega) (by show (Mo_open q18.2).toInt = (Mo_open Z).toInt; omega) (by show (Mo_looked q18.2).toInt = (Mo_looked Z).toInt; omega) (by show (Mo_fields q18.2).toInt = (Mo_fields Z).toInt; omega) (by show (Mo_elements q18.2).toInt = (Mo_elements Z).toInt; omega) (by show (Mo_pointed q18.2).toInt = (Mo_pointed Z).toInt; omega) (by show (Mo_pointer q18.2).toInt = (Mo_pointer Z).toInt; omega) (by show (Mo_mode q18.2).toInt = (Mo_mode Z).toInt; omega) (by show (Mo_subset q18.2).toInt = (Mo_subset Z).toInt; omega) (by show (Mo_subsets q18.2).toInt = (Mo_subsets Z).toInt; omega) (by show (Mo_many q18.2).toInt = (Mo_many Z).toInt; omega) (KM.trans p_249 l_18) (by show 8 - (x6_L107 + 1).toInt < (n : Nat); omega)
                  · have k_415 : (12 : Int32).toInt = 12 := by decide
                    have f_416 := I_Mo_open p_235
                    have f_417 := I_Mo_fields p_235
                    have f_418 := I_Mo_elements p_235
                    have f_419 := I_Mo_pointed p_235
                    have f_420 := I_Mo_pointer p_235
                    have f_421 := I_Mo_subset p_235
                    have f_422 := I_Mo_many p_235
                    have f_423 := I_Mo_at p_235
                    refine So.bd (t_Mod_wrongAt p_235 (by show 0 < (12 : Int32).toInt; omega)) fun q27 h_424 => ?_
                    obtain ⟨p_425, p_426, p_427, p_428, p_429, p_430, p_431, p_432, p_433, p_434, p_435, p_436, p_437, p_438⟩ := h_424
                    unfold Mod_takeAll_j207
                    refine So.pos (by decide) ?_
                    refine So.bd (t_Mod_meant p_425 I_sMwidth (by show 0 ≤ x1_L107.toInt; omega) (by show x1_L107.toInt < 101; omega)) fun q32 h_440 => ?_
                    unfold Mod_takeAll_j238
                    have k_441 : (100 : Int32).toInt = 100 := by decide
                    first | have f_442 := i_mull 100 x6_L107 (100) (by decide) (by omega) (by omega) | have f_442 := i_mullm 100 x6_L107 (100) (by decide)
                    first | have f_443 := i_add (a := (100 * x6_L107)) (b := x1_L107) (by omega) (by omega) | have f_443 := i_addm (100 * x6_L107) x1_L107
                    refine So.gd (i_in.mpr (by omega)) ?_
                    refine So.lt2 fun sMread_35 e_444 => ?_
                    have k_445 : (1 : Int32).toInt = 1 := by decide
                    first | have f_446 := i_add (a := x6_L107) (b := 1) (by omega) (by omega) | have f_446 := i_addm x6_L107 1
                    have f_447 := I_Mo_at p_425
                    have f_448 := I_Mo_many p_425
                    have f_449 := I_Mo_open p_425
                    have f_450 := I_Mo_fields p_425
                    have f_451 := I_Mo_elements p_425
                    have f_452 := I_Mo_pointed p_425
                    have f_453 := I_Mo_pointer p_425
                    have f_454 := I_Mo_subset p_425
                    exact t_Mod_takeAll_L107 (Z) hf I_sMwidth (by show 0 ≤ x1_L107.toInt; omega) (by show x1_L107.toInt < 100; omega)   n _ _ _ p_425 (by show 0 ≤ (x6_L107 + 1).toInt; omega) (by show (x6_L107 + 1).toInt ≤ 8; omega) (by show (Mo_subsets q27).toInt ≤ 8; omega) (by show (Mo_fault q27).toInt ≠ 0 ∨ x4_L107.toInt ≤ 33; omega) (by show 0 ≤ (Mo_at q27).toInt; omega) (by show (Mo_at q27).toInt ≤ (Mo_many q27).toInt; omega) (by show (Mo_many q27).toInt ≤ 40000; omega) (by show 0 ≤ (Mo_fault q27).toInt; omega) (by show (Mo_open q27).toInt = (Mo_open Z).toInt; omega) (by show (Mo_looked q27).toInt = (Mo_looked Z).toInt; omega) (by show (Mo_fields q27).toInt = (Mo_fields Z).toInt; omega) (by show (Mo_elements q27).toInt = (Mo_elements Z).toInt; omega) (by show (Mo_pointed q27).toInt = (Mo_pointed Z).toInt; omega) (by show (Mo_pointer q27).toInt = (Mo_pointer Z).toInt; omega) (by show (Mo_mode q27).toInt = (Mo_mode Z).toInt; omega) (by show (Mo_subset q27).toInt = (Mo_subset Z).toInt; omega) (by show (Mo_subsets q27).toInt = (Mo_subsets Z).toInt; omega) (by show (Mo_many q27).toInt = (Mo_many Z).toInt; omega) (KM.trans p_438 (KM.trans p_249 l_18)) (by show 8 - (x6_L107 + 1).toInt < (n : Nat); omega)
                · rw [i_eq] at c_396
                  unfold Mod_takeAll_j207
                  refine So.pos (by decide) ?_
                  refine So.bd (t_Mod_meant p_235 I_sMwidth (by show 0 ≤ x1_L107.toInt; omega) (by show x1_L107.toInt < 101; omega)) fun q32 h_456 => ?_
                  unfold Mod_takeAll_j238
                  have k_457 : (100 : Int32).toInt = 100 := by decide
                  first | have f_458 := i_mull 100 x6_L107 (100) (by decide) (by omega) (by omega) | have f_458 := i_mullm 100 x6_L107 (100) (by decide)
                  first | have f_459 := i_add (a := (100 * x6_L107)) (b := x1_L107) (by omega) (by omega) | have f_459 := i_addm (100 * x6_L107) x1_L107
                  refine So.gd (i_in.mpr (by omega)) ?_
                  refine So.lt2 fun sMread_35 e_460 => ?_
                  have k_461 : (1 : Int32).toInt = 1 := by decide
                  first | have f_462 := i_add (a := x6_L107) (b := 1) (by omega) (by omega) | have f_462 := i_addm x6_L107 1
                  have f_463 := I_Mo_at p_235
                  have f_464 := I_Mo_many p_235
                  have f_465 := I_Mo_open p_235
                  have f_466 := I_Mo_fields p_235
                  have f_467 := I_Mo_elements p_235
                  have f_468 := I_Mo_pointed p_235
                  have f_469 := I_Mo_pointer p_235
                  have f_470 := I_Mo_subset p_235
                  exact t_Mod_takeAll_L107 (Z) hf I_sMwidth (by show 0 ≤ x1_L107.toInt; omega) (by show x1_L107.toInt < 100; omega)   n _ _ _ p_235 (by show 0 ≤ (x6_L107 + 1).toInt; omega) (by show (x6_L107 + 1).toInt ≤ 8; omega) (by show (Mo_subsets q18.2).toInt ≤ 8; omega) (by show (Mo_fault q18.2).toInt ≠ 0 ∨ x4_L107.toInt ≤ 33; omega) (by show 0 ≤ (Mo_at q18.2).toInt; omega) (by show (Mo_at q18.2).toInt ≤ (Mo_many q18.2).toInt; omega) (by show (Mo_many q18.2).toInt ≤ 40000; omega) (by show 0 ≤ (Mo_fault q18.2).toInt; omega) (by show (Mo_open q18.2).toInt = (Mo_open Z).toInt; omega) (by show (Mo_looked q18.2).toInt = (Mo_looked Z).toInt; omega) (by show (Mo_fields q18.2).toInt = (Mo_fields Z).toInt; omega) (by show (Mo_elements q18.2).toInt = (Mo_elements Z).toInt; omega) (by show (Mo_pointed q18.2).toInt = (Mo_pointed Z).toInt; omega) (by show (Mo_pointer q18.2).toInt = (Mo_pointer Z).toInt; omega) (by show (Mo_mode q18.2).toInt = (Mo_mode Z).toInt; omega) (by show (Mo_subset q18.2).toInt = (Mo_subset Z).toInt; omega) (by show (Mo_subsets q18.2).toInt = (Mo_subsets Z).toInt; omega) (by show (Mo_many q18.2).toInt = (Mo_many Z).toInt; omega) (KM.trans p_249 l_18) (by show 8 - (x6_L107 + 1).toInt < (n : Nat); omega)
      · rw [i_eq] at c_2
        have k_471 : (0 : Int32).toInt = 0 := by decide
        exact So.one ⟨I_sMo_L107, (by show 0 ≤ (Mo_at sMo_L107).toInt; omega), (by show (Mo_at sMo_L107).toInt ≤ (Mo_many sMo_L107).toInt; omega), (by show (Mo_many sMo_L107).toInt ≤ 40000; omega), (by show 0 ≤ (Mo_fault sMo_L107).toInt; omega), (by show (Mo_open sMo_L107).toInt = (Mo_open Z).toInt; omega), (by show (Mo_looked sMo_L107).toInt = (Mo_looked Z).toInt; omega), (by show (Mo_fields sMo_L107).toInt = (Mo_fields Z).toInt; omega), (by show (Mo_elements sMo_L107).toInt = (Mo_elements Z).toInt; omega), (by show (Mo_pointed sMo_L107).toInt = (Mo_pointed Z).toInt; omega), (by show (Mo_pointer sMo_L107).toInt = (Mo_pointer Z).toInt; omega), (by show (Mo_mode sMo_L107).toInt = (Mo_mode Z).toInt; omega), (by show (Mo_subset sMo_L107).toInt = (Mo_subset Z).toInt; omega), (by show (Mo_subsets sMo_L107).toInt = (Mo_subsets Z).toInt; omega), (by show (Mo_many sMo_L107).toInt = (Mo_many Z).toInt; omega), l_18⟩
theorem t_Mod_takeAll_j47 {fu : Nat} {sMkind : (Nat → Int32)} {sMwidth : (Nat → Int32)} {sMbase : (Nat → Int64)} {sMbits : (Nat → Int32)} {x1_j47 : Int32} {x2_j47 : Int64} {x4_j47 : Int32} {t0_j47 : Int32} {sMo_j47 : S_Mo} {sMread_j47 : (Nat → Int64)} (hf : 12000 ≤ fu) (I_sMwidth : A_Mwidth sMwidth) (I_sMo_j47 : I_Mo sMo_j47) (g_0 : 0 ≤ x1_j47.toInt) (g_1 : x1_j47.toInt < 100) (g_2 : (Mo_subsets sMo_j47).toInt ≤ 8) (g_3 : 0 ≤ (Mo_at sMo_j47).toInt) (g_4 : (Mo_at sMo_j47).toInt ≤ (Mo_many sMo_j47).toInt) (g_5 : (Mo_many sMo_j47).toInt ≤ 40000) (g_6 : 0 ≤ (Mo_fault sMo_j47).toInt) : So (Mod_takeAll_j47 fu sMkind sMwidth sMbase sMbits x1_j47 x2_j47 x4_j47 t0_j47 sMo_j47 sMread_j47) (fun r => I_Mo r.1 ∧ (0 ≤ (Mo_at r.1).toInt) ∧ ((Mo_at r.1).toInt ≤ (Mo_many r.1).toInt) ∧ ((Mo_many r.1).toInt ≤ 40000) ∧ (0 ≤ (Mo_fault r.1).toInt) ∧ ((Mo_open r.1).toInt = (Mo_open sMo_j47).toInt) ∧ ((Mo_looked r.1).toInt = (Mo_looked sMo_j47).toInt) ∧ ((Mo_fields r.1).toInt = (Mo_fields sMo_j47).toInt) ∧ ((Mo_elements r.1).toInt = (Mo_elements sMo_j47).toInt) ∧ ((Mo_pointed r.1).toInt = (Mo_pointed sMo_j47).toInt) ∧ ((Mo_pointer r.1).toInt = (Mo_pointer sMo_j47).toInt) ∧ ((Mo_mode r.1).toInt = (Mo_mode sMo_j47).toInt) ∧ ((Mo_subset r.1).toInt = (Mo_subset sMo_j47).toInt) ∧ ((Mo_subsets r.1).toInt = (Mo_subsets sMo_j47).toInt) ∧ ((Mo_many r.1).toInt = (Mo_many sMo_j47).toInt) ∧ KM r.1 sMo_j47) := by
  unfold Mod_takeAll_j47
  refine So.ite (fun c_1 => ?_) (fun c_1 => ?_)
  · rw [i_eq] at c_1
    have k_2 : (0 : Int32).toInt = 0 := by decide
    refine So.ite (fun c_3 => ?_) (fun c_3 => ?_)
    · rw [i_lt] at c_3
      have k_4 : (33 : Int32).toInt = 33 := by decide
      unfold Mod_takeAll_j97
      have k_5 : (12 : Int32).toInt = 12 := by decide
      have f_6 := I_Mo_open I_sMo_j47
      have f_7 := I_Mo_fields I_sMo_j47
      have f_8 := I_Mo_elements I_sMo_j47
      have f_9 := I_Mo_pointed I_sMo_j47
      have f_10 := I_Mo_pointer I_sMo_j47
      have f_11 := I_Mo_subset I_sMo_j47
      have f_12 := I_Mo_many I_sMo_j47
      have f_13 := I_Mo_at I_sMo_j47
      refine So.bd (t_Mod_wrongAt I_sMo_j47 (by show 0 < (12 : Int32).toInt; omega)) fun q17 h_14 => ?_
      obtain ⟨p_15, p_16, p_17, p_18, p_19, p_20, p_21, p_22, p_23, p_24, p_25, p_26, p_27, p_28⟩ := h_14
      unfold Mod_takeAll_j104
      have f_29 := I_Mo_at p_15
      have f_30 := I_Mo_many p_15
      have f_31 := I_Mo_open p_15
      have f_32 := I_Mo_fields p_15
      have f_33 := I_Mo_elements p_15
      have f_34 := I_Mo_pointed p_15
      have f_35 := I_Mo_pointer p_15
      have f_36 := I_Mo_subset p_15
      refine So.imp (t_Mod_takeAll_L107 (sMo_j47) hf I_sMwidth (by show 0 ≤ x1_j47.toInt; omega) (by show x1_j47.toInt < 100; omega) fu _ _ _ p_15 (by show 0 ≤ (0 : Int32).toInt; omega) (by show (0 : Int32).toInt ≤ 8; omega) (by show (Mo_subsets q17).toInt ≤ 8; omega) (by show (Mo_fault q17).toInt ≠ 0 ∨ x4_j47.toInt ≤ 33; omega) (by show 0 ≤ (Mo_at q17).toInt; omega) (by show (Mo_at q17).toInt ≤ (Mo_many q17).toInt; omega) (by show (Mo_many q17).toInt ≤ 40000; omega) (by show 0 ≤ (Mo_fault q17).toInt; omega) (by show (Mo_open q17).toInt = (Mo_open sMo_j47).toInt; omega) (by show (Mo_looked q17).toInt = (Mo_looked sMo_j47).toInt; omega) (by show (Mo_fields q17).toInt = (Mo_fields sMo_j47).toInt; omega) (by show (Mo_elements q17).toInt = (Mo_elements sMo_j47).toInt; omega) (by show (Mo_pointed q17).toInt = (Mo_pointed sMo_j47).toInt; omega) (by show (Mo_pointer q17).toInt = (Mo_pointer sMo_j47).toInt; omega) (by show (Mo_mode q17).toInt = (Mo_mode sMo_j47).toInt; omega) (by show (Mo_subset q17).toInt = (Mo_subset sMo_j47).toInt; omega) (by show (Mo_subsets q17).toInt = (Mo_subsets sMo_j47).toInt; omega) (by show (Mo_many q17).toInt = (Mo_many sMo_j47).toInt; omega) (KM.trans p_28 (KM.refl _)) (by show 8 - (0 : Int32).toInt < (fu : Nat); omega)) fun q_z h_z => ?_
      obtain ⟨p_37, p_38, p_39, p_40, p_41, p_42, p_43, p_44, p_45, p_46, p_47, p_48, p_49, p_50, p_51, p_52⟩ := h_z
      exact ⟨p_37, (by show 0 ≤ (Mo_at q_z.1).toInt; omega), (by show (Mo_at q_z.1).toInt ≤ (Mo_many q_z.1).toInt; omega), (by show (Mo_many q_z.1).toInt ≤ 40000; omega), (by show 0 ≤ (Mo_fault q_z.1).toInt; omega), (by show (Mo_open q_z.1).toInt = (Mo_open sMo_j47).toInt; omega), (by show (Mo_looked q_z.1).toInt = (Mo_looked sMo_j47).toInt; omega), (by show (Mo_fields q_z.1).toInt = (Mo_fields sMo_j47).toInt; omega), (by show (Mo_elements q_z.1).toInt = (Mo_elements sMo_j47).toInt; omega), (by show (Mo_pointed q_z.1).toInt = (Mo_pointed sMo_j47).toInt; omega), (by show (Mo_pointer q_z.1).toInt = (Mo_pointer sMo_j47).toInt; omega), (by show (Mo_mode q_z.1).toInt = (Mo_mode sMo_j47).toInt; omega), (by show (Mo_subset q_z.1).toInt = (Mo_subset sMo_j47).toInt; omega), (by show (Mo_subsets q_z.1).toInt = (Mo_subsets sMo_j47).toInt; omega), (by show (Mo_many q_z.1).toInt = (Mo_many sMo_j47).toInt; omega), (KM.trans p_52 (KM.refl _))⟩
    · rw [i_lt] at c_3
      have k_53 : (33 : Int32).toInt = 33 := by decide
      refine So.ite (fun c_54 => ?_) (fun c_54 => ?_)
      · rw [i_eq] at c_54
        unfold Mod_takeAll_j73
        refine So.gd (i_in.mpr (by omega)) ?_
        refine So.ite (fun c_55 => ?_) (fun c_55 => ?_)
        · rw [i_eq] at c_55
          have k_56 : (2 : Int32).toInt = 2 := by decide
          refine So.gd (i_in.mpr (by omega)) ?_
          refine So.bd (t_Mod_most ) fun q14 h_57 => ?_
          refine So.ite (fun c_58 => ?_) (fun c_58 => ?_)
          · unfold Mod_takeAll_j97
            have k_59 : (12 : Int32).toInt = 12 := by decide
            have f_60 := I_Mo_open I_sMo_j47
            have f_61 := I_Mo_fields I_sMo_j47
            have f_62 := I_Mo_elements I_sMo_j47
            have f_63 := I_Mo_pointed I_sMo_j47
            have f_64 := I_Mo_pointer I_sMo_j47
            have f_65 := I_Mo_subset I_sMo_j47
            have f_66 := I_Mo_many I_sMo_j47
            have f_67 := I_Mo_at I_sMo_j47
            refine So.bd (t_Mod_wrongAt I_sMo_j47 (by show 0 < (12 : Int32).toInt; omega)) fun q17 h_68 => ?_
            obtain ⟨p_69, p_70, p_71, p_72, p_73, p_74, p_75, p_76, p_77, p_78, p_79, p_80, p_81, p_82⟩ := h_68
            unfold Mod_takeAll_j104
            have f_83 := I_Mo_at p_69
            have f_84 := I_Mo_many p_69
            have f_85 := I_Mo_open p_69
            have f_86 := I_Mo_fields p_69
            have f_87 := I_Mo_elements p_69
            have f_88 := I_Mo_pointed p_69
            have f_89 := I_Mo_pointer p_69
            have f_90 := I_Mo_subset p_69
            refine So.imp (t_Mod_takeAll_L107 (sMo_j47) hf I_sMwidth (by show 0 ≤ x1_j47.toInt; omega) (by show x1_j47.toInt < 100; omega) fu _ _ _ p_69 (by show 0 ≤ (0 : Int32).toInt; omega) (by show (0 : Int32).toInt ≤ 8; omega) (by show (Mo_subsets q17).toInt ≤ 8; omega) (by show (Mo_fault q17).toInt ≠ 0 ∨ x4_j47.toInt ≤ 33; omega) (by show 0 ≤ (Mo_at q17).toInt; omega) (by show (Mo_at q17).toInt ≤ (Mo_many q17).toInt; omega) (by show (Mo_many q17).toInt ≤ 40000; omega) (by show 0 ≤ (Mo_fault q17).toInt; omega) (by show (Mo_open q17).toInt = (Mo_open sMo_j47).toInt; omega) (by show (Mo_looked q17).toInt = (Mo_looked sMo_j47).toInt; omega) (by show (Mo_fields q17).toInt = (Mo_fields sMo_j47).toInt; omega) (by show (Mo_elements q17).toInt = (Mo_elements sMo_j47).toInt; omega) (by show (Mo_pointed q17).toInt = (Mo_pointed sMo_j47).toInt; omega) (by show (Mo_pointer q17).toInt = (Mo_pointer sMo_j47).toInt; omega) (by show (Mo_mode q17).toInt = (Mo_mode sMo_j47).toInt; omega) (by show (Mo_subset q17).toInt = (Mo_subset sMo_j47).toInt; omega) (by show (Mo_subsets q17).toInt = (Mo_subsets sMo_j47).toInt; omega) (by show (Mo_many q17).toInt = (Mo_many sMo_j47).toInt; omega) (KM.trans p_82 (KM.refl _)) (by show 8 - (0 : Int32).toInt < (fu : Nat); omega)) fun q_z h_z => ?_
            obtain ⟨p_91, p_92, p_93, p_94, p_95, p_96, p_97, p_98, p_99, p_100, p_101, p_102, p_103, p_104, p_105, p_106⟩ := h_z
            exact ⟨p_91, (by show 0 ≤ (Mo_at q_z.1).toInt; omega), (by show (Mo_at q_z.1).toInt ≤ (Mo_many q_z.1).toInt; omega), (by show (Mo_many q_z.1).toInt ≤ 40000; omega), (by show 0 ≤ (Mo_fault q_z.1).toInt; omega), (by show (Mo_open q_z.1).toInt = (Mo_open sMo_j47).toInt; omega), (by show (Mo_looked q_z.1).toInt = (Mo_looked sMo_j47).toInt; omega), (by show (Mo_fields q_z.1).toInt = (Mo_fields sMo_j47).toInt; omega), (by show (Mo_elements q_z.1).toInt = (Mo_elements sMo_j47).toInt; omega), (by show (Mo_pointed q_z.1).toInt = (Mo_pointed sMo_j47).toInt; omega), (by show (Mo_pointer q_z.1).toInt = (Mo_pointer sMo_j47).toInt; omega), (by show (Mo_mode q_z.1).toInt = (Mo_mode sMo_j47).toInt; omega), (by show (Mo_subset q_z.1).toInt = (Mo_subset sMo_j47).toInt; omega), (by show (Mo_subsets q_z.1).toInt = (Mo_subsets sMo_j47).toInt; omega), (by show (Mo_many q_z.1).toInt = (Mo_many sMo_j47).toInt; omega), (KM.trans p_106 (KM.refl _))⟩
          · unfold Mod_takeAll_j104
            have f_107 := I_Mo_at I_sMo_j47
            have f_108 := I_Mo_many I_sMo_j47
            have f_109 := I_Mo_open I_sMo_j47
            have f_110 := I_Mo_fields I_sMo_j47
            have f_111 := I_Mo_elements I_sMo_j47
            have f_112 := I_Mo_pointed I_sMo_j47
            have f_113 := I_Mo_pointer I_sMo_j47
            have f_114 := I_Mo_subset I_sMo_j47
            refine So.imp (t_Mod_takeAll_L107 (sMo_j47) hf I_sMwidth (by show 0 ≤ x1_j47.toInt; omega) (by show x1_j47.toInt < 100; omega) fu _ _ _ I_sMo_j47 (by show 0 ≤ (0 : Int32).toInt; omega) (by show (0 : Int32).toInt ≤ 8; omega) (by show (Mo_subsets sMo_j47).toInt ≤ 8; omega) (by show (Mo_fault sMo_j47).toInt ≠ 0 ∨ x4_j47.toInt ≤ 33; omega) (by show 0 ≤ (Mo_at sMo_j47).toInt; omega) (by show (Mo_at sMo_j47).toInt ≤ (Mo_many sMo_j47).toInt; omega) (by show (Mo_many sMo_j47).toInt ≤ 40000; omega) (by show 0 ≤ (Mo_fault sMo_j47).toInt; omega) (by show (Mo_open sMo_j47).toInt = (Mo_open sMo_j47).toInt; omega) (by show (Mo_looked sMo_j47).toInt = (Mo_looked sMo_j47).toInt; omega) (by show (Mo_fields sMo_j47).toInt = (Mo_fields sMo_j47).toInt; omega) (by show (Mo_elements sMo_j47).toInt = (Mo_elements sMo_j47).toInt; omega) (by show (Mo_pointed sMo_j47).toInt = (Mo_pointed sMo_j47).toInt; omega) (by show (Mo_pointer sMo_j47).toInt = (Mo_pointer sMo_j47).toInt; omega) (by show (Mo_mode sMo_j47).toInt = (Mo_mode sMo_j47).toInt; omega) (by show (Mo_subset sMo_j47).toInt = (Mo_subset sMo_j47).toInt; omega) (by show (Mo_subsets sMo_j47).toInt = (Mo_subsets sMo_j47).toInt; omega) (by show (Mo_many sMo_j47).toInt = (Mo_many sMo_j47).toInt; omega) (KM.refl _) (by show 8 - (0 : Int32).toInt < (fu : Nat); omega)) fun q_z h_z => ?_
            obtain ⟨p_115, p_116, p_117, p_118, p_119, p_120, p_121, p_122, p_123, p_124, p_125, p_126, p_127, p_128, p_129, p_130⟩ := h_z
            exact ⟨p_115, (by show 0 ≤ (Mo_at q_z.1).toInt; omega), (by show (Mo_at q_z.1).toInt ≤ (Mo_many q_z.1).toInt; omega), (by show (Mo_many q_z.1).toInt ≤ 40000; omega), (by show 0 ≤ (Mo_fault q_z.1).toInt; omega), (by show (Mo_open q_z.1).toInt = (Mo_open sMo_j47).toInt; omega), (by show (Mo_looked q_z.1).toInt = (Mo_looked sMo_j47).toInt; omega), (by show (Mo_fields q_z.1).toInt = (Mo_fields sMo_j47).toInt; omega), (by show (Mo_elements q_z.1).toInt = (Mo_elements sMo_j47).toInt; omega), (by show (Mo_pointed q_z.1).toInt = (Mo_pointed sMo_j47).toInt; omega), (by show (Mo_pointer q_z.1).toInt = (Mo_pointer sMo_j47).toInt; omega), (by show (Mo_mode q_z.1).toInt = (Mo_mode sMo_j47).toInt; omega), (by show (Mo_subset q_z.1).toInt = (Mo_subset sMo_j47).toInt; omega), (by show (Mo_subsets q_z.1).toInt = (Mo_subsets sMo_j47).toInt; omega), (by show (Mo_many q_z.1).toInt = (Mo_many sMo_j47).toInt; omega), (KM.trans p_130 (KM.refl _))⟩
        · rw [i_eq] at c_55
          have k_131 : (2 : Int32).toInt = 2 := by decide
          unfold Mod_takeAll_j104
          have f_132 := I_Mo_at I_sMo_j47
          have f_133 := I_Mo_many I_sMo_j47
          have f_134 := I_Mo_open I_sMo_j47
          have f_135 := I_Mo_fields I_sMo_j47
          have f_136 := I_Mo_elements I_sMo_j47
          have f_137 := I_Mo_pointed I_sMo_j47
          have f_138 := I_Mo_pointer I_sMo_j47
          have f_139 := I_Mo_subset I_sMo_j47
          refine So.imp (t_Mod_takeAll_L107 (sMo_j47) hf I_sMwidth (by show 0 ≤ x1_j47.toInt; omega) (by show x1_j47.toInt < 100; omega) fu _ _ _ I_sMo_j47 (by show 0 ≤ (0 : Int32).toInt; omega) (by show (0 : Int32).toInt ≤ 8; omega) (by show (Mo_subsets sMo_j47).toInt ≤ 8; omega) (by show (Mo_fault sMo_j47).toInt ≠ 0 ∨ x4_j47.toInt ≤ 33; omega) (by show 0 ≤ (Mo_at sMo_j47).toInt; omega) (by show (Mo_at sMo_j47).toInt ≤ (Mo_many sMo_j47).toInt; omega) (by show (Mo_many sMo_j47).toInt ≤ 40000; omega) (by show 0 ≤ (Mo_fault sMo_j47).toInt; omega) (by show (Mo_open sMo_j47).toInt = (Mo_open sMo_j47).toInt; omega) (by show (Mo_looked sMo_j47).toInt = (Mo_looked sMo_j47).toInt; omega) (by show (Mo_fields sMo_j47).toInt = (Mo_fields sMo_j47).toInt; omega) (by show (Mo_elements sMo_j47).toInt = (Mo_elements sMo_j47).toInt; omega) (by show (Mo_pointed sMo_j47).toInt = (Mo_pointed sMo_j47).toInt; omega) (by show (Mo_pointer sMo_j47).toInt = (Mo_pointer sMo_j47).toInt; omega) (by show (Mo_mode sMo_j47).toInt = (Mo_mode sMo_j47).toInt; omega) (by show (Mo_subset sMo_j47).toInt = (Mo_subset sMo_j47).toInt; omega) (by show (Mo_subsets sMo_j47).toInt = (Mo_subsets sMo_j47).toInt; omega) (by show (Mo_many sMo_j47).toInt = (Mo_many sMo_j47).toInt; omega) (KM.refl _) (by show 8 - (0 : Int32).toInt < (fu : Nat); omega)) fun q_z h_z => ?_
          obtain ⟨p_140, p_141, p_142, p_143, p_144, p_145, p_146, p_147, p_148, p_149, p_150, p_151, p_152, p_153, p_154, p_155⟩ := h_z
          exact ⟨p_140, (by show 0 ≤ (Mo_at q_z.1).toInt; omega), (by show (Mo_at q_z.1).toInt ≤ (Mo_many q_z.1).toInt; omega), (by show (Mo_many q_z.1).toInt ≤ 40000; omega), (by show 0 ≤ (Mo_fault q_z.1).toInt; omega), (by show (Mo_open q_z.1).toInt = (Mo_open sMo_j47).toInt; omega), (by show (Mo_looked q_z.1).toInt = (Mo_looked sMo_j47).toInt; omega), (by show (Mo_fields q_z.1).toInt = (Mo_fields sMo_j47).toInt; omega), (by show (Mo_elements q_z.1).toInt = (Mo_elements sMo_j47).toInt; omega), (by show (Mo_pointed q_z.1).toInt = (Mo_pointed sMo_j47).toInt; omega), (by show (Mo_pointer q_z.1).toInt = (Mo_pointer sMo_j47).toInt; omega), (by show (Mo_mode q_z.1).toInt = (Mo_mode sMo_j47).toInt; omega), (by show (Mo_subset q_z.1).toInt = (Mo_subset sMo_j47).toInt; omega), (by show (Mo_subsets q_z.1).toInt = (Mo_subsets sMo_j47).toInt; omega), (by show (Mo_many q_z.1).toInt = (Mo_many sMo_j47).toInt; omega), (KM.trans p_155 (KM.refl _))⟩
      · rw [i_eq] at c_54
        refine So.ite (fun c_156 => ?_) (fun c_156 => ?_)
        · rw [i_lt] at c_156
          unfold Mod_takeAll_j97
          have k_157 : (12 : Int32).toInt = 12 := by decide
          have f_158 := I_Mo_open I_sMo_j47
          have f_159 := I_Mo_fields I_sMo_j47
          have f_160 := I_Mo_elements I_sMo_j47
          have f_161 := I_Mo_pointed I_sMo_j47
          have f_162 := I_Mo_pointer I_sMo_j47
          have f_163 := I_Mo_subset I_sMo_j47
          have f_164 := I_Mo_many I_sMo_j47
          have f_165 := I_Mo_at I_sMo_j47
          refine So.bd (t_Mod_wrongAt I_sMo_j47 (by show 0 < (12 : Int32).toInt; omega)) fun q17 h_166 => ?_
          obtain ⟨p_167, p_168, p_169, p_170, p_171, p_172, p_173, p_174, p_175, p_176, p_177, p_178, p_179, p_180⟩ := h_166
          unfold Mod_takeAll_j104
          have f_181 := I_Mo_at p_167
          have f_182 := I_Mo_many p_167
          have f_183 := I_Mo_open p_167
          have f_184 := I_Mo_fields p_167
          have f_185 := I_Mo_elements p_167
          have f_186 := I_Mo_pointed p_167
          have f_187 := I_Mo_pointer p_167
          have f_188 := I_Mo_subset p_167
          refine So.imp (t_Mod_takeAll_L107 (sMo_j47) hf I_sMwidth (by show 0 ≤ x1_j47.toInt; omega) (by show x1_j47.toInt < 100; omega) fu _ _ _ p_167 (by show 0 ≤ (0 : Int32).toInt; omega) (by show (0 : Int32).toInt ≤ 8; omega) (by show (Mo_subsets q17).toInt ≤ 8; omega) (by show (Mo_fault q17).toInt ≠ 0 ∨ x4_j47.toInt ≤ 33; omega) (by show 0 ≤ (Mo_at q17).toInt; omega) (by show (Mo_at q17).toInt ≤ (Mo_many q17).toInt; omega) (by show (Mo_many q17).toInt ≤ 40000; omega) (by show 0 ≤ (Mo_fault q17).toInt; omega) (by show (Mo_open q17).toInt = (Mo_open sMo_j47).toInt; omega) (by show (Mo_looked q17).toInt = (Mo_looked sMo_j47).toInt; omega) (by show (Mo_fields q17).toInt = (Mo_fields sMo_j47).toInt; omega) (by show (Mo_elements q17).toInt = (Mo_elements sMo_j47).toInt; omega) (by show (Mo_pointed q17).toInt = (Mo_pointed sMo_j47).toInt; omega) (by show (Mo_pointer q17).toInt = (Mo_pointer sMo_j47).toInt; omega) (by show (Mo_mode q17).toInt = (Mo_mode sMo_j47).toInt; omega) (by show (Mo_subset q17).toInt = (Mo_subset sMo_j47).toInt; omega) (by show (Mo_subsets q17).toInt = (Mo_subsets sMo_j47).toInt; omega) (by show (Mo_many q17).toInt = (Mo_many sMo_j47).toInt; omega) (KM.trans p_180 (KM.refl _)) (by show 8 - (0 : Int32).toInt < (fu : Nat); omega)) fun q_z h_z => ?_
          obtain ⟨p_189, p_190, p_191, p_192, p_193, p_194, p_195, p_196, p_197, p_198, p_199, p_200, p_201, p_202, p_203, p_204⟩ := h_z
          exact ⟨p_189, (by show 0 ≤ (Mo_at q_z.1).toInt; omega), (by show (Mo_at q_z.1).toInt ≤ (Mo_many q_z.1).toInt; omega), (by show (Mo_many q_z.1).toInt ≤ 40000; omega), (by show 0 ≤ (Mo_fault q_z.1).toInt; omega), (by show (Mo_open q_z.1).toInt = (Mo_open sMo_j47).toInt; omega), (by show (Mo_looked q_z.1).toInt = (Mo_looked sMo_j47).toInt; omega), (by show (Mo_fields q_z.1).toInt = (Mo_fields sMo_j47).toInt; omega), (by show (Mo_elements q_z.1).toInt = (Mo_elements sMo_j47).toInt; omega), (by show (Mo_pointed q_z.1).toInt = (Mo_pointed sMo_j47).toInt; omega), (by show (Mo_pointer q_z.1).toInt = (Mo_pointer sMo_j47).toInt; omega), (by show (Mo_mode q_z.1).toInt = (Mo_mode sMo_j47).toInt; omega), (by show (Mo_subset q_z.1).toInt = (Mo_subset sMo_j47).toInt; omega), (by show (Mo_subsets q_z.1).toInt = (Mo_subsets sMo_j47).toInt; omega), (by show (Mo_many q_z.1).toInt = (Mo_many sMo_j47).toInt; omega), (KM.trans p_204 (KM.refl _))⟩
        · rw [i_lt] at c_156
          unfold Mod_takeAll_j73
          refine So.gd (i_in.mpr (by omega)) ?_
          refine So.ite (fun c_205 => ?_) (fun c_205 => ?_)
          · rw [i_eq] at c_205
            have k_206 : (2 : Int32).toInt = 2 := by decide
            refine So.gd (i_in.mpr (by omega)) ?_
            refine So.bd (t_Mod_most ) fun q14 h_207 => ?_
            refine So.ite (fun c_208 => ?_) (fun c_208 => ?_)
            · unfold Mod_takeAll_j97
              have k_209 : (12 : Int32).toInt = 12 := by decide
              have f_210 := I_Mo_open I_sMo_j47
              have f_211 := I_Mo_fields I_sMo_j47
              have f_212 := I_Mo_elements I_sMo_j47
              have f_213 := I_Mo_pointed I_sMo_j47
              have f_214 := I_Mo_pointer I_sMo_j47
              have f_215 := I_Mo_subset I_sMo_j47
              have f_216 := I_Mo_many I_sMo_j47
              have f_217 := I_Mo_at I_sMo_j47
              refine So.bd (t_Mod_wrongAt I_sMo_j47 (by show 0 < (12 : Int32).toInt; omega)) fun q17 h_218 => ?_
              obtain ⟨p_219, p_220, p_221, p_222, p_223, p_224, p_225, p_226, p_227, p_228, p_229, p_230, p_231, p_232⟩ := h_218
              unfold Mod_takeAll_j104
              have f_233 := I_Mo_at p_219
              have f_234 := I_Mo_many p_219
              have f_235 := I_Mo_open p_219
              have f_236 := I_Mo_fields p_219
              have f_237 := I_Mo_elements p_219
              have f_238 := I_Mo_pointed p_219
              have f_239 := I_Mo_pointer p_219
              have f_240 := I_Mo_subset p_219
              refine So.imp (t_Mod_takeAll_L107 (sMo_j47) hf I_sMwidth (by show 0 ≤ x1_j47.toInt; omega) (by show x1_j47.toInt < 100; omega) fu _ _ _ p_219 (by show 0 ≤ (0 : Int32).toInt; omega) (by show (0 : Int32).toInt ≤ 8; omega) (by show (Mo_subsets q17).toInt ≤ 8; omega) (by show (Mo_fault q17).toInt ≠ 0 ∨ x4_j47.toInt ≤ 33; omega) (by show 0 ≤ (Mo_at q17).toInt; omega) (by show (Mo_at q17).toInt ≤ (Mo_many q17).toInt; omega) (by show (Mo_many q17).toInt ≤ 40000; omega) (by show 0 ≤ (Mo_fault q17).toInt; omega) (by show (Mo_open q17).toInt = (Mo_open sMo_j47).toInt; omega) (by show (Mo_looked q17).toInt = (Mo_looked sMo_j47).toInt; omega) (by show (Mo_fields q17).toInt = (Mo_fields sMo_j47).toInt; omega) (by show (Mo_elements q17).toInt = (Mo_elements sMo_j47).toInt; omega) (by show (Mo_pointed q17).toInt = (Mo_pointed sMo_j47).toInt; omega) (by show (Mo_pointer q17).toInt = (Mo_pointer sMo_j47).toInt; omega) (by show (Mo_mode q17).toInt = (Mo_mode sMo_j47).toInt; omega) (by show (Mo_subset q17).toInt = (Mo_subset sMo_j47).toInt; omega) (by show (Mo_subsets q17).toInt = (Mo_subsets sMo_j47).toInt; omega) (by show (Mo_many q17).toInt = (Mo_many sMo_j47).toInt; omega) (KM.trans p_232 (KM.refl _)) (by show 8 - (0 : Int32).toInt < (fu : Nat); omega)) fun q_z h_z => ?_
              obtain ⟨p_241, p_242, p_243, p_244, p_245, p_246, p_247, p_248, p_249, p_250, p_251, p_252, p_253, p_254, p_255, p_256⟩ := h_z
              exact ⟨p_241, (by show 0 ≤ (Mo_at q_z.1).toInt; omega), (by show (Mo_at q_z.1).toInt ≤ (Mo_many q_z.1).toInt; omega), (by show (Mo_many q_z.1).toInt ≤ 40000; omega), (by show 0 ≤ (Mo_fault q_z.1).toInt; omega), (by show (Mo_open q_z.1).toInt = (Mo_open sMo_j47).toInt; omega), (by show (Mo_looked q_z.1).toInt = (Mo_looked sMo_j47).toInt; omega), (by show (Mo_fields q_z.1).toInt = (Mo_fields sMo_j47).toInt; omega), (by show (Mo_elements q_z.1).toInt = (Mo_elements sMo_j47).toInt; omega), (by show (Mo_pointed q_z.1).toInt = (Mo_pointed sMo_j47).toInt; omega), (by show (Mo_pointer q_z.1).toInt = (Mo_pointer sMo_j47).toInt; omega), (by show (Mo_mode q_z.1).toInt = (Mo_mode sMo_j47).toInt; omega), (by show (Mo_subset q_z.1).toInt = (Mo_subset sMo_j47).toInt; omega), (by show (Mo_subsets q_z.1).toInt = (Mo_subsets sMo_j47).toInt; omega), (by show (Mo_many q_z.1).toInt = (Mo_many sMo_j47).toInt; omega), (KM.trans p_256 (KM.refl _))⟩
            · unfold Mod_takeAll_j104
              have f_257 := I_Mo_at I_sMo_j47
              have f_258 := I_Mo_many I_sMo_j47
              have f_259 := I_Mo_open I_sMo_j47
              have f_260 := I_Mo_fields I_sMo_j47
              have f_261 := I_Mo_elements I_sMo_j47
              have f_262 := I_Mo_pointed I_sMo_j47
              have f_263 := I_Mo_pointer I_sMo_j47
              have f_264 := I_Mo_subset I_sMo_j47
              refine So.imp (t_Mod_takeAll_L107 (sMo_j47) hf I_sMwidth (by show 0 ≤ x1_j47.toInt; omega) (by show x1_j47.toInt < 100; omega) fu _ _ _ I_sMo_j47 (by show 0 ≤ (0 : Int32).toInt; omega) (by show (0 : Int32).toInt ≤ 8; omega) (by show (Mo_subsets sMo_j47).toInt ≤ 8; omega) (by show (Mo_fault sMo_j47).toInt ≠ 0 ∨ x4_j47.toInt ≤ 33; omega) (by show 0 ≤ (Mo_at sMo_j47).toInt; omega) (by show (Mo_at sMo_j47).toInt ≤ (Mo_many sMo_j47).toInt; omega) (by show (Mo_many sMo_j47).toInt ≤ 40000; omega) (by show 0 ≤ (Mo_fault sMo_j47).toInt; omega) (by show (Mo_open sMo_j47).toInt = (Mo_open sMo_j47).toInt; omega) (by show (Mo_looked sMo_j47).toInt = (Mo_looked sMo_j47).toInt; omega) (by show (Mo_fields sMo_j47).toInt = (Mo_fields sMo_j47).toInt; omega) (by show (Mo_elements sMo_j47).toInt = (Mo_elements sMo_j47).toInt; omega) (by show (Mo_pointed sMo_j47).toInt = (Mo_pointed sMo_j47).toInt; omega) (by show (Mo_pointer sMo_j47).toInt = (Mo_pointer sMo_j47).toInt; omega) (by show (Mo_mode sMo_j47).toInt = (Mo_mode sMo_j47).toInt; omega) (by show (Mo_subset sMo_j47).toInt = (Mo_subset sMo_j47).toInt; omega) (by show (Mo_subsets sMo_j47).toInt = (Mo_subsets sMo_j47).toInt; omega) (by show (Mo_many sMo_j47).toInt = (Mo_many sMo_j47).toInt; omega) (KM.refl _) (by show 8 - (0 : Int32).toInt < (fu : Nat); omega)) fun q_z h_z => ?_
              obtain ⟨p_265, p_266, p_267, p_268, p_269, p_270, p_271, p_272, p_273, p_274, p_275, p_276, p_277, p_278, p_279, p_280⟩ := h_z
              exact ⟨p_265, (by show 0 ≤ (Mo_at q_z.1).toInt; omega), (by show (Mo_at q_z.1).toInt ≤ (Mo_many q_z.1).toInt; omega), (by show (Mo_many q_z.1).toInt ≤ 40000; omega), (by show 0 ≤ (Mo_fault q_z.1).toInt; omega), (by show (Mo_open q_z.1).toInt = (Mo_open sMo_j47).toInt; omega), (by show (Mo_looked q_z.1).toInt = (Mo_looked sMo_j47).toInt; omega), (by show (Mo_fields q_z.1).toInt = (Mo_fields sMo_j47).toInt; omega), (by show (Mo_elements q_z.1).toInt = (Mo_elements sMo_j47).toInt; omega), (by show (Mo_pointed q_z.1).toInt = (Mo_pointed sMo_j47).toInt; omega), (by show (Mo_pointer q_z.1).toInt = (Mo_pointer sMo_j47).toInt; omega), (by show (Mo_mode q_z.1).toInt = (Mo_mode sMo_j47).toInt; omega), (by show (Mo_subset q_z.1).toInt = (Mo_subset sMo_j47).toInt; omega), (by show (Mo_subsets q_z.1).toInt = (Mo_subsets sMo_j47).toInt; omega), (by show (Mo_many q_z.1).toInt = (Mo_many sMo_j47).toInt; omega), (KM.trans p_280 (KM.refl _))⟩
          · rw [i_eq] at c_205
            have k_281 : (2 : Int32).toInt = 2 := by decide
            unfold Mod_takeAll_j104
            have f_282 := I_Mo_at I_sMo_j47
            have f_283 := I_Mo_many I_sMo_j47
            have f_284 := I_Mo_open I_sMo_j47
            have f_285 := I_Mo_fields I_sMo_j47
            have f_286 := I_Mo_elements I_sMo_j47
            have f_287 := I_Mo_pointed I_sMo_j47
            have f_288 := I_Mo_pointer I_sMo_j47
            have f_289 := I_Mo_subset I_sMo_j47
            refine So.imp (t_Mod_takeAll_L107 (sMo_j47) hf I_sMwidth (by show 0 ≤ x1_j47.toInt; omega) (by show x1_j47.toInt < 100; omega) fu _ _ _ I_sMo_j47 (by show 0 ≤ (0 : Int32).toInt; omega) (by show (0 : Int32).toInt ≤ 8; omega) (by show (Mo_subsets sMo_j47).toInt ≤ 8; omega) (by show (Mo_fault sMo_j47).toInt ≠ 0 ∨ x4_j47.toInt ≤ 33; omega) (by show 0 ≤ (Mo_at sMo_j47).toInt; omega) (by show (Mo_at sMo_j47).toInt ≤ (Mo_many sMo_j47).toInt; omega) (by show (Mo_many sMo_j47).toInt ≤ 40000; omega) (by show 0 ≤ (Mo_fault sMo_j47).toInt; omega) (by show (Mo_open sMo_j47).toInt = (Mo_open sMo_j47).toInt; omega) (by show (Mo_looked sMo_j47).toInt = (Mo_looked sMo_j47).toInt; omega) (by show (Mo_fields sMo_j47).toInt = (Mo_fields sMo_j47).toInt; omega) (by show (Mo_elements sMo_j47).toInt = (Mo_elements sMo_j47).toInt; omega) (by show (Mo_pointed sMo_j47).toInt = (Mo_pointed sMo_j47).toInt; omega) (by show (Mo_pointer sMo_j47).toInt = (Mo_pointer sMo_j47).toInt; omega) (by show (Mo_mode sMo_j47).toInt = (Mo_mode sMo_j47).toInt; omega) (by show (Mo_subset sMo_j47).toInt = (Mo_subset sMo_j47).toInt; omega) (by show (Mo_subsets sMo_j47).toInt = (Mo_subsets sMo_j47).toInt; omega) (by show (Mo_many sMo_j47).toInt = (Mo_many sMo_j47).toInt; omega) (KM.refl _) (by show 8 - (0 : Int32).toInt < (fu : Nat); omega)) fun q_z h_z => ?_
            obtain ⟨p_290, p_291, p_292, p_293, p_294, p_295, p_296, p_297, p_298, p_299, p_300, p_301, p_302, p_303, p_304, p_305⟩ := h_z
            exact ⟨p_290, (by show 0 ≤ (Mo_at q_z.1).toInt; omega), (by show (Mo_at q_z.1).toInt ≤ (Mo_many q_z.1).toInt; omega), (by show (Mo_many q_z.1).toInt ≤ 40000; omega), (by show 0 ≤ (Mo_fault q_z.1).toInt; omega), (by show (Mo_open q_z.1).toInt = (Mo_open sMo_j47).toInt; omega), (by show (Mo_looked q_z.1).toInt = (Mo_looked sMo_j47).toInt; omega), (by show (Mo_fields q_z.1).toInt = (Mo_fields sMo_j47).toInt; omega), (by show (Mo_elements q_z.1).toInt = (Mo_elements sMo_j47).toInt; omega), (by show (Mo_pointed q_z.1).toInt = (Mo_pointed sMo_j47).toInt; omega), (by show (Mo_pointer q_z.1).toInt = (Mo_pointer sMo_j47).toInt; omega), (by show (Mo_mode q_z.1).toInt = (Mo_mode sMo_j47).toInt; omega), (by show (Mo_subset q_z.1).toInt = (Mo_subset sMo_j47).toInt; omega), (by show (Mo_subsets q_z.1).toInt = (Mo_subsets sMo_j47).toInt; omega), (by show (Mo_many q_z.1).toInt = (Mo_many sMo_j47).toInt; omega), (KM.trans p_305 (KM.refl _))⟩
  · rw [i_eq] at c_1
    have k_306 : (0 : Int32).toInt = 0 := by decide
    unfold Mod_takeAll_j104
    have f_307 := I_Mo_at I_sMo_j47
    have f_308 := I_Mo_many I_sMo_j47
    have f_309 := I_Mo_open I_sMo_j47
    have f_310 := I_Mo_fields I_sMo_j47
    have f_311 := I_Mo_elements I_sMo_j47
    have f_312 := I_Mo_pointed I_sMo_j47
    have f_313 := I_Mo_pointer I_sMo_j47
    have f_314 := I_Mo_subset I_sMo_j47
    refine So.imp (t_Mod_takeAll_L107 (sMo_j47) hf I_sMwidth (by show 0 ≤ x1_j47.toInt; omega) (by show x1_j47.toInt < 100; omega) fu _ _ _ I_sMo_j47 (by show 0 ≤ (0 : Int32).toInt; omega) (by show (0 : Int32).toInt ≤ 8; omega) (by show (Mo_subsets sMo_j47).toInt ≤ 8; omega) (by show (Mo_fault sMo_j47).toInt ≠ 0 ∨ x4_j47.toInt ≤ 33; omega) (by show 0 ≤ (Mo_at sMo_j47).toInt; omega) (by show (Mo_at sMo_j47).toInt ≤ (Mo_many sMo_j47).toInt; omega) (by show (Mo_many sMo_j47).toInt ≤ 40000; omega) (by show 0 ≤ (Mo_fault sMo_j47).toInt; omega) (by show (Mo_open sMo_j47).toInt = (Mo_open sMo_j47).toInt; omega) (by show (Mo_looked sMo_j47).toInt = (Mo_looked sMo_j47).toInt; omega) (by show (Mo_fields sMo_j47).toInt = (Mo_fields sMo_j47).toInt; omega) (by show (Mo_elements sMo_j47).toInt = (Mo_elements sMo_j47).toInt; omega) (by show (Mo_pointed sMo_j47).toInt = (Mo_pointed sMo_j47).toInt; omega) (by show (Mo_pointer sMo_j47).toInt = (Mo_pointer sMo_j47).toInt; omega) (by show (Mo_mode sMo_j47).toInt = (Mo_mode sMo_j47).toInt; omega) (by show (Mo_subset sMo_j47).toInt = (Mo_subset sMo_j47).toInt; omega) (by show (Mo_subsets sMo_j47).toInt = (Mo_subsets sMo_j47).toInt; omega) (by show (Mo_many sMo_j47).toInt = (Mo_many sMo_j47).toInt; omega) (KM.refl _) (by show 8 - (0 : Int32).toInt < (fu : Nat); omega)) fun q_z h_z => ?_
    obtain ⟨p_315, p_316, p_317, p_318, p_319, p_320, p_321, p_322, p_323, p_324, p_325, p_326, p_327, p_328, p_329, p_330⟩ := h_z
    exact ⟨p_315, (by show 0 ≤ (Mo_at q_z.1).toInt; omega), (by show (Mo_at q_z.1).toInt ≤ (Mo_many q_z.1).toInt; omega), (by show (Mo_many q_z.1).toInt ≤ 40000; omega), (by show 0 ≤ (Mo_fault q_z.1).toInt; omega), (by show (Mo_open q_z.1).toInt = (Mo_open sMo_j47).toInt; omega), (by show (Mo_looked q_z.1).toInt = (Mo_looked sMo_j47).toInt; omega), (by show (Mo_fields q_z.1).toInt = (Mo_fields sMo_j47).toInt; omega), (by show (Mo_elements q_z.1).toInt = (Mo_elements sMo_j47).toInt; omega), (by show (Mo_pointed q_z.1).toInt = (Mo_pointed sMo_j47).toInt; omega), (by show (Mo_pointer q_z.1).toInt = (Mo_pointer sMo_j47).toInt; omega), (by show (Mo_mode q_z.1).toInt = (Mo_mode sMo_j47).toInt; omega), (by show (Mo_subset q_z.1).toInt = (Mo_subset sMo_j47).toInt; omega), (by show (Mo_subsets q_z.1).toInt = (Mo_subsets sMo_j47).toInt; omega), (by show (Mo_many q_z.1).toInt = (Mo_many sMo_j47).toInt; omega), (KM.trans p_330 (KM.refl _))⟩
theorem t_Mod_takeAll {fu : Nat} {sMkind : (Nat → Int32)} {sMwidth : (Nat → Int32)} {sMbase : (Nat → Int64)} {sMbits : (Nat → Int32)} {a0 : Int32} {sMo : S_Mo} {sMread : (Nat → Int64)} (hf : 12000 ≤ fu) (I_sMwidth : A_Mwidth sMwidth) (I_sMo : I_Mo sMo) (g_0 : 0 ≤ a0.toInt) (g_1 : a0.toInt < 100) (g_2 : (Mo_subsets sMo).toInt ≤ 8) (g_3 : 0 ≤ (Mo_at sMo).toInt) (g_4 : (Mo_at sMo).toInt ≤ (Mo_many sMo).toInt) (g_5 : (Mo_many sMo).toInt ≤ 40000) (g_6 : 0 ≤ (Mo_fault sMo).toInt) : So (Mod_takeAll fu sMkind sMwidth sMbase sMbits a0 sMo sMread) (fun r => I_Mo r.1 ∧ (0 ≤ (Mo_at r.1).toInt) ∧ ((Mo_at r.1).toInt ≤ (Mo_many r.1).toInt) ∧ ((Mo_many r.1).toInt ≤ 40000) ∧ (0 ≤ (Mo_fault r.1).toInt) ∧ ((Mo_open r.1).toInt = (Mo_open sMo).toInt) ∧ ((Mo_looked r.1).toInt = (Mo_looked sMo).toInt) ∧ ((Mo_fields r.1).toInt = (Mo_fields sMo).toInt) ∧ ((Mo_elements r.1).toInt = (Mo_elements sMo).toInt) ∧ ((Mo_pointed r.1).toInt = (Mo_pointed sMo).toInt) ∧ ((Mo_pointer r.1).toInt = (Mo_pointer sMo).toInt) ∧ ((Mo_mode r.1).toInt = (Mo_mode sMo).toInt) ∧ ((Mo_subset r.1).toInt = (Mo_subset sMo).toInt) ∧ ((Mo_subsets r.1).toInt = (Mo_subsets sMo).toInt) ∧ ((Mo_many r.1).toInt = (Mo_many sMo).toInt) ∧ KM r.1 sMo) := by
  unfold Mod_takeAll
  refine So.gd (i_in.mpr (by omega)) ?_
  have f_1 := A_Mwidth_at I_sMwidth (a0.toNatClampNeg)
  have f_2 := I_Mo_at I_sMo
  have f_3 := I_Mo_many I_sMo
  have f_4 := I_Mo_open I_sMo
  have f_5 := I_Mo_fields I_sMo
  have f_6 := I_Mo_elements I_sMo
  have f_7 := I_Mo_pointed I_sMo
  have f_8 := I_Mo_pointer I_sMo
  have f_9 := I_Mo_subset I_sMo
  refine So.bd (t_Mod_take hf I_sMo (by show (sMwidth (a0.toNatClampNeg)).toInt ≤ 120; omega) (by show 0 ≤ (Mo_at sMo).toInt; omega) (by show (Mo_at sMo).toInt ≤ (Mo_many sMo).toInt; omega) (by show (Mo_many sMo).toInt ≤ 40000; omega) (by show 0 ≤ (Mo_fault sMo).toInt; omega)) fun q2 h_10 => ?_
  obtain ⟨p_11, p_12, p_13, p_14, p_15, p_16, p_17, p_18, p_19, p_20, p_21, p_22, p_23, p_24, p_25⟩ := h_10
  have k_26 : (6 : Int32).toInt = 6 := by decide
  have f_27 := I_Mo_at p_11
  have f_28 := I_Mo_many p_11
  have f_29 := I_Mo_open p_11
  have f_30 := I_Mo_fields p_11
  have f_31 := I_Mo_elements p_11
  have f_32 := I_Mo_pointed p_11
  have f_33 := I_Mo_pointer p_11
  have f_34 := I_Mo_subset p_11
  refine So.bd (t_Mod_take hf p_11 (by show (6 : Int32).toInt ≤ 120; omega) (by show 0 ≤ (Mo_at q2.2).toInt; omega) (by show (Mo_at q2.2).toInt ≤ (Mo_many q2.2).toInt; omega) (by show (Mo_many q2.2).toInt ≤ 40000; omega) (by show 0 ≤ (Mo_fault q2.2).toInt; omega)) fun q3 h_35 => ?_
  obtain ⟨p_36, p_37, p_38, p_39, p_40, p_41, p_42, p_43, p_44, p_45, p_46, p_47, p_48, p_49, p_50⟩ := h_35
  refine So.gd (i_in.mpr (by omega)) ?_
  refine So.ite (fun c_51 => ?_) (fun c_51 => ?_)
  · rw [i_eq] at c_51
    have k_52 : (2 : Int32).toInt = 2 := by decide
    unfold Mod_takeAll_j42
    have f_53 := I_Mo_at p_36
    have f_54 := I_Mo_many p_36
    refine So.imp (t_Mod_takeAll_j47 hf I_sMwidth p_36 (by show 0 ≤ a0.toInt; omega) (by show a0.toInt < 100; omega) (by show (Mo_subsets q3.2).toInt ≤ 8; omega) (by show 0 ≤ (Mo_at q3.2).toInt; omega) (by show (Mo_at q3.2).toInt ≤ (Mo_many q3.2).toInt; omega) (by show (Mo_many q3.2).toInt ≤ 40000; omega) (by show 0 ≤ (Mo_fault q3.2).toInt; omega)) fun q_z h_z => ?_
    obtain ⟨p_55, p_56, p_57, p_58, p_59, p_60, p_61, p_62, p_63, p_64, p_65, p_66, p_67, p_68, p_69, p_70⟩ := h_z
    exact ⟨p_55, (by show 0 ≤ (Mo_at q_z.1).toInt; omega), (by show (Mo_at q_z.1).toInt ≤ (Mo_many q_z.1).toInt; omega), (by show (Mo_many q_z.1).toInt ≤ 40000; omega), (by show 0 ≤ (Mo_fault q_z.1).toInt; omega), (by show (Mo_open q_z.1).toInt = (Mo_open sMo).toInt; omega), (by show (Mo_looked q_z.1).toInt = (Mo_looked sMo).toInt; omega), (by show (Mo_fields q_z.1).toInt = (Mo_fields sMo).toInt; omega), (by show (Mo_elements q_z.1).toInt = (Mo_elements sMo).toInt; omega), (by show (Mo_pointed q_z.1).toInt = (Mo_pointed sMo).toInt; omega), (by show (Mo_pointer q_z.1).toInt = (Mo_pointer sMo).toInt; omega), (by show (Mo_mode q_z.1).toInt = (Mo_mode sMo).toInt; omega), (by show (Mo_subset q_z.1).toInt = (Mo_subset sMo).toInt; omega), (by show (Mo_subsets q_z.1).toInt = (Mo_subsets sMo).toInt; omega), (by show (Mo_many q_z.1).toInt = (Mo_many sMo).toInt; omega), (KM.trans p_70 (KM.trans p_50 (KM.trans p_25 (KM.refl _))))⟩
  · rw [i_eq] at c_51
    have k_71 : (2 : Int32).toInt = 2 := by decide
    refine So.gd (i_in.mpr (by omega)) ?_
    refine So.ite (fun c_72 => ?_) (fun c_72 => ?_)
    · rw [i_eq] at c_72
      have k_73 : (3 : Int32).toInt = 3 := by decide
      unfold Mod_takeAll_j42
      have f_74 := I_Mo_at p_36
      have f_75 := I_Mo_many p_36
      refine So.imp (t_Mod_takeAll_j47 hf I_sMwidth p_36 (by show 0 ≤ a0.toInt; omega) (by show a0.toInt < 100; omega) (by show (Mo_subsets q3.2).toInt ≤ 8; omega) (by show 0 ≤ (Mo_at q3.2).toInt; omega) (by show (Mo_at q3.2).toInt ≤ (Mo_many q3.2).toInt; omega) (by show (Mo_many q3.2).toInt ≤ 40000; omega) (by show 0 ≤ (Mo_fault q3.2).toInt; omega)) fun q_z h_z => ?_
      obtain ⟨p_76, p_77, p_78, p_79, p_80, p_81, p_82, p_83, p_84, p_85, p_86, p_87, p_88, p_89, p_90, p_91⟩ := h_z
      exact ⟨p_76, (by show 0 ≤ (Mo_at q_z.1).toInt; omega), (by show (Mo_at q_z.1).toInt ≤ (Mo_many q_z.1).toInt; omega), (by show (Mo_many q_z.1).toInt ≤ 40000; omega), (by show 0 ≤ (Mo_fault q_z.1).toInt; omega), (by show (Mo_open q_z.1).toInt = (Mo_open sMo).toInt; omega), (by show (Mo_looked q_z.1).toInt = (Mo_looked sMo).toInt; omega), (by show (Mo_fields q_z.1).toInt = (Mo_fields sMo).toInt; omega), (by show (Mo_elements q_z.1).toInt = (Mo_elements sMo).toInt; omega), (by show (Mo_pointed q_z.1).toInt = (Mo_pointed sMo).toInt; omega), (by show (Mo_pointer q_z.1).toInt = (Mo_pointer sMo).toInt; omega), (by show (Mo_mode q_z.1).toInt = (Mo_mode sMo).toInt; omega), (by show (Mo_subset q_z.1).toInt = (Mo_subset sMo).toInt; omega), (by show (Mo_subsets q_z.1).toInt = (Mo_subsets sMo).toInt; omega), (by show (Mo_many q_z.1).toInt = (Mo_many sMo).toInt; omega), (KM.trans p_91 (KM.trans p_50 (KM.trans p_25 (KM.refl _))))⟩
    · rw [i_eq] at c_72
      have k_92 : (3 : Int32).toInt = 3 := by decide
      have f_93 := I_Mo_at p_36
      have f_94 := I_Mo_many p_36
      refine So.imp (t_Mod_takeAll_j47 hf I_sMwidth p_36 (by show 0 ≤ a0.toInt; omega) (by show a0.toInt < 100; omega) (by show (Mo_subsets q3.2).toInt ≤ 8; omega) (by show 0 ≤ (Mo_at q3.2).toInt; omega) (by show (Mo_at q3.2).toInt ≤ (Mo_many q3.2).toInt; omega) (by show (Mo_many q3.2).toInt ≤ 40000; omega) (by show 0 ≤ (Mo_fault q3.2).toInt; omega)) fun q_z h_z => ?_
      obtain ⟨p_95, p_96, p_97, p_98, p_99, p_100, p_101, p_102, p_103, p_104, p_105, p_106, p_107, p_108, p_109, p_110⟩ := h_z
      exact ⟨p_95, (by show 0 ≤ (Mo_at q_z.1).toInt; omega), (by show (Mo_at q_z.1).toInt ≤ (Mo_many q_z.1).toInt; omega), (by show (Mo_many q_z.1).toInt ≤ 40000; omega), (by show 0 ≤ (Mo_fault q_z.1).toInt; omega), (by show (Mo_open q_z.1).toInt = (Mo_open sMo).toInt; omega), (by show (Mo_looked q_z.1).toInt = (Mo_looked sMo).toInt; omega), (by show (Mo_fields q_z.1).toInt = (Mo_fields sMo).toInt; omega), (by show (Mo_elements q_z.1).toInt = (Mo_elements sMo).toInt; omega), (by show (Mo_pointed q_z.1).toInt = (Mo_pointed sMo).toInt; omega), (by show (Mo_pointer q_z.1).toInt = (Mo_pointer sMo).toInt; omega), (by show (Mo_mode q_z.1).toInt = (Mo_mode sMo).toInt; omega), (by show (Mo_subset q_z.1).toInt = (Mo_subset sMo).toInt; omega), (by show (Mo_subsets q_z.1).toInt = (Mo_subsets sMo).toInt; omega), (by show (Mo_many q_z.1).toInt = (Mo_many sMo).toInt; omega), (KM.trans p_110 (KM.trans p_50 (KM.trans p_25 (KM.refl _))))⟩

def I_Walk (s : S_Walk) : Prop := (∀ j : Nat, -80 ≤ (Walk_settings s j).toInt ∧ (Walk_settings s j).toInt ≤ 87) ∧ (∀ j : Nat, 0 ≤ (Walk_elements s j).toInt ∧ (Walk_elements s j).toInt ≤ 99) ∧ (0 ≤ (Walk_elementCount s).toInt ∧ (Walk_elementCount s).toInt ≤ 100) ∧ (∀ j : Nat, 0 ≤ (Walk_pointed s j).toInt ∧ (Walk_pointed s j).toInt ≤ 99) ∧ (0 ≤ (Walk_pointedCount s).toInt ∧ (Walk_pointedCount s).toInt ≤ 16) ∧ (0 ≤ (Walk_nextPointed s).toInt ∧ (Walk_nextPointed s).toInt ≤ 16) ∧ (0 ≤ (Walk_at s).toInt ∧ (Walk_at s).toInt ≤ 1000)
theorem I_Walk_settings {s : S_Walk} (h : I_Walk s) (j : Nat) : -80 ≤ (Walk_settings s j).toInt ∧ (Walk_settings s j).toInt ≤ 87 := h.1 j
theorem I_Walk_elements {s : S_Walk} (h : I_Walk s) (j : Nat) : 0 ≤ (Walk_elements s j).toInt ∧ (Walk_elements s j).toInt ≤ 99 := h.2.1 j
theorem I_Walk_elementCount {s : S_Walk} (h : I_Walk s) : 0 ≤ (Walk_elementCount s).toInt ∧ (Walk_elementCount s).toInt ≤ 100 := h.2.2.1
theorem I_Walk_pointed {s : S_Walk} (h : I_Walk s) (j : Nat) : 0 ≤ (Walk_pointed s j).toInt ∧ (Walk_pointed s j).toInt ≤ 99 := h.2.2.2.1 j
theorem I_Walk_pointedCount {s : S_Walk} (h : I_Walk s) : 0 ≤ (Walk_pointedCount s).toInt ∧ (Walk_pointedCount s).toInt ≤ 16 := h.2.2.2.2.1
theorem I_Walk_nextPointed {s : S_Walk} (h : I_Walk s) : 0 ≤ (Walk_nextPointed s).toInt ∧ (Walk_nextPointed s).toInt ≤ 16 := h.2.2.2.2.2.1
theorem I_Walk_at {s : S_Walk} (h : I_Walk s) : 0 ≤ (Walk_at s).toInt ∧ (Walk_at s).toInt ≤ 1000 := h.2.2.2.2.2.2
theorem I_Walk_set_fault {s : S_Walk} {v : Int32} (h : I_Walk s) : I_Walk (Walk_set_fault s v) := h
theorem I_Walk_set_place {s : S_Walk} {v : Int32} (h : I_Walk s) : I_Walk (Walk_set_place s v) := h
theorem I_Walk_set_settings {s : S_Walk} {v : Nat → Int32} (h : I_Walk s) (h0 : ∀ j : Nat, -80 ≤ (v j).toInt ∧ (v j).toInt ≤ 87) : I_Walk (Walk_set_settings s v) := ⟨h0, h.2.1, h.2.2.1, h.2.2.2.1, h.2.2.2.2.1, h.2.2.2.2.2.1, h.2.2.2.2.2.2⟩
theorem I_Walk_put_settings {s : S_Walk} {k : Nat} {v : Int32} (h : I_Walk s) (h0 : -80 ≤ v.toInt ∧ v.toInt ≤ 87) : I_Walk (Walk_put_settings s k v) := ⟨i_arp (P := fun j x => -80 ≤ x.toInt ∧ x.toInt ≤ 87) h.1 h0, h.2.1, h.2.2.1, h.2.2.2.1, h.2.2.2.2.1, h.2.2.2.2.2.1, h.2.2.2.2.2.2⟩
theorem I_Walk_set_elements {s : S_Walk} {v : Nat → Int32} (h : I_Walk s) (h0 : ∀ j : Nat, 0 ≤ (v j).toInt ∧ (v j).toInt ≤ 99) : I_Walk (Walk_set_elements s v) := ⟨h.1, h0, h.2.2.1, h.2.2.2.1, h.2.2.2.2.1, h.2.2.2.2.2.1, h.2.2.2.2.2.2⟩
theorem I_Walk_put_elements {s : S_Walk} {k : Nat} {v : Int32} (h : I_Walk s) (h0 : 0 ≤ v.toInt ∧ v.toInt ≤ 99) : I_Walk (Walk_put_elements s k v) := ⟨h.1, i_arp (P := fun j x => 0 ≤ x.toInt ∧ x.toInt ≤ 99) h.2.1 h0, h.2.2.1, h.2.2.2.1, h.2.2.2.2.1, h.2.2.2.2.2.1, h.2.2.2.2.2.2⟩
theorem I_Walk_set_elementCount {s : S_Walk} {v : Int32} (h : I_Walk s) (h0 : 0 ≤ v.toInt ∧ v.toInt ≤ 100) : I_Walk (Walk_set_elementCount s v) := ⟨h.1, h.2.1, h0, h.2.2.2.1, h.2.2.2.2.1, h.2.2.2.2.2.1, h.2.2.2.2.2.2⟩
theorem I_Walk_set_pointed {s : S_Walk} {v : Nat → Int32} (h : I_Walk s) (h0 : ∀ j : Nat, 0 ≤ (v j).toInt ∧ (v j).toInt ≤ 99) : I_Walk (Walk_set_pointed s v) := ⟨h.1, h.2.1, h.2.2.1, h0, h.2.2.2.2.1, h.2.2.2.2.2.1, h.2.2.2.2.2.2⟩
theorem I_Walk_put_pointed {s : S_Walk} {k : Nat} {v : Int32} (h : I_Walk s) (h0 : 0 ≤ v.toInt ∧ v.toInt ≤ 99) : I_Walk (Walk_put_pointed s k v) := ⟨h.1, h.2.1, h.2.2.1, i_arp (P := fun j x => 0 ≤ x.toInt ∧ x.toInt ≤ 99) h.2.2.2.1 h0, h.2.2.2.2.1, h.2.2.2.2.2.1, h.2.2.2.2.2.2⟩
theorem I_Walk_set_pointedCount {s : S_Walk} {v : Int32} (h : I_Walk s) (h0 : 0 ≤ v.toInt ∧ v.toInt ≤ 16) : I_Walk (Walk_set_pointedCount s v) := ⟨h.1, h.2.1, h.2.2.1, h.2.2.2.1, h0, h.2.2.2.2.2.1, h.2.2.2.2.2.2⟩
theorem I_Walk_set_nextPointed {s : S_Walk} {v : Int32} (h : I_Walk s) (h0 : 0 ≤ v.toInt ∧ v.toInt ≤ 16) : I_Walk (Walk_set_nextPointed s v) := ⟨h.1, h.2.1, h.2.2.1, h.2.2.2.1, h.2.2.2.2.1, h0, h.2.2.2.2.2.2⟩
theorem I_Walk_set_at {s : S_Walk} {v : Int32} (h : I_Walk s) (h0 : 0 ≤ v.toInt ∧ v.toInt ≤ 1000) : I_Walk (Walk_set_at s v) := ⟨h.1, h.2.1, h.2.2.1, h.2.2.2.1, h.2.2.2.2.1, h.2.2.2.2.2.1, h0⟩
theorem I_Walk_set_come {s : S_Walk} {v : Int32} (h : I_Walk s) : I_Walk (Walk_set_come s v) := h
theorem I_Walk_set_dueKind {s : S_Walk} {v : Int32} (h : I_Walk s) : I_Walk (Walk_set_dueKind s v) := h
theorem I_Walk_set_dueCode {s : S_Walk} {v : Int32} (h : I_Walk s) : I_Walk (Walk_set_dueCode s v) := h
theorem I_Walk_set_dueBits {s : S_Walk} {v : Int32} (h : I_Walk s) : I_Walk (Walk_set_dueBits s v) := h
theorem I_Walk_set_countedEnd {s : S_Walk} {v : Int32} (h : I_Walk s) : I_Walk (Walk_set_countedEnd s v) := h
theorem rel_give {f : S_Fld} {a0 a5 c : Int32} (hk : Fld_kinds f c.toNatClampNeg = a0) (ht : Fld_targets f c.toNatClampNeg = a5) (he : Fld_count f = c + 1) (h : a0.toInt ≠ 3 ∨ (0 ≤ a5.toInt ∧ a5.toInt ≤ 99)) : (Fld_kinds f ((Fld_count f) - 1).toNatClampNeg).toInt ≠ 3 ∨ (0 ≤ (Fld_targets f ((Fld_count f) - 1).toNatClampNeg).toInt ∧ (Fld_targets f ((Fld_count f) - 1).toNatClampNeg).toInt ≤ 99) := by
  rw [he, Int32.add_sub_cancel, hk, ht]
  exact h
theorem t_Walk_fail {a0 : Int32} {a1 : Int32} {sWalk : S_Walk} (I_sWalk : I_Walk sWalk) : So (Walk_fail a0 a1 sWalk) (fun r => I_Walk r ∧ ((Walk_dueKind r).toInt = (Walk_dueKind sWalk).toInt) ∧ ((Walk_dueCode r).toInt = (Walk_dueCode sWalk).toInt) ∧ ((Walk_dueBits r).toInt = (Walk_dueBits sWalk).toInt) ∧ ((Walk_elementCount r).toInt = (Walk_elementCount sWalk).toInt)) := by
  unfold Walk_fail
  refine So.lt2 fun sWalk_1 e_1 => ?_
  have I_2 : I_Walk sWalk_1 := by rw [e_1]; exact (I_Walk_set_fault I_sWalk)
  have f_3 : (Walk_elementCount sWalk_1).toInt = (Walk_elementCount sWalk).toInt := by subst e_1; rfl
  have f_4 : (Walk_dueKind sWalk_1).toInt = (Walk_dueKind sWalk).toInt := by subst e_1; rfl
  have f_5 : (Walk_dueCode sWalk_1).toInt = (Walk_dueCode sWalk).toInt := by subst e_1; rfl
  have f_6 : (Walk_dueBits sWalk_1).toInt = (Walk_dueBits sWalk).toInt := by subst e_1; rfl
  refine So.lt2 fun sWalk_2 e_7 => ?_
  have I_8 : I_Walk sWalk_2 := by rw [e_7]; exact (I_Walk_set_place I_2)
  have f_9 : (Walk_elementCount sWalk_2).toInt = (Walk_elementCount sWalk_1).toInt := by subst e_7; rfl
  have f_10 : (Walk_dueKind sWalk_2).toInt = (Walk_dueKind sWalk_1).toInt := by subst e_7; rfl
  have f_11 : (Walk_dueCode sWalk_2).toInt = (Walk_dueCode sWalk_1).toInt := by subst e_7; rfl
  have f_12 : (Walk_dueBits sWalk_2).toInt = (Walk_dueBits sWalk_1).toInt := by subst e_7; rfl
  exact So.one ⟨I_8, (by show (Walk_dueKind sWalk_2).toInt = (Walk_dueKind sWalk).toInt; omega), (by show (Walk_dueCode sWalk_2).toInt = (Walk_dueCode sWalk).toInt; omega), (by show (Walk_dueBits sWalk_2).toInt = (Walk_dueBits sWalk).toInt; omega), (by show (Walk_elementCount sWalk_2).toInt = (Walk_elementCount sWalk).toInt; omega)⟩
theorem t_Walk_begin {fu : Nat} {sWalk : S_Walk} {sFld : S_Fld} {sLps : S_Lps} (hf : 12000 ≤ fu) (I_sWalk : I_Walk sWalk) (I_sFld : I_Fld sFld) (I_sLps : I_Lps sLps) : So (Walk_begin fu sWalk sFld sLps) (fun r => I_Walk r.1 ∧ I_Fld r.2.1 ∧ I_Lps r.2.2 ∧ ((Walk_elementCount r.1).toInt ≤ (Fld_count r.2.1).toInt) ∧ ((Walk_dueKind r.1).toInt ≠ 3 ∨ (1 ≤ (Walk_dueBits r.1).toInt ∧ (Walk_dueBits r.1).toInt ≤ (Walk_elementCount r.1).toInt)) ∧ ((Walk_dueKind r.1).toInt < 0 ∨ 3 ≤ (Walk_dueKind r.1).toInt ∨ (0 ≤ (Walk_dueCode r.1).toInt ∧ (Walk_dueCode r.1).toInt < 64))) := by
  unfold Walk_begin
  have k_2 : (0 : Int32).toInt = 0 := by decide
  refine So.lt2 fun sFld_1 e_1 => ?_
  have I_3 : I_Fld sFld_1 := by rw [e_1]; exact (I_Fld_set_count I_sFld (by show 0 ≤ (0 : Int32).toInt ∧ (0 : Int32).toInt ≤ 100; omega))
  have f_4 : (Fld_count sFld_1).toInt = (0 : Int32).toInt := by subst e_1; rfl
  refine So.lt2 fun sWalk_2 e_5 => ?_
  have I_6 : I_Walk sWalk_2 := by rw [e_5]; exact (I_Walk_set_fault I_sWalk)
  have f_7 : (Walk_elementCount sWalk_2).toInt = (Walk_elementCount sWalk).toInt := by subst e_5; rfl
  have f_8 : (Walk_dueKind sWalk_2).toInt = (Walk_dueKind sWalk).toInt := by subst e_5; rfl
  have f_9 : (Walk_dueCode sWalk_2).toInt = (Walk_dueCode sWalk).toInt := by subst e_5; rfl
  have f_10 : (Walk_dueBits sWalk_2).toInt = (Walk_dueBits sWalk).toInt := by subst e_5; rfl
  refine So.lt2 fun sWalk_3 e_11 => ?_
  have I_12 : I_Walk sWalk_3 := by rw [e_11]; exact (I_Walk_set_place I_6)
  have k_13 : ((-1) : Int32).toInt = -1 := by decide
  have f_14 : (Walk_elementCount sWalk_3).toInt = (Walk_elementCount sWalk_2).toInt := by subst e_11; rfl
  have f_15 : (Walk_dueKind sWalk_3).toInt = (Walk_dueKind sWalk_2).toInt := by subst e_11; rfl
  have f_16 : (Walk_dueCode sWalk_3).toInt = (Walk_dueCode sWalk_2).toInt := by subst e_11; rfl
  have f_17 : (Walk_dueBits sWalk_3).toInt = (Walk_dueBits sWalk_2).toInt := by subst e_11; rfl
  refine So.bd (t_Lps_leaveAll I_sLps) fun q4 h_18 => ?_
  have p_19 := h_18
  refine So.bd (t_fillI (fun j x => -80 ≤ x.toInt ∧ x.toInt ≤ 87) (by omega) hf (I_Walk_settings I_12) (fun j => by show -80 ≤ (0 : Int32).toInt ∧ (0 : Int32).toInt ≤ 87; omega)) fun q5 h_20 => ?_
  refine So.lt2 fun sWalk_6 e_21 => ?_
  have I_22 : I_Walk sWalk_6 := by rw [e_21]; exact (I_Walk_set_elementCount (I_Walk_set_settings I_12 h_20) (by show 0 ≤ (0 : Int32).toInt ∧ (0 : Int32).toInt ≤ 100; omega))
  have f_23 : (Walk_elementCount sWalk_6).toInt = (0 : Int32).toInt := by subst e_21; rfl
  have f_24 : (Walk_dueKind sWalk_6).toInt = (Walk_dueKind (Walk_set_settings sWalk_3 q5)).toInt := by subst e_21; rfl
  have f_25 : (Walk_dueCode sWalk_6).toInt = (Walk_dueCode (Walk_set_settings sWalk_3 q5)).toInt := by subst e_21; rfl
  have f_26 : (Walk_dueBits sWalk_6).toInt = (Walk_dueBits (Walk_set_settings sWalk_3 q5)).toInt := by subst e_21; rfl
  refine So.lt2 fun sWalk_7 e_27 => ?_
  have I_28 : I_Walk sWalk_7 := by rw [e_27]; exact (I_Walk_set_pointedCount I_22 (by show 0 ≤ (0 : Int32).toInt ∧ (0 : Int32).toInt ≤ 16; omega))
  have f_29 : (Walk_elementCount sWalk_7).toInt = (Walk_elementCount sWalk_6).toInt := by subst e_27; rfl
  have f_30 : (Walk_dueKind sWalk_7).toInt = (Walk_dueKind sWalk_6).toInt := by subst e_27; rfl
  have f_31 : (Walk_dueCode sWalk_7).toInt = (Walk_dueCode sWalk_6).toInt := by subst e_27; rfl
  have f_32 : (Walk_dueBits sWalk_7).toInt = (Walk_dueBits sWalk_6).toInt := by subst e_27; rfl
  refine So.lt2 fun sWalk_8 e_33 => ?_
  have I_34 : I_Walk sWalk_8 := by rw [e_33]; exact (I_Walk_set_nextPointed I_28 (by show 0 ≤ (0 : Int32).toInt ∧ (0 : Int32).toInt ≤ 16; omega))
  have f_35 : (Walk_elementCount sWalk_8).toInt = (Walk_elementCount sWalk_7).toInt := by subst e_33; rfl
  have f_36 : (Walk_dueKind sWalk_8).toInt = (Walk_dueKind sWalk_7).toInt := by subst e_33; rfl
  have f_37 : (Walk_dueCode sWalk_8).toInt = (Walk_dueCode sWalk_7).toInt := by subst e_33; rfl
  have f_38 : (Walk_dueBits sWalk_8).toInt = (Walk_dueBits sWalk_7).toInt := by subst e_33; rfl
  refine So.lt2 fun sWalk_9 e_39 => ?_
  have I_40 : I_Walk sWalk_9 := by rw [e_39]; exact (I_Walk_set_at I_34 (by show 0 ≤ (0 : Int32).toInt ∧ (0 : Int32).toInt ≤ 1000; omega))
  have f_41 : (Walk_elementCount sWalk_9).toInt = (Walk_elementCount sWalk_8).toInt := by subst e_39; rfl
  have f_42 : (Walk_dueKind sWalk_9).toInt = (Walk_dueKind sWalk_8).toInt := by subst e_39; rfl
  have f_43 : (Walk_dueCode sWalk_9).toInt = (Walk_dueCode sWalk_8).toInt := by subst e_39; rfl
  have f_44 : (Walk_dueBits sWalk_9).toInt = (Walk_dueBits sWalk_8).toInt := by subst e_39; rfl
  refine So.lt2 fun sWalk_10 e_45 => ?_
  have I_46 : I_Walk sWalk_10 := by rw [e_45]; exact (I_Walk_set_come I_40)
  have f_47 : (Walk_elementCount sWalk_10).toInt = (Walk_elementCount sWalk_9).toInt := by subst e_45; rfl
  have f_48 : (Walk_dueKind sWalk_10).toInt = (Walk_dueKind sWalk_9).toInt := by subst e_45; rfl
  have f_49 : (Walk_dueCode sWalk_10).toInt = (Walk_dueCode sWalk_9).toInt := by subst e_45; rfl
  have f_50 : (Walk_dueBits sWalk_10).toInt = (Walk_dueBits sWalk_9).toInt := by subst e_45; rfl
  refine So.lt2 fun sWalk_11 e_51 => ?_
  have I_52 : I_Walk sWalk_11 := by rw [e_51]; exact (I_Walk_set_dueKind I_46)
  have f_53 : (Walk_elementCount sWalk_11).toInt = (Walk_elementCount sWalk_10).toInt := by subst e_51; rfl
  have f_54 : (Walk_dueKind sWalk_11).toInt = ((-1) : Int32).toInt := by subst e_51; rfl
  have f_55 : (Walk_dueCode sWalk_11).toInt = (Walk_dueCode sWalk_10).toInt := by subst e_51; rfl
  have f_56 : (Walk_dueBits sWalk_11).toInt = (Walk_dueBits sWalk_10).toInt := by subst e_51; rfl
  refine So.lt2 fun sWalk_12 e_57 => ?_
  have I_58 : I_Walk sWalk_12 := by rw [e_57]; exact (I_Walk_set_dueCode I_52)
  have f_59 : (Walk_elementCount sWalk_12).toInt = (Walk_elementCount sWalk_11).toInt := by subst e_57; rfl
  have f_60 : (Walk_dueKind sWalk_12).toInt = (Walk_dueKind sWalk_11).toInt := by subst e_57; rfl
  have f_61 : (Walk_dueCode sWalk_12).toInt = ((-1) : Int32).toInt := by subst e_57; rfl
  have f_62 : (Walk_dueBits sWalk_12).toInt = (Walk_dueBits sWalk_11).toInt := by subst e_57; rfl
  refine So.lt2 fun sWalk_13 e_63 => ?_
  have I_64 : I_Walk sWalk_13 := by rw [e_63]; exact (I_Walk_set_dueBits I_58)
  have f_65 : (Walk_elementCount sWalk_13).toInt = (Walk_elementCount sWalk_12).toInt := by subst e_63; rfl
  have f_66 : (Walk_dueKind sWalk_13).toInt = (Walk_dueKind sWalk_12).toInt := by subst e_63; rfl
  have f_67 : (Walk_dueCode sWalk_13).toInt = (Walk_dueCode sWalk_12).toInt := by subst e_63; rfl
  have f_68 : (Walk_dueBits sWalk_13).toInt = (0 : Int32).toInt := by subst e_63; rfl
  refine So.lt2 fun sWalk_14 e_69 => ?_
  have I_70 : I_Walk sWalk_14 := by rw [e_69]; exact (I_Walk_set_countedEnd I_64)
  have f_71 : (Walk_elementCount sWalk_14).toInt = (Walk_elementCount sWalk_13).toInt := by subst e_69; rfl
  have f_72 : (Walk_dueKind sWalk_14).toInt = (Walk_dueKind sWalk_13).toInt := by subst e_69; rfl
  have f_73 : (Walk_dueCode sWalk_14).toInt = (Walk_dueCode sWalk_13).toInt := by subst e_69; rfl
  have f_74 : (Walk_dueBits sWalk_14).toInt = (Walk_dueBits sWalk_13).toInt := by subst e_69; rfl
  exact So.one ⟨I_70, I_3, p_19, (by show (Walk_elementCount sWalk_14).toInt ≤ (Fld_count sFld_1).toInt; omega), (by show (Walk_dueKind sWalk_14).toInt ≠ 3 ∨ (1 ≤ (Walk_dueBits sWalk_14).toInt ∧ (Walk_dueBits sWalk_14).toInt ≤ (Walk_elementCount sWalk_14).toInt); omega), (by show (Walk_dueKind sWalk_14).toInt < 0 ∨ 3 ≤ (Walk_dueKind sWalk_14).toInt ∨ (0 ≤ (Walk_dueCode sWalk_14).toInt ∧ (Walk_dueCode sWalk_14).toInt < 64); omega)⟩
theorem t_Walk_give {sLps : S_Lps} {a0 : Int32} {a1 : Int32} {a2 : Int32} {a3 : Int32} {a4 : Int64} {a5 : Int32} {sWalk : S_Walk} {sFld : S_Fld} (I_sLps : I_Lps sLps) (I_sWalk : I_Walk sWalk) (I_sFld : I_Fld sFld) (g_0 : (Walk_elementCount sWalk).toInt ≤ (Fld_count sFld).toInt) (g_1 : -100 ≤ a2.toInt) (g_2 : a2.toInt ≤ 120) (g_3 : -1 ≤ a5.toInt) (g_4 : a5.toInt ≤ 101) (g_5 : a0.toInt ≠ 3 ∨ (0 ≤ a5.toInt ∧ a5.toInt ≤ 99)) : So (Walk_give sLps a0 a1 a2 a3 a4 a5 sWalk sFld) (fun r => I_Walk r.1 ∧ I_Fld r.2 ∧ ((Walk_dueKind r.1).toInt = (Walk_dueKind sWalk).toInt) ∧ ((Walk_dueCode r.1).toInt = (Walk_dueCode sWalk).toInt) ∧ ((Walk_dueBits r.1).toInt = (Walk_dueBits sWalk).toInt) ∧ ((Walk_elementCount r.1).toInt ≤ (Fld_count r.2).toInt) ∧ ((Walk_elementCount sWalk).toInt ≤ (Walk_elementCount r.1).toInt) ∧ ((Fld_count r.2).toInt = (Fld_count sFld).toInt ∨ ((Fld_kinds r.2 ((Fld_count r.2) - 1).toNatClampNeg).toInt ≠ 3 ∨ (0 ≤ (Fld_targets r.2 ((Fld_count r.2) - 1).toNatClampNeg).toInt ∧ (Fld_targets r.2 ((Fld_count r.2) - 1).toNatClampNeg).toInt ≤ 99)))) := by
  unfold Walk_give
  refine So.ite (fun c_1 => ?_) (fun c_1 => ?_)
  · rw [i_lt] at c_1
    have f_2 := I_Fld_count I_sFld
    have k_3 : (100 : Int32).toInt = 100 := by decide
    refine So.gd (i_in.mpr (by omega)) ?_
    refine So.lt2 fun sFld_2 e_4 => ?_
    have I_5 : I_Fld sFld_2 := by rw [e_4]; exact (I_Fld_put_kinds I_sFld)
    have f_6 : (Fld_count sFld_2).toInt = (Fld_count sFld).toInt := by subst e_4; rfl
    refine So.gd (i_in.mpr (by omega)) ?_
    refine So.lt2 fun sFld_4 e_7 => ?_
    have I_8 : I_Fld sFld_4 := by rw [e_7]; exact (I_Fld_put_codes I_5)
    have f_9 : (Fld_count sFld_4).toInt = (Fld_count sFld_2).toInt := by subst e_7; rfl
    refine So.gd (i_in.mpr (by omega)) ?_
    refine So.lt2 fun sFld_6 e_10 => ?_
    have I_11 : I_Fld sFld_6 := by rw [e_10]; exact (I_Fld_put_widths I_8 (by show -100 ≤ (a2 : Int32).toInt ∧ (a2 : Int32).toInt ≤ 120; omega))
    have f_12 : (Fld_count sFld_6).toInt = (Fld_count sFld_4).toInt := by subst e_10; rfl
    refine So.gd (i_in.mpr (by omega)) ?_
    refine So.lt2 fun sFld_8 e_13 => ?_
    have I_14 : I_Fld sFld_8 := by rw [e_13]; exact (I_Fld_put_scales I_11)
    have f_15 : (Fld_count sFld_8).toInt = (Fld_count sFld_6).toInt := by subst e_13; rfl
    refine So.gd (i_in.mpr (by omega)) ?_
    refine So.lt2 fun sFld_10 e_16 => ?_
    have I_17 : I_Fld sFld_10 := by rw [e_16]; exact (I_Fld_put_references I_14)
    have f_18 : (Fld_count sFld_10).toInt = (Fld_count sFld_8).toInt := by subst e_16; rfl
    refine So.gd (i_in.mpr (by omega)) ?_
    refine So.lt2 fun sFld_12 e_19 => ?_
    have I_20 : I_Fld sFld_12 := by rw [e_19]; exact (I_Fld_put_targets I_17 (by show -1 ≤ (a5 : Int32).toInt ∧ (a5 : Int32).toInt ≤ 101; omega))
    have f_21 : (Fld_count sFld_12).toInt = (Fld_count sFld_10).toInt := by subst e_19; rfl
    refine So.bd (t_Lps_repetition I_sLps) fun q13 h_22 => ?_
    refine So.gd (i_in.mpr (by omega)) ?_
    refine So.lt2 fun sFld_15 e_23 => ?_
    have I_24 : I_Fld sFld_15 := by rw [e_23]; exact (I_Fld_put_repetitions I_20)
    have f_25 : (Fld_count sFld_15).toInt = (Fld_count sFld_12).toInt := by subst e_23; rfl
    have f_27 := I_Fld_count I_24
    have k_28 : (1 : Int32).toInt = 1 := by decide
    first | have f_29 := i_add (a := (Fld_count sFld_15)) (b := 1) (by omega) (by omega) | have f_29 := i_addm (Fld_count sFld_15) 1
    refine So.lt2 fun sFld_16 e_26 => ?_
    have I_30 : I_Fld sFld_16 := by rw [e_26]; exact (I_Fld_set_count I_24 (by show 0 ≤ (((Fld_count sFld_15) + 1) : Int32).toInt ∧ (((Fld_count sFld_15) + 1) : Int32).toInt ≤ 100; omega))
    have f_31 : (Fld_count sFld_16).toInt = (((Fld_count sFld_15) + 1) : Int32).toInt := by subst e_26; rfl
    refine So.ite (fun c_32 => ?_) (fun c_32 => ?_)
    · rw [i_eq] at c_32
      have k_33 : (0 : Int32).toInt = 0 := by decide
      have f_34 := I_Walk_elementCount I_sWalk
      refine So.gd (i_in.mpr (by omega)) ?_
      refine So.lt2 fun sWalk_18 e_35 => ?_
      have I_36 : I_Walk sWalk_18 := by rw [e_35]; exact (I_Walk_put_elements I_sWalk (by show 0 ≤ ((Fld_count sFld) : Int32).toInt ∧ ((Fld_count sFld) : Int32).toInt ≤ 99; omega))
      have f_37 : (Walk_elementCount sWalk_18).toInt = (Walk_elementCount sWalk).toInt := by subst e_35; rfl
      have f_38 : (Walk_dueKind sWalk_18).toInt = (Walk_dueKind sWalk).toInt := by subst e_35; rfl
      have f_39 : (Walk_dueCode sWalk_18).toInt = (Walk_dueCode sWalk).toInt := by subst e_35; rfl
      have f_40 : (Walk_dueBits sWalk_18).toInt = (Walk_dueBits sWalk).toInt := by subst e_35; rfl
      have f_42 := I_Walk_elementCount I_36
      first | have f_43 := i_add (a := (Walk_elementCount sWalk_18)) (b := 1) (by omega) (by omega) | have f_43 := i_addm (Walk_elementCount sWalk_18) 1
      refine So.lt2 fun sWalk_19 e_41 => ?_
      have I_44 : I_Walk sWalk_19 := by rw [e_41]; exact (I_Walk_set_elementCount I_36 (by show 0 ≤ (((Walk_elementCount sWalk_18) + 1) : Int32).toInt ∧ (((Walk_elementCount sWalk_18) + 1) : Int32).toInt ≤ 100; omega))
      have f_45 : (Walk_elementCount sWalk_19).toInt = (((Walk_elementCount sWalk_18) + 1) : Int32).toInt := by subst e_41; rfl
      have f_46 : (Walk_dueKind sWalk_19).toInt = (Walk_dueKind sWalk_18).toInt := by subst e_41; rfl
      have f_47 : (Walk_dueCode sWalk_19).toInt = (Walk_dueCode sWalk_18).toInt := by subst e_41; rfl
      have f_48 : (Walk_dueBits sWalk_19).toInt = (Walk_dueBits sWalk_18).toInt := by subst e_41; rfl
      exact So.one ⟨I_44, I_30, (by show (Walk_dueKind sWalk_19).toInt = (Walk_dueKind sWalk).toInt; omega), (by show (Walk_dueCode sWalk_19).toInt = (Walk_dueCode sWalk).toInt; omega), (by show (Walk_dueBits sWalk_19).toInt = (Walk_dueBits sWalk).toInt; omega), (by show (Walk_elementCount sWalk_19).toInt ≤ (Fld_count sFld_16).toInt; omega), (by show (Walk_elementCount sWalk).toInt ≤ (Walk_elementCount sWalk_19).toInt; omega), (by first | (show (Fld_count sFld_16).toInt = (Fld_count sFld).toInt ∨ ((Fld_kinds sFld_16 ((Fld_count sFld_16) - 1).toNatClampNeg).toInt ≠ 3 ∨ (0 ≤ (Fld_targets sFld_16 ((Fld_count sFld_16) - 1).toNatClampNeg).toInt ∧ (Fld_targets sFld_16 ((Fld_count sFld_16) - 1).toNatClampNeg).toInt ≤ 99)); omega) | (refine Or.inr ?_; subst_vars; exact rel_give (c := Fld_count sFld) (if_pos rfl) (if_pos rfl) rfl (by omega)))⟩
    · rw [i_eq] at c_32
      have k_49 : (0 : Int32).toInt = 0 := by decide
      exact So.one ⟨I_sWalk, I_30, (by show (Walk_dueKind sWalk).toInt = (Walk_dueKind sWalk).toInt; omega), (by show (Walk_dueCode sWalk).toInt = (Walk_dueCode sWalk).toInt; omega), (by show (Walk_dueBits sWalk).toInt = (Walk_dueBits sWalk).toInt; omega), (by show (Walk_elementCount sWalk).toInt ≤ (Fld_count sFld_16).toInt; omega), (by show (Walk_elementCount sWalk).toInt ≤ (Walk_elementCount sWalk).toInt; omega), (by first | (show (Fld_count sFld_16).toInt = (Fld_count sFld).toInt ∨ ((Fld_kinds sFld_16 ((Fld_count sFld_16) - 1).toNatClampNeg).toInt ≠ 3 ∨ (0 ≤ (Fld_targets sFld_16 ((Fld_count sFld_16) - 1).toNatClampNeg).toInt ∧ (Fld_targets sFld_16 ((Fld_count sFld_16) - 1).toNatClampNeg).toInt ≤ 99)); omega) | (refine Or.inr ?_; subst_vars; exact rel_give (c := Fld_count sFld) (if_pos rfl) (if_pos rfl) rfl (by omega)))⟩
  · rw [i_lt] at c_1
    have f_50 := I_Fld_count I_sFld
    have k_51 : (100 : Int32).toInt = 100 := by decide
    have f_52 := I_Walk_elementCount I_sWalk
    refine So.bd (t_Walk_fail I_sWalk) fun q21 h_53 => ?_
    obtain ⟨p_54, p_55, p_56, p_57, p_58⟩ := h_53
    exact So.one ⟨p_54, I_sFld, (by show (Walk_dueKind q21).toInt = (Walk_dueKind sWalk).toInt; omega), (by show (Walk_dueCode q21).toInt = (Walk_dueCode sWalk).toInt; omega), (by show (Walk_dueBits q21).toInt = (Walk_dueBits sWalk).toInt; omega), (by show (Walk_elementCount q21).toInt ≤ (Fld_count sFld).toInt; omega), (by show (Walk_elementCount sWalk).toInt ≤ (Walk_elementCount q21).toInt; omega), (by first | (show (Fld_count sFld).toInt = (Fld_count sFld).toInt ∨ ((Fld_kinds sFld ((Fld_count sFld) - 1).toNatClampNeg).toInt ≠ 3 ∨ (0 ≤ (Fld_targets sFld ((Fld_count sFld) - 1).toNatClampNeg).toInt ∧ (Fld_targets sFld ((Fld_count sFld) - 1).toNatClampNeg).toInt ≤ 99)); omega) | (refine Or.inr ?_; subst_vars; exact rel_give (c := Fld_count sFld) (if_pos rfl) (if_pos rfl) rfl (by omega)))⟩
theorem t_Walk_giveMark {sLps : S_Lps} {sWalk : S_Walk} {sFld : S_Fld} (I_sLps : I_Lps sLps) (I_sWalk : I_Walk sWalk) (I_sFld : I_Fld sFld) (g_0 : (Walk_elementCount sWalk).toInt ≤ (Fld_count sFld).toInt) (g_1 : (Walk_dueKind sWalk).toInt ≠ 3 ∨ (1 ≤ (Walk_dueBits sWalk).toInt ∧ (Walk_dueBits sWalk).toInt ≤ (Walk_elementCount sWalk).toInt)) (g_2 : (Walk_dueKind sWalk).toInt < 0 ∨ 3 ≤ (Walk_dueKind sWalk).toInt ∨ (0 ≤ (Walk_dueCode sWalk).toInt ∧ (Walk_dueCode sWalk).toInt < 64)) : So (Walk_giveMark sLps sWalk sFld) (fun r => I_Walk r.1 ∧ I_Fld r.2 ∧ ((Walk_elementCount r.1).toInt ≤ (Fld_count r.2).toInt) ∧ ((Walk_dueKind r.1).toInt ≠ 3 ∨ (1 ≤ (Walk_dueBits r.1).toInt ∧ (Walk_dueBits r.1).toInt ≤ (Walk_elementCount r.1).toInt)) ∧ ((Walk_dueKind r.1).toInt < 0 ∨ 3 ≤ (Walk_dueKind r.1).toInt ∨ (0 ≤ (Walk_dueCode r.1).toInt ∧ (Walk_dueCode r.1).toInt < 64)) ∧ ((Fld_count r.2).toInt = (Fld_count sFld).toInt ∨ ((Fld_kinds r.2 ((Fld_count r.2) - 1).toNatClampNeg).toInt ≠ 3 ∨ (0 ≤ (Fld_targets r.2 ((Fld_count r.2) - 1).toNatClampNeg).toInt ∧ (Fld_targets r.2 ((Fld_count r.2) - 1).toNatClampNeg).toInt ≤ 99)))) := by
  unfold Walk_giveMark
  refine So.lt2 fun sWalk_1 e_1 => ?_
  have I_2 : I_Walk sWalk_1 := by rw [e_1]; exact (I_Walk_set_dueKind I_sWalk)
  have k_3 : ((-1) : Int32).toInt = -1 := by decide
  have f_4 : (Walk_elementCount sWalk_1).toInt = (Walk_elementCount sWalk).toInt := by subst e_1; rfl
  have f_5 : (Walk_pointedCount sWalk_1).toInt = (Walk_pointedCount sWalk).toInt := by subst e_1; rfl
  have f_6 : (Walk_nextPointed sWalk_1).toInt = (Walk_nextPointed sWalk).toInt := by subst e_1; rfl
  have f_7 : (Walk_dueKind sWalk_1).toInt = ((-1) : Int32).toInt := by subst e_1; rfl
  have f_8 : (Walk_dueCode sWalk_1).toInt = (Walk_dueCode sWalk).toInt := by subst e_1; rfl
  have f_9 : (Walk_dueBits sWalk_1).toInt = (Walk_dueBits sWalk).toInt := by subst e_1; rfl
  refine So.ite (fun c_10 => ?_) (fun c_10 => ?_)
  · rw [i_lt] at c_10
    have f_11 := I_Walk_nextPointed I_2
    have f_12 := I_Walk_pointedCount I_2
    refine So.gd (i_in.mpr (by omega)) ?_
    refine So.lt2 fun u3 e_13 => ?_
    have f_14 : (Walk_pointed sWalk_1 ((Walk_nextPointed sWalk_1).toNatClampNeg)).toInt = (Walk_pointed sWalk ((Walk_nextPointed sWalk_1).toNatClampNeg)).toInt := by subst e_1; rfl
    have f_15 := I_Walk_pointed I_sWalk ((Walk_nextPointed sWalk_1).toNatClampNeg)
    have f_16 := I_Walk_pointed I_2 ((Walk_nextPointed sWalk_1).toNatClampNeg)
    have f_17 : u3.toInt = (Walk_pointed sWalk_1 ((Walk_nextPointed sWalk_1).toNatClampNeg)).toInt := by rw [e_13]
    have k_19 : (1 : Int32).toInt = 1 := by decide
    first | have f_20 := i_add (a := (Walk_nextPointed sWalk_1)) (b := 1) (by omega) (by omega) | have f_20 := i_addm (Walk_nextPointed sWalk_1) 1
    refine So.lt2 fun sWalk_4 e_18 => ?_
    have I_21 : I_Walk sWalk_4 := by rw [e_18]; exact (I_Walk_set_nextPointed I_2 (by show 0 ≤ (((Walk_nextPointed sWalk_1) + 1) : Int32).toInt ∧ (((Walk_nextPointed sWalk_1) + 1) : Int32).toInt ≤ 16; omega))
    have f_22 : (Walk_elementCount sWalk_4).toInt = (Walk_elementCount sWalk_1).toInt := by subst e_18; rfl
    have f_23 : (Walk_pointedCount sWalk_4).toInt = (Walk_pointedCount sWalk_1).toInt := by subst e_18; rfl
    have f_24 : (Walk_nextPointed sWalk_4).toInt = (((Walk_nextPointed sWalk_1) + 1) : Int32).toInt := by subst e_18; rfl
    have f_25 : (Walk_dueKind sWalk_4).toInt = (Walk_dueKind sWalk_1).toInt := by subst e_18; rfl
    have f_26 : (Walk_dueCode sWalk_4).toInt = (Walk_dueCode sWalk_1).toInt := by subst e_18; rfl
    have f_27 : (Walk_dueBits sWalk_4).toInt = (Walk_dueBits sWalk_1).toInt := by subst e_18; rfl
    refine So.gd (i_in.mpr (by omega)) ?_
    refine So.gd (i_in.mpr (by omega)) ?_
    refine So.gd (i_in.mpr (by omega)) ?_
    refine So.gd (i_in.mpr (by omega)) ?_
    have f_28 := I_Walk_elementCount I_21
    have f_29 := I_Fld_count I_sFld
    have f_30 := I_Fld_widths I_sFld (u3.toNatClampNeg)
    have k_31 : (4 : Int32).toInt = 4 := by decide
    refine So.bd (t_Walk_give I_sLps I_21 I_sFld (by show (Walk_elementCount sWalk_4).toInt ≤ (Fld_count sFld).toInt; omega) (by show -100 ≤ (Fld_widths sFld (u3.toNatClampNeg)).toInt; omega) (by show (Fld_widths sFld (u3.toNatClampNeg)).toInt ≤ 120; omega) (by show -1 ≤ u3.toInt; omega) (by show u3.toInt ≤ 101; omega) (by show (4 : Int32).toInt ≠ 3 ∨ (0 ≤ u3.toInt ∧ u3.toInt ≤ 99); omega)) fun q9 h_32 => ?_
    obtain ⟨p_33, p_34, p_35, p_36, p_37, p_38, p_39, p_40⟩ := h_32
    exact So.one ⟨p_33, p_34, (by show (Walk_elementCount q9.1).toInt ≤ (Fld_count q9.2).toInt; omega), (by show (Walk_dueKind q9.1).toInt ≠ 3 ∨ (1 ≤ (Walk_dueBits q9.1).toInt ∧ (Walk_dueBits q9.1).toInt ≤ (Walk_elementCount q9.1).toInt); omega), (by show (Walk_dueKind q9.1).toInt < 0 ∨ 3 ≤ (Walk_dueKind q9.1).toInt ∨ (0 ≤ (Walk_dueCode q9.1).toInt ∧ (Walk_dueCode q9.1).toInt < 64); omega), (by show (Fld_count q9.2).toInt = (Fld_count sFld).toInt ∨ ((Fld_kinds q9.2 ((Fld_count q9.2) - 1).toNatClampNeg).toInt ≠ 3 ∨ (0 ≤ (Fld_targets q9.2 ((Fld_count q9.2) - 1).toNatClampNeg).toInt ∧ (Fld_targets q9.2 ((Fld_count q9.2) - 1).toNatClampNeg).toInt ≤ 99)); omega)⟩
  · rw [i_lt] at c_10
    have f_41 := I_Walk_nextPointed I_2
    have f_42 := I_Walk_pointedCount I_2
    have f_43 := I_Walk_elementCount I_2
    refine So.bd (t_Walk_fail I_2) fun q10 h_44 => ?_
    obtain ⟨p_45, p_46, p_47, p_48, p_49⟩ := h_44
    exact So.one ⟨p_45, I_sFld, (by show (Walk_elementCount q10).toInt ≤ (Fld_count sFld).toInt; omega), (by show (Walk_dueKind q10).toInt ≠ 3 ∨ (1 ≤ (Walk_dueBits q10).toInt ∧ (Walk_dueBits q10).toInt ≤ (Walk_elementCount q10).toInt); omega), (by show (Walk_dueKind q10).toInt < 0 ∨ 3 ≤ (Walk_dueKind q10).toInt ∨ (0 ≤ (Walk_dueCode q10).toInt ∧ (Walk_dueCode q10).toInt < 64); omega), (by show (Fld_count sFld).toInt = (Fld_count sFld).toInt ∨ ((Fld_kinds sFld ((Fld_count sFld) - 1).toNatClampNeg).toInt ≠ 3 ∨ (0 ≤ (Fld_targets sFld ((Fld_count sFld) - 1).toNatClampNeg).toInt ∧ (Fld_targets sFld ((Fld_count sFld) - 1).toNatClampNeg).toInt ≤ 99)); omega)⟩
theorem t_Walk_giveBit {sLps : S_Lps} {sWalk : S_Walk} {sFld : S_Fld} (I_sLps : I_Lps sLps) (I_sWalk : I_Walk sWalk) (I_sFld : I_Fld sFld) (g_0 : (Walk_elementCount sWalk).toInt ≤ (Fld_count sFld).toInt) (g_1 : (Walk_dueKind sWalk).toInt ≠ 3 ∨ (1 ≤ (Walk_dueBits sWalk).toInt ∧ (Walk_dueBits sWalk).toInt ≤ (Walk_elementCount sWalk).toInt)) (g_2 : (Walk_dueKind sWalk).toInt < 0 ∨ 3 ≤ (Walk_dueKind sWalk).toInt ∨ (0 ≤ (Walk_dueCode sWalk).toInt ∧ (Walk_dueCode sWalk).toInt < 64)) (g_3 : (Walk_dueKind sWalk).toInt = 3) : So (Walk_giveBit sLps sWalk sFld) (fun r => I_Walk r.1 ∧ I_Fld r.2 ∧ ((Walk_elementCount r.1).toInt ≤ (Fld_count r.2).toInt) ∧ ((Walk_dueKind r.1).toInt ≠ 3 ∨ (1 ≤ (Walk_dueBits r.1).toInt ∧ (Walk_dueBits r.1).toInt ≤ (Walk_elementCount r.1).toInt)) ∧ ((Walk_dueKind r.1).toInt < 0 ∨ 3 ≤ (Walk_dueKind r.1).toInt ∨ (0 ≤ (Walk_dueCode r.1).toInt ∧ (Walk_dueCode r.1).toInt < 64)) ∧ ((Fld_count r.2).toInt = (Fld_count sFld).toInt ∨ ((Fld_kinds r.2 ((Fld_count r.2) - 1).toNatClampNeg).toInt ≠ 3 ∨ (0 ≤ (Fld_targets r.2 ((Fld_count r.2) - 1).toNatClampNeg).toInt ∧ (Fld_targets r.2 ((Fld_count r.2) - 1).toNatClampNeg).toInt ≤ 99)))) := by
  unfold Walk_giveBit
  have f_1 := I_Walk_elementCount I_sWalk
  first | have f_2 := i_sub (a := (Walk_elementCount sWalk)) (b := (Walk_dueBits sWalk)) (by omega) (by omega) | have f_2 := i_subm (Walk_elementCount sWalk) (Walk_dueBits sWalk)
  refine So.gd (i_in.mpr (by omega)) ?_
  refine So.lt2 fun u2 e_3 => ?_
  have f_4 := I_Walk_elements I_sWalk (((Walk_elementCount sWalk) - (Walk_dueBits sWalk)).toNatClampNeg)
  have f_5 : u2.toInt = (Walk_elements sWalk (((Walk_elementCount sWalk) - (Walk_dueBits sWalk)).toNatClampNeg)).toInt := by rw [e_3]
  refine So.lt2 fun sWalk_3 e_6 => ?_
  have I_7 : I_Walk sWalk_3 := by rw [e_6]; exact (I_Walk_set_dueBits I_sWalk)
  have k_8 : (1 : Int32).toInt = 1 := by decide
  first | have f_9 := i_sub (a := (Walk_dueBits sWalk)) (b := 1) (by omega) (by omega) | have f_9 := i_subm (Walk_dueBits sWalk) 1
  have f_10 : (Walk_elementCount sWalk_3).toInt = (Walk_elementCount sWalk).toInt := by subst e_6; rfl
  have f_11 : (Walk_dueKind sWalk_3).toInt = (Walk_dueKind sWalk).toInt := by subst e_6; rfl
  have f_12 : (Walk_dueCode sWalk_3).toInt = (Walk_dueCode sWalk).toInt := by subst e_6; rfl
  have f_13 : (Walk_dueBits sWalk_3).toInt = (((Walk_dueBits sWalk) - 1) : Int32).toInt := by subst e_6; rfl
  refine So.ite (fun c_14 => ?_) (fun c_14 => ?_)
  · rw [i_le] at c_14
    have k_15 : (0 : Int32).toInt = 0 := by decide
    unfold Walk_giveBit_j38
    refine So.lt2 fun sWalk_5 e_16 => ?_
    have I_17 : I_Walk sWalk_5 := by rw [e_16]; exact (I_Walk_set_dueKind I_7)
    have k_18 : ((-1) : Int32).toInt = -1 := by decide
    have f_19 : (Walk_elementCount sWalk_5).toInt = (Walk_elementCount sWalk_3).toInt := by subst e_16; rfl
    have f_20 : (Walk_dueKind sWalk_5).toInt = ((-1) : Int32).toInt := by subst e_16; rfl
    have f_21 : (Walk_dueCode sWalk_5).toInt = (Walk_dueCode sWalk_3).toInt := by subst e_16; rfl
    have f_22 : (Walk_dueBits sWalk_5).toInt = (Walk_dueBits sWalk_3).toInt := by subst e_16; rfl
    have f_23 := I_Walk_elementCount I_17
    have f_24 := I_Fld_count I_sFld
    have k_25 : (3 : Int32).toInt = 3 := by decide
    refine So.bd (t_Walk_give I_sLps I_17 I_sFld (by show (Walk_elementCount sWalk_5).toInt ≤ (Fld_count sFld).toInt; omega) (by show -100 ≤ (1 : Int32).toInt; omega) (by show (1 : Int32).toInt ≤ 120; omega) (by show -1 ≤ u2.toInt; omega) (by show u2.toInt ≤ 101; omega) (by show (3 : Int32).toInt ≠ 3 ∨ (0 ≤ u2.toInt ∧ u2.toInt ≤ 99); omega)) fun q6 h_26 => ?_
    obtain ⟨p_27, p_28, p_29, p_30, p_31, p_32, p_33, p_34⟩ := h_26
    exact So.one ⟨p_27, p_28, (by show (Walk_elementCount q6.1).toInt ≤ (Fld_count q6.2).toInt; omega), (by show (Walk_dueKind q6.1).toInt ≠ 3 ∨ (1 ≤ (Walk_dueBits q6.1).toInt ∧ (Walk_dueBits q6.1).toInt ≤ (Walk_elementCount q6.1).toInt); omega), (by show (Walk_dueKind q6.1).toInt < 0 ∨ 3 ≤ (Walk_dueKind q6.1).toInt ∨ (0 ≤ (Walk_dueCode q6.1).toInt ∧ (Walk_dueCode q6.1).toInt < 64); omega), (by show (Fld_count q6.2).toInt = (Fld_count sFld).toInt ∨ ((Fld_kinds q6.2 ((Fld_count q6.2) - 1).toNatClampNeg).toInt ≠ 3 ∨ (0 ≤ (Fld_targets q6.2 ((Fld_count q6.2) - 1).toNatClampNeg).toInt ∧ (Fld_targets q6.2 ((Fld_count q6.2) - 1).toNatClampNeg).toInt ≤ 99)); omega)⟩
  · rw [i_le] at c_14
    have k_35 : (0 : Int32).toInt = 0 := by decide
    unfold Walk_giveBit_j38
    refine So.lt2 fun sWalk_5 e_36 => ?_
    have I_37 : I_Walk sWalk_5 := by rw [e_36]; exact (I_Walk_set_dueKind I_7)
    have k_38 : (3 : Int32).toInt = 3 := by decide
    have f_39 : (Walk_elementCount sWalk_5).toInt = (Walk_elementCount sWalk_3).toInt := by subst e_36; rfl
    have f_40 : (Walk_dueKind sWalk_5).toInt = (3 : Int32).toInt := by subst e_36; rfl
    have f_41 : (Walk_dueCode sWalk_5).toInt = (Walk_dueCode sWalk_3).toInt := by subst e_36; rfl
    have f_42 : (Walk_dueBits sWalk_5).toInt = (Walk_dueBits sWalk_3).toInt := by subst e_36; rfl
    have f_43 := I_Walk_elementCount I_37
    have f_44 := I_Fld_count I_sFld
    refine So.bd (t_Walk_give I_sLps I_37 I_sFld (by show (Walk_elementCount sWalk_5).toInt ≤ (Fld_count sFld).toInt; omega) (by show -100 ≤ (1 : Int32).toInt; omega) (by show (1 : Int32).toInt ≤ 120; omega) (by show -1 ≤ u2.toInt; omega) (by show u2.toInt ≤ 101; omega) (by show (3 : Int32).toInt ≠ 3 ∨ (0 ≤ u2.toInt ∧ u2.toInt ≤ 99); omega)) fun q6 h_45 => ?_
    obtain ⟨p_46, p_47, p_48, p_49, p_50, p_51, p_52, p_53⟩ := h_45
    exact So.one ⟨p_46, p_47, (by show (Walk_elementCount q6.1).toInt ≤ (Fld_count q6.2).toInt; omega), (by show (Walk_dueKind q6.1).toInt ≠ 3 ∨ (1 ≤ (Walk_dueBits q6.1).toInt ∧ (Walk_dueBits q6.1).toInt ≤ (Walk_elementCount q6.1).toInt); omega), (by show (Walk_dueKind q6.1).toInt < 0 ∨ 3 ≤ (Walk_dueKind q6.1).toInt ∨ (0 ≤ (Walk_dueCode q6.1).toInt ∧ (Walk_dueCode q6.1).toInt < 64); omega), (by show (Fld_count q6.2).toInt = (Fld_count sFld).toInt ∨ ((Fld_kinds q6.2 ((Fld_count q6.2) - 1).toNatClampNeg).toInt ≠ 3 ∨ (0 ≤ (Fld_targets q6.2 ((Fld_count q6.2) - 1).toNatClampNeg).toInt ∧ (Fld_targets q6.2 ((Fld_count q6.2) - 1).toNatClampNeg).toInt ≤ 99)); omega)⟩
theorem t_Walk_giveFromEntry {fu : Nat} {sTab : S_Tab} {sLps : S_Lps} {sWalk : S_Walk} {sFld : S_Fld} (hf : 12000 ≤ fu) (I_sTab : I_Tab sTab) (I_sLps : I_Lps sLps) (I_sWalk : I_Walk sWalk) (I_sFld : I_Fld sFld) (g_0 : (Walk_elementCount sWalk).toInt ≤ (Fld_count sFld).toInt) (g_1 : (Walk_dueKind sWalk).toInt ≠ 3 ∨ (1 ≤ (Walk_dueBits sWalk).toInt ∧ (Walk_dueBits sWalk).toInt ≤ (Walk_elementCount sWalk).toInt)) (g_2 : (Walk_dueKind sWalk).toInt < 0 ∨ 3 ≤ (Walk_dueKind sWalk).toInt ∨ (0 ≤ (Walk_dueCode sWalk).toInt ∧ (Walk_dueCode sWalk).toInt < 64)) (g_3 : (Walk_dueKind sWalk).toInt = 0 ∨ (Walk_dueKind sWalk).toInt = 2) : So (Walk_giveFromEntry fu sTab sLps sWalk sFld) (fun r => I_Walk r.1 ∧ I_Fld r.2 ∧ ((Walk_elementCount r.1).toInt ≤ (Fld_count r.2).toInt) ∧ ((Walk_dueKind r.1).toInt ≠ 3 ∨ (1 ≤ (Walk_dueBits r.1).toInt ∧ (Walk_dueBits r.1).toInt ≤ (Walk_elementCount r.1).toInt)) ∧ ((Walk_dueKind r.1).toInt < 0 ∨ 3 ≤ (Walk_dueKind r.1).toInt ∨ (0 ≤ (Walk_dueCode r.1).toInt ∧ (Walk_dueCode r.1).toInt < 64)) ∧ ((Fld_count r.2).toInt = (Fld_count sFld).toInt ∨ ((Fld_kinds r.2 ((Fld_count r.2) - 1).toNatClampNeg).toInt ≠ 3 ∨ (0 ≤ (Fld_targets r.2 ((Fld_count r.2) - 1).toNatClampNeg).toInt ∧ (Fld_targets r.2 ((Fld_count r.2) - 1).toNatClampNeg).toInt ≤ 99)))) := by
  unfold Walk_giveFromEntry
  refine So.lt2 fun sWalk_1 e_1 => ?_
  have I_2 : I_Walk sWalk_1 := by rw [e_1]; exact (I_Walk_set_dueKind I_sWalk)
  have k_3 : ((-1) : Int32).toInt = -1 := by decide
  have f_4 : (Walk_elementCount sWalk_1).toInt = (Walk_elementCount sWalk).toInt := by subst e_1; rfl
  have f_5 : (Walk_dueKind sWalk_1).toInt = ((-1) : Int32).toInt := by subst e_1; rfl
  have f_6 : (Walk_dueCode sWalk_1).toInt = (Walk_dueCode sWalk).toInt := by subst e_1; rfl
  have f_7 : (Walk_dueBits sWalk_1).toInt = (Walk_dueBits sWalk).toInt := by subst e_1; rfl
  refine So.bd (t_Tab_inForce hf I_sTab (by show 0 ≤ (Walk_dueCode sWalk_1).toInt; omega) (by show (Walk_dueCode sWalk_1).toInt < 64; omega)) fun q2 h_8 => ?_
  have p_9 := h_8
  refine So.ite (fun c_10 => ?_) (fun c_10 => ?_)
  · rw [i_eq] at c_10
    exact So.one ⟨I_2, I_sFld, (by show (Walk_elementCount sWalk_1).toInt ≤ (Fld_count sFld).toInt; omega), (by show (Walk_dueKind sWalk_1).toInt ≠ 3 ∨ (1 ≤ (Walk_dueBits sWalk_1).toInt ∧ (Walk_dueBits sWalk_1).toInt ≤ (Walk_elementCount sWalk_1).toInt); omega), (by show (Walk_dueKind sWalk_1).toInt < 0 ∨ 3 ≤ (Walk_dueKind sWalk_1).toInt ∨ (0 ≤ (Walk_dueCode sWalk_1).toInt ∧ (Walk_dueCode sWalk_1).toInt < 64); omega), (by show (Fld_count sFld).toInt = (Fld_count sFld).toInt ∨ ((Fld_kinds sFld ((Fld_count sFld) - 1).toNatClampNeg).toInt ≠ 3 ∨ (0 ≤ (Fld_targets sFld ((Fld_count sFld) - 1).toNatClampNeg).toInt ∧ (Fld_targets sFld ((Fld_count sFld) - 1).toNatClampNeg).toInt ≤ 99)); omega)⟩
  · rw [i_eq] at c_10
    refine So.gd (i_in.mpr (by omega)) ?_
    refine So.gd (i_in.mpr (by omega)) ?_
    refine So.gd (i_in.mpr (by omega)) ?_
    refine So.lt2 fun u6 e_11 => ?_
    refine So.ite (fun c_12 => ?_) (fun c_12 => ?_)
    · rw [i_eq] at c_12
      have k_13 : (0 : Int32).toInt = 0 := by decide
      refine So.gd (i_in.mpr (by omega)) ?_
      have f_14 : (Walk_settings sWalk_1 ((0 : Int32).toNatClampNeg)).toInt = (Walk_settings sWalk ((0 : Int32).toNatClampNeg)).toInt := by subst e_1; rfl
      have f_15 := I_Walk_settings I_sWalk ((0 : Int32).toNatClampNeg)
      have f_16 := I_Walk_settings I_2 ((0 : Int32).toNatClampNeg)
      refine So.bd (t_Desc_addedWidth ) fun q8 h_17 => ?_
      have p_18 := h_17
      refine So.lt2 fun u9 e_19 => ?_
      have f_20 := I_Tab_widths I_sTab (q2.toNatClampNeg)
      first | have f_21 := i_add (a := (Tab_widths sTab (q2.toNatClampNeg))) (b := q8) (by omega) (by omega) | have f_21 := i_addm (Tab_widths sTab (q2.toNatClampNeg)) q8
      have f_22 : u9.toInt = ((Tab_widths sTab (q2.toNatClampNeg)) + q8).toInt := by rw [e_19]
      have k_23 : (1 : Int32).toInt = 1 := by decide
      refine So.gd (i_in.mpr (by omega)) ?_
      refine So.bd (t_Desc_addedScale ) fun q11 h_24 => ?_
      refine So.lt2 fun u12 e_25 => ?_
      first | have f_26 := i_add (a := (Tab_scales sTab (q2.toNatClampNeg))) (b := q11) (by omega) (by omega) | have f_26 := i_addm (Tab_scales sTab (q2.toNatClampNeg)) q11
      have f_27 : u12.toInt = ((Tab_scales sTab (q2.toNatClampNeg)) + q11).toInt := by rw [e_25]
      have k_28 : (3 : Int32).toInt = 3 := by decide
      refine So.gd (i_in.mpr (by omega)) ?_
      refine So.lt2 fun u14 e_29 => ?_
      unfold Walk_giveFromEntry_j104
      have f_30 := I_Walk_elementCount I_2
      have f_31 := I_Fld_count I_sFld
      refine So.bd (t_Walk_give I_sLps I_2 I_sFld (by show (Walk_elementCount sWalk_1).toInt ≤ (Fld_count sFld).toInt; omega) (by show -100 ≤ u9.toInt; omega) (by show u9.toInt ≤ 120; omega) (by show -1 ≤ ((-1) : Int32).toInt; omega) (by show ((-1) : Int32).toInt ≤ 101; omega) (by show (Walk_dueKind sWalk).toInt ≠ 3 ∨ (0 ≤ ((-1) : Int32).toInt ∧ ((-1) : Int32).toInt ≤ 99); omega)) fun q17 h_32 => ?_
      obtain ⟨p_33, p_34, p_35, p_36, p_37, p_38, p_39, p_40⟩ := h_32
      exact So.one ⟨p_33, p_34, (by show (Walk_elementCount q17.1).toInt ≤ (Fld_count q17.2).toInt; omega), (by show (Walk_dueKind q17.1).toInt ≠ 3 ∨ (1 ≤ (Walk_dueBits q17.1).toInt ∧ (Walk_dueBits q17.1).toInt ≤ (Walk_elementCount q17.1).toInt); omega), (by show (Walk_dueKind q17.1).toInt < 0 ∨ 3 ≤ (Walk_dueKind q17.1).toInt ∨ (0 ≤ (Walk_dueCode q17.1).toInt ∧ (Walk_dueCode q17.1).toInt < 64); omega), (by show (Fld_count q17.2).toInt = (Fld_count sFld).toInt ∨ ((Fld_kinds q17.2 ((Fld_count q17.2) - 1).toNatClampNeg).toInt ≠ 3 ∨ (0 ≤ (Fld_targets q17.2 ((Fld_count q17.2) - 1).toNatClampNeg).toInt ∧ (Fld_targets q17.2 ((Fld_count q17.2) - 1).toNatClampNeg).toInt ≤ 99)); omega)⟩
    · rw [i_eq] at c_12
      have k_41 : (0 : Int32).toInt = 0 := by decide
      unfold Walk_giveFromEntry_j104
      have f_42 := I_Walk_elementCount I_2
      have f_43 := I_Fld_count I_sFld
      have f_44 := I_Tab_widths I_sTab (q2.toNatClampNeg)
      refine So.bd (t_Walk_give I_sLps I_2 I_sFld (by show (Walk_elementCount sWalk_1).toInt ≤ (Fld_count sFld).toInt; omega) (by show -100 ≤ (Tab_widths sTab (q2.toNatClampNeg)).toInt; omega) (by show (Tab_widths sTab (q2.toNatClampNeg)).toInt ≤ 120; omega) (by show -1 ≤ ((-1) : Int32).toInt; omega) (by show ((-1) : Int32).toInt ≤ 101; omega) (by show (Walk_dueKind sWalk).toInt ≠ 3 ∨ (0 ≤ ((-1) : Int32).toInt ∧ ((-1) : Int32).toInt ≤ 99); omega)) fun q17 h_45 => ?_
      obtain ⟨p_46, p_47, p_48, p_49, p_50, p_51, p_52, p_53⟩ := h_45
      exact So.one ⟨p_46, p_47, (by show (Walk_elementCount q17.1).toInt ≤ (Fld_count q17.2).toInt; omega), (by show (Walk_dueKind q17.1).toInt ≠ 3 ∨ (1 ≤ (Walk_dueBits q17.1).toInt ∧ (Walk_dueBits q17.1).toInt ≤ (Walk_elementCount q17.1).toInt); omega), (by show (Walk_dueKind q17.1).toInt < 0 ∨ 3 ≤ (Walk_dueKind q17.1).toInt ∨ (0 ≤ (Walk_dueCode q17.1).toInt ∧ (Walk_dueCode q17.1).toInt < 64); omega), (by show (Fld_count q17.2).toInt = (Fld_count sFld).toInt ∨ ((Fld_kinds q17.2 ((Fld_count q17.2) - 1).toNatClampNeg).toInt ≠ 3 ∨ (0 ≤ (Fld_targets q17.2 ((Fld_count q17.2) - 1).toNatClampNeg).toInt ∧ (Fld_targets q17.2 ((Fld_count q17.2) - 1).toNatClampNeg).toInt ≤ 99)); omega)⟩
theorem t_Walk_giveQuality {sLps : S_Lps} {sWalk : S_Walk} {sFld : S_Fld} (I_sLps : I_Lps sLps) (I_sWalk : I_Walk sWalk) (I_sFld : I_Fld sFld) (g_0 : (Walk_elementCount sWalk).toInt ≤ (Fld_count sFld).toInt) (g_1 : (Walk_dueKind sWalk).toInt ≠ 3 ∨ (1 ≤ (Walk_dueBits sWalk).toInt ∧ (Walk_dueBits sWalk).toInt ≤ (Walk_elementCount sWalk).toInt)) (g_2 : (Walk_dueKind sWalk).toInt < 0 ∨ 3 ≤ (Walk_dueKind sWalk).toInt ∨ (0 ≤ (Walk_dueCode sWalk).toInt ∧ (Walk_dueCode sWalk).toInt < 64)) (g_3 : (Walk_dueKind sWalk).toInt = 1) : So (Walk_giveQuality sLps sWalk sFld) (fun r => I_Walk r.1 ∧ I_Fld r.2 ∧ ((Walk_elementCount r.1).toInt ≤ (Fld_count r.2).toInt) ∧ ((Walk_dueKind r.1).toInt ≠ 3 ∨ (1 ≤ (Walk_dueBits r.1).toInt ∧ (Walk_dueBits r.1).toInt ≤ (Walk_elementCount r.1).toInt)) ∧ ((Walk_dueKind r.1).toInt < 0 ∨ 3 ≤ (Walk_dueKind r.1).toInt ∨ (0 ≤ (Walk_dueCode r.1).toInt ∧ (Walk_dueCode r.1).toInt < 64)) ∧ ((Fld_count r.2).toInt = (Fld_count sFld).toInt ∨ ((Fld_kinds r.2 ((Fld_count r.2) - 1).toNatClampNeg).toInt ≠ 3 ∨ (0 ≤ (Fld_targets r.2 ((Fld_count r.2) - 1).toNatClampNeg).toInt ∧ (Fld_targets r.2 ((Fld_count r.2) - 1).toNatClampNeg).toInt ≤ 99)))) := by
  unfold Walk_giveQuality
  refine So.lt2 fun sWalk_1 e_1 => ?_
  have I_2 : I_Walk sWalk_1 := by rw [e_1]; exact (I_Walk_set_dueKind I_sWalk)
  have k_3 : (0 : Int32).toInt = 0 := by decide
  have f_4 : (Walk_elementCount sWalk_1).toInt = (Walk_elementCount sWalk).toInt := by subst e_1; rfl
  have f_5 : (Walk_dueKind sWalk_1).toInt = (0 : Int32).toInt := by subst e_1; rfl
  have f_6 : (Walk_dueCode sWalk_1).toInt = (Walk_dueCode sWalk).toInt := by subst e_1; rfl
  have f_7 : (Walk_dueBits sWalk_1).toInt = (Walk_dueBits sWalk).toInt := by subst e_1; rfl
  have k_8 : (2 : Int32).toInt = 2 := by decide
  refine So.gd (i_in.mpr (by omega)) ?_
  have f_9 := I_Walk_elementCount I_2
  have f_10 := I_Fld_count I_sFld
  have f_11 : (Walk_settings sWalk_1 ((2 : Int32).toNatClampNeg)).toInt = (Walk_settings sWalk ((2 : Int32).toNatClampNeg)).toInt := by subst e_1; rfl
  have f_12 := I_Walk_settings I_sWalk ((2 : Int32).toNatClampNeg)
  have f_13 := I_Walk_settings I_2 ((2 : Int32).toNatClampNeg)
  have k_14 : (1 : Int32).toInt = 1 := by decide
  first | have f_15 := i_add (a := (Fld_count sFld)) (b := 1) (by omega) (by omega) | have f_15 := i_addm (Fld_count sFld) 1
  refine So.bd (t_Walk_give I_sLps I_2 I_sFld (by show (Walk_elementCount sWalk_1).toInt ≤ (Fld_count sFld).toInt; omega) (by show -100 ≤ (Walk_settings sWalk_1 ((2 : Int32).toNatClampNeg)).toInt; omega) (by show (Walk_settings sWalk_1 ((2 : Int32).toNatClampNeg)).toInt ≤ 120; omega) (by show -1 ≤ ((Fld_count sFld) + 1).toInt; omega) (by show ((Fld_count sFld) + 1).toInt ≤ 101; omega) (by show (1 : Int32).toInt ≠ 3 ∨ (0 ≤ ((Fld_count sFld) + 1).toInt ∧ ((Fld_count sFld) + 1).toInt ≤ 99); omega)) fun q3 h_16 => ?_
  obtain ⟨p_17, p_18, p_19, p_20, p_21, p_22, p_23, p_24⟩ := h_16
  exact So.one ⟨p_17, p_18, (by show (Walk_elementCount q3.1).toInt ≤ (Fld_count q3.2).toInt; omega), (by show (Walk_dueKind q3.1).toInt ≠ 3 ∨ (1 ≤ (Walk_dueBits q3.1).toInt ∧ (Walk_dueBits q3.1).toInt ≤ (Walk_elementCount q3.1).toInt); omega), (by show (Walk_dueKind q3.1).toInt < 0 ∨ 3 ≤ (Walk_dueKind q3.1).toInt ∨ (0 ≤ (Walk_dueCode q3.1).toInt ∧ (Walk_dueCode q3.1).toInt < 64); omega), (by show (Fld_count q3.2).toInt = (Fld_count sFld).toInt ∨ ((Fld_kinds q3.2 ((Fld_count q3.2) - 1).toNatClampNeg).toInt ≠ 3 ∨ (0 ≤ (Fld_targets q3.2 ((Fld_count q3.2) - 1).toNatClampNeg).toInt ∧ (Fld_targets q3.2 ((Fld_count q3.2) - 1).toNatClampNeg).toInt ≤ 99)); omega)⟩
theorem t_Walk_comeToBits {sFld : S_Fld} {a0 : Int32} {sWalk : S_Walk} (I_sFld : I_Fld sFld) (I_sWalk : I_Walk sWalk) (g_0 : (Walk_elementCount sWalk).toInt ≤ (Fld_count sFld).toInt) (g_1 : (Walk_dueKind sWalk).toInt ≠ 3 ∨ (1 ≤ (Walk_dueBits sWalk).toInt ∧ (Walk_dueBits sWalk).toInt ≤ (Walk_elementCount sWalk).toInt)) (g_2 : (Walk_dueKind sWalk).toInt < 0 ∨ 3 ≤ (Walk_dueKind sWalk).toInt ∨ (0 ≤ (Walk_dueCode sWalk).toInt ∧ (Walk_dueCode sWalk).toInt < 64)) (g_3 : 1 ≤ a0.toInt) (g_4 : a0.toInt ≤ 16) (g_5 : (Walk_dueKind sWalk).toInt < 0 ∨ 4 < (Walk_dueKind sWalk).toInt) : So (Walk_comeToBits sFld a0 sWalk) (fun r => I_Walk r ∧ ((Walk_elementCount r).toInt ≤ (Fld_count sFld).toInt) ∧ ((Walk_dueKind r).toInt ≠ 3 ∨ (1 ≤ (Walk_dueBits r).toInt ∧ (Walk_dueBits r).toInt ≤ (Walk_elementCount r).toInt)) ∧ ((Walk_dueKind r).toInt < 0 ∨ 3 ≤ (Walk_dueKind r).toInt ∨ (0 ≤ (Walk_dueCode r).toInt ∧ (Walk_dueCode r).toInt < 64))) := by
  unfold Walk_comeToBits
  refine So.ite (fun c_1 => ?_) (fun c_1 => ?_)
  · rw [i_le] at c_1
    have f_2 := I_Walk_elementCount I_sWalk
    have k_4 : (0 : Int32).toInt = 0 := by decide
    refine So.lt2 fun sWalk_1 e_3 => ?_
    have I_5 : I_Walk sWalk_1 := by rw [e_3]; exact (I_Walk_set_pointedCount I_sWalk (by show 0 ≤ (0 : Int32).toInt ∧ (0 : Int32).toInt ≤ 16; omega))
    have f_6 : (Walk_elementCount sWalk_1).toInt = (Walk_elementCount sWalk).toInt := by subst e_3; rfl
    have f_7 : (Walk_dueKind sWalk_1).toInt = (Walk_dueKind sWalk).toInt := by subst e_3; rfl
    have f_8 : (Walk_dueCode sWalk_1).toInt = (Walk_dueCode sWalk).toInt := by subst e_3; rfl
    have f_9 : (Walk_dueBits sWalk_1).toInt = (Walk_dueBits sWalk).toInt := by subst e_3; rfl
    refine So.lt2 fun sWalk_2 e_10 => ?_
    have I_11 : I_Walk sWalk_2 := by rw [e_10]; exact (I_Walk_set_nextPointed I_5 (by show 0 ≤ (0 : Int32).toInt ∧ (0 : Int32).toInt ≤ 16; omega))
    have f_12 : (Walk_elementCount sWalk_2).toInt = (Walk_elementCount sWalk_1).toInt := by subst e_10; rfl
    have f_13 : (Walk_dueKind sWalk_2).toInt = (Walk_dueKind sWalk_1).toInt := by subst e_10; rfl
    have f_14 : (Walk_dueCode sWalk_2).toInt = (Walk_dueCode sWalk_1).toInt := by subst e_10; rfl
    have f_15 : (Walk_dueBits sWalk_2).toInt = (Walk_dueBits sWalk_1).toInt := by subst e_10; rfl
    refine So.lt2 fun sWalk_3 e_16 => ?_
    have I_17 : I_Walk sWalk_3 := by rw [e_16]; exact (I_Walk_set_dueKind I_11)
    have k_18 : (3 : Int32).toInt = 3 := by decide
    have f_19 : (Walk_elementCount sWalk_3).toInt = (Walk_elementCount sWalk_2).toInt := by subst e_16; rfl
    have f_20 : (Walk_dueKind sWalk_3).toInt = (3 : Int32).toInt := by subst e_16; rfl
    have f_21 : (Walk_dueCode sWalk_3).toInt = (Walk_dueCode sWalk_2).toInt := by subst e_16; rfl
    have f_22 : (Walk_dueBits sWalk_3).toInt = (Walk_dueBits sWalk_2).toInt := by subst e_16; rfl
    refine So.lt2 fun sWalk_4 e_23 => ?_
    have I_24 : I_Walk sWalk_4 := by rw [e_23]; exact (I_Walk_set_dueBits I_17)
    have f_25 : (Walk_elementCount sWalk_4).toInt = (Walk_elementCount sWalk_3).toInt := by subst e_23; rfl
    have f_26 : (Walk_dueKind sWalk_4).toInt = (Walk_dueKind sWalk_3).toInt := by subst e_23; rfl
    have f_27 : (Walk_dueCode sWalk_4).toInt = (Walk_dueCode sWalk_3).toInt := by subst e_23; rfl
    have f_28 : (Walk_dueBits sWalk_4).toInt = (a0 : Int32).toInt := by subst e_23; rfl
    exact So.one ⟨I_24, (by show (Walk_elementCount sWalk_4).toInt ≤ (Fld_count sFld).toInt; omega), (by show (Walk_dueKind sWalk_4).toInt ≠ 3 ∨ (1 ≤ (Walk_dueBits sWalk_4).toInt ∧ (Walk_dueBits sWalk_4).toInt ≤ (Walk_elementCount sWalk_4).toInt); omega), (by show (Walk_dueKind sWalk_4).toInt < 0 ∨ 3 ≤ (Walk_dueKind sWalk_4).toInt ∨ (0 ≤ (Walk_dueCode sWalk_4).toInt ∧ (Walk_dueCode sWalk_4).toInt < 64); omega)⟩
  · rw [i_le] at c_1
    have f_29 := I_Walk_elementCount I_sWalk
    refine So.bd (t_Walk_fail I_sWalk) fun q5 h_30 => ?_
    obtain ⟨p_31, p_32, p_33, p_34, p_35⟩ := h_30
    exact So.one ⟨p_31, (by show (Walk_elementCount q5).toInt ≤ (Fld_count sFld).toInt; omega), (by show (Walk_dueKind q5).toInt ≠ 3 ∨ (1 ≤ (Walk_dueBits q5).toInt ∧ (Walk_dueBits q5).toInt ≤ (Walk_elementCount q5).toInt); omega), (by show (Walk_dueKind q5).toInt < 0 ∨ 3 ≤ (Walk_dueKind q5).toInt ∨ (0 ≤ (Walk_dueCode q5).toInt ∧ (Walk_dueCode q5).toInt < 64); omega)⟩
theorem t_Walk_comeToRepeat {a0 : Int32} {a1 : Int32} {sWalk : S_Walk} {sLps : S_Lps} (I_sWalk : I_Walk sWalk) (I_sLps : I_Lps sLps) (g_0 : 0 ≤ (Walk_at sWalk).toInt) : So (Walk_comeToRepeat a0 a1 sWalk sLps) (fun r => I_Walk r.1 ∧ I_Lps r.2 ∧ ((Walk_dueKind r.1).toInt = (Walk_dueKind sWalk).toInt) ∧ ((Walk_dueCode r.1).toInt = (Walk_dueCode sWalk).toInt) ∧ ((Walk_dueBits r.1).toInt = (Walk_dueBits sWalk).toInt) ∧ ((Walk_elementCount r.1).toInt = (Walk_elementCount sWalk).toInt)) := by
  unfold Walk_comeToRepeat
  refine So.ite (fun c_1 => ?_) (fun c_1 => ?_)
  · rw [i_le] at c_1
    have k_2 : (0 : Int32).toInt = 0 := by decide
    refine So.lt2 fun sWalk_1 e_3 => ?_
    have I_4 : I_Walk sWalk_1 := by rw [e_3]; exact (I_Walk_set_countedEnd I_sWalk)
    have f_5 : (Walk_elementCount sWalk_1).toInt = (Walk_elementCount sWalk).toInt := by subst e_3; rfl
    have f_6 : (Walk_at sWalk_1).toInt = (Walk_at sWalk).toInt := by subst e_3; rfl
    have f_7 : (Walk_dueKind sWalk_1).toInt = (Walk_dueKind sWalk).toInt := by subst e_3; rfl
    have f_8 : (Walk_dueCode sWalk_1).toInt = (Walk_dueCode sWalk).toInt := by subst e_3; rfl
    have f_9 : (Walk_dueBits sWalk_1).toInt = (Walk_dueBits sWalk).toInt := by subst e_3; rfl
    exact So.one ⟨I_4, I_sLps, (by show (Walk_dueKind sWalk_1).toInt = (Walk_dueKind sWalk).toInt; omega), (by show (Walk_dueCode sWalk_1).toInt = (Walk_dueCode sWalk).toInt; omega), (by show (Walk_dueBits sWalk_1).toInt = (Walk_dueBits sWalk).toInt; omega), (by show (Walk_elementCount sWalk_1).toInt = (Walk_elementCount sWalk).toInt; omega)⟩
  · rw [i_le] at c_1
    have k_10 : (0 : Int32).toInt = 0 := by decide
    have f_11 := I_Walk_at I_sWalk
    refine So.bd (t_Lps_enter I_sLps (by show 0 ≤ (Walk_at sWalk).toInt; omega) (by show (Walk_at sWalk).toInt ≤ 1000; omega)) fun q2 h_12 => ?_
    have p_13 := h_12
    exact So.one ⟨I_sWalk, p_13, (by show (Walk_dueKind sWalk).toInt = (Walk_dueKind sWalk).toInt; omega), (by show (Walk_dueCode sWalk).toInt = (Walk_dueCode sWalk).toInt; omega), (by show (Walk_dueBits sWalk).toInt = (Walk_dueBits sWalk).toInt; omega), (by show (Walk_elementCount sWalk).toInt = (Walk_elementCount sWalk).toInt; omega)⟩
theorem t_Walk_comeToElement {a0 : Int32} {sWalk : S_Walk} (I_sWalk : I_Walk sWalk) (g_0 : 0 ≤ a0.toInt) (g_1 : a0.toInt < 64) : So (Walk_comeToElement a0 sWalk) (fun r => I_Walk r ∧ ((Walk_elementCount r).toInt = (Walk_elementCount sWalk).toInt) ∧ (0 ≤ (Walk_dueKind r).toInt ∧ (Walk_dueKind r).toInt ≤ 2) ∧ ((Walk_dueCode r).toInt = a0.toInt)) := by
  unfold Walk_comeToElement
  refine So.lt2 fun sWalk_1 e_1 => ?_
  have I_2 : I_Walk sWalk_1 := by rw [e_1]; exact (I_Walk_set_dueCode I_sWalk)
  have f_3 : (Walk_elementCount sWalk_1).toInt = (Walk_elementCount sWalk).toInt := by subst e_1; rfl
  have f_4 : (Walk_dueKind sWalk_1).toInt = (Walk_dueKind sWalk).toInt := by subst e_1; rfl
  have f_5 : (Walk_dueCode sWalk_1).toInt = (a0 : Int32).toInt := by subst e_1; rfl
  have f_6 : (Walk_countedEnd sWalk_1).toInt = (Walk_countedEnd sWalk).toInt := by subst e_1; rfl
  refine So.ite (fun c_7 => ?_) (fun c_7 => ?_)
  · rw [i_eq] at c_7
    have k_8 : ((-1) : Int32).toInt = -1 := by decide
    have k_9 : (2 : Int32).toInt = 2 := by decide
    refine So.gd (i_in.mpr (by omega)) ?_
    refine So.ite (fun c_10 => ?_) (fun c_10 => ?_)
    · rw [i_le] at c_10
      have f_11 : (Walk_settings sWalk_1 ((2 : Int32).toNatClampNeg)).toInt = (Walk_settings sWalk ((2 : Int32).toNatClampNeg)).toInt := by subst e_1; rfl
      have f_12 := I_Walk_settings I_sWalk ((2 : Int32).toNatClampNeg)
      have f_13 := I_Walk_settings I_2 ((2 : Int32).toNatClampNeg)
      have k_14 : (0 : Int32).toInt = 0 := by decide
      refine So.lt2 fun sWalk_3 e_15 => ?_
      have I_16 : I_Walk sWalk_3 := by rw [e_15]; exact (I_Walk_set_dueKind I_2)
      have f_17 : (Walk_elementCount sWalk_3).toInt = (Walk_elementCount sWalk_1).toInt := by subst e_15; rfl
      have f_18 : (Walk_dueKind sWalk_3).toInt = (0 : Int32).toInt := by subst e_15; rfl
      have f_19 : (Walk_dueCode sWalk_3).toInt = (Walk_dueCode sWalk_1).toInt := by subst e_15; rfl
      have f_20 : (Walk_countedEnd sWalk_3).toInt = (Walk_countedEnd sWalk_1).toInt := by subst e_15; rfl
      exact So.one ⟨I_16, (by show (Walk_elementCount sWalk_3).toInt = (Walk_elementCount sWalk).toInt; omega), (by show 0 ≤ (Walk_dueKind sWalk_3).toInt ∧ (Walk_dueKind sWalk_3).toInt ≤ 2; omega), (by show (Walk_dueCode sWalk_3).toInt = a0.toInt; omega)⟩
    · rw [i_le] at c_10
      have f_21 : (Walk_settings sWalk_1 ((2 : Int32).toNatClampNeg)).toInt = (Walk_settings sWalk ((2 : Int32).toNatClampNeg)).toInt := by subst e_1; rfl
      have f_22 := I_Walk_settings I_sWalk ((2 : Int32).toNatClampNeg)
      have f_23 := I_Walk_settings I_2 ((2 : Int32).toNatClampNeg)
      have k_24 : (0 : Int32).toInt = 0 := by decide
      refine So.lt2 fun sWalk_4 e_25 => ?_
      have I_26 : I_Walk sWalk_4 := by rw [e_25]; exact (I_Walk_set_dueKind I_2)
      have k_27 : (1 : Int32).toInt = 1 := by decide
      have f_28 : (Walk_elementCount sWalk_4).toInt = (Walk_elementCount sWalk_1).toInt := by subst e_25; rfl
      have f_29 : (Walk_dueKind sWalk_4).toInt = (1 : Int32).toInt := by subst e_25; rfl
      have f_30 : (Walk_dueCode sWalk_4).toInt = (Walk_dueCode sWalk_1).toInt := by subst e_25; rfl
      have f_31 : (Walk_countedEnd sWalk_4).toInt = (Walk_countedEnd sWalk_1).toInt := by subst e_25; rfl
      exact So.one ⟨I_26, (by show (Walk_elementCount sWalk_4).toInt = (Walk_elementCount sWalk).toInt; omega), (by show 0 ≤ (Walk_dueKind sWalk_4).toInt ∧ (Walk_dueKind sWalk_4).toInt ≤ 2; omega), (by show (Walk_dueCode sWalk_4).toInt = a0.toInt; omega)⟩
  · rw [i_eq] at c_7
    have k_32 : ((-1) : Int32).toInt = -1 := by decide
    refine So.lt2 fun sWalk_6 e_33 => ?_
    have I_34 : I_Walk sWalk_6 := by rw [e_33]; exact (I_Walk_set_dueKind I_2)
    have k_35 : (2 : Int32).toInt = 2 := by decide
    have f_36 : (Walk_elementCount sWalk_6).toInt = (Walk_elementCount sWalk_1).toInt := by subst e_33; rfl
    have f_37 : (Walk_dueKind sWalk_6).toInt = (2 : Int32).toInt := by subst e_33; rfl
    have f_38 : (Walk_dueCode sWalk_6).toInt = (Walk_dueCode sWalk_1).toInt := by subst e_33; rfl
    have f_39 : (Walk_countedEnd sWalk_6).toInt = (Walk_countedEnd sWalk_1).toInt := by subst e_33; rfl
    exact So.one ⟨I_34, (by show (Walk_elementCount sWalk_6).toInt = (Walk_elementCount sWalk).toInt; omega), (by show 0 ≤ (Walk_dueKind sWalk_6).toInt ∧ (Walk_dueKind sWalk_6).toInt ≤ 2; omega), (by show (Walk_dueCode sWalk_6).toInt = a0.toInt; omega)⟩
theorem t_Walk_comeToNext {fu : Nat} {sProg : S_Prog} {sFld : S_Fld} {sWalk : S_Walk} {sLps : S_Lps} (hf : 12000 ≤ fu) (I_sProg : I_Prog sProg) (I_sFld : I_Fld sFld) (I_sWalk : I_Walk sWalk) (I_sLps : I_Lps sLps) (g_0 : (Walk_elementCount sWalk).toInt ≤ (Fld_count sFld).toInt) (g_1 : (Walk_dueKind sWalk).toInt ≠ 3 ∨ (1 ≤ (Walk_dueBits sWalk).toInt ∧ (Walk_dueBits sWalk).toInt ≤ (Walk_elementCount sWalk).toInt)) (g_2 : (Walk_dueKind sWalk).toInt < 0 ∨ 3 ≤ (Walk_dueKind sWalk).toInt ∨ (0 ≤ (Walk_dueCode sWalk).toInt ∧ (Walk_dueCode sWalk).toInt < 64)) (g_3 : (Walk_dueKind sWalk).toInt < 0 ∨ 4 < (Walk_dueKind sWalk).toInt) (g_4 : (Walk_at sWalk).toInt < 1000) : So (Walk_comeToNext fu sProg sFld sWalk sLps) (fun r => I_Walk r.1 ∧ I_Lps r.2 ∧ ((Walk_elementCount r.1).toInt ≤ (Fld_count sFld).toInt) ∧ ((Walk_dueKind r.1).toInt ≠ 3 ∨ (1 ≤ (Walk_dueBits r.1).toInt ∧ (Walk_dueBits r.1).toInt ≤ (Walk_elementCount r.1).toInt)) ∧ ((Walk_dueKind r.1).toInt < 0 ∨ 3 ≤ (Walk_dueKind r.1).toInt ∨ (0 ≤ (Walk_dueCode r.1).toInt ∧ (Walk_dueCode r.1).toInt < 64))) := by
  unfold Walk_comeToNext
  refine So.lt2 fun sWalk_1 e_1 => ?_
  have I_2 : I_Walk sWalk_1 := by rw [e_1]; exact (I_Walk_set_come I_sWalk)
  have k_3 : (1 : Int32).toInt = 1 := by decide
  first | have f_4 := i_add (a := (Walk_come sWalk)) (b := 1) (by omega) (by omega) | have f_4 := i_addm (Walk_come sWalk) 1
  have f_5 : (Walk_elementCount sWalk_1).toInt = (Walk_elementCount sWalk).toInt := by subst e_1; rfl
  have f_6 : (Walk_at sWalk_1).toInt = (Walk_at sWalk).toInt := by subst e_1; rfl
  have f_7 : (Walk_come sWalk_1).toInt = (((Walk_come sWalk) + 1) : Int32).toInt := by subst e_1; rfl
  have f_8 : (Walk_dueKind sWalk_1).toInt = (Walk_dueKind sWalk).toInt := by subst e_1; rfl
  have f_9 : (Walk_dueCode sWalk_1).toInt = (Walk_dueCode sWalk).toInt := by subst e_1; rfl
  have f_10 : (Walk_dueBits sWalk_1).toInt = (Walk_dueBits sWalk).toInt := by subst e_1; rfl
  refine So.ite (fun c_11 => ?_) (fun c_11 => ?_)
  · rw [i_le] at c_11
    have k_12 : (2000 : Int32).toInt = 2000 := by decide
    have f_13 := I_Walk_at I_2
    refine So.gd (i_in.mpr (by omega)) ?_
    refine So.lt2 fun u3 e_14 => ?_
    have f_15 : u3.toInt = (Prog_descriptors sProg ((Walk_at sWalk_1).toNatClampNeg)).toInt := by rw [e_14]
    first | have f_17 := i_add (a := (Walk_at sWalk_1)) (b := 1) (by omega) (by omega) | have f_17 := i_addm (Walk_at sWalk_1) 1
    refine So.lt2 fun sWalk_4 e_16 => ?_
    have I_18 : I_Walk sWalk_4 := by rw [e_16]; exact (I_Walk_set_at I_2 (by show 0 ≤ (((Walk_at sWalk_1) + 1) : Int32).toInt ∧ (((Walk_at sWalk_1) + 1) : Int32).toInt ≤ 1000; omega))
    have f_19 : (Walk_elementCount sWalk_4).toInt = (Walk_elementCount sWalk_1).toInt := by subst e_16; rfl
    have f_20 : (Walk_at sWalk_4).toInt = (((Walk_at sWalk_1) + 1) : Int32).toInt := by subst e_16; rfl
    have f_21 : (Walk_come sWalk_4).toInt = (Walk_come sWalk_1).toInt := by subst e_16; rfl
    have f_22 : (Walk_dueKind sWalk_4).toInt = (Walk_dueKind sWalk_1).toInt := by subst e_16; rfl
    have f_23 : (Walk_dueCode sWalk_4).toInt = (Walk_dueCode sWalk_1).toInt := by subst e_16; rfl
    have f_24 : (Walk_dueBits sWalk_4).toInt = (Walk_dueBits sWalk_1).toInt := by subst e_16; rfl
    refine So.bd (t_Desc_operatorOf hf) fun q5 h_25 => ?_
    have p_26 := h_25
    refine So.bd (t_Desc_isElement ) fun q6 h_27 => ?_
    have p_28 := h_27
    refine So.ite (fun c_29 => ?_) (fun c_29 => ?_)
    · rw [i_eq] at c_29
      have k_30 : (0 : Int32).toInt = 0 := by decide
      refine So.bd (t_Desc_isRepeat ) fun q7 h_31 => ?_
      have p_32 := h_31
      refine So.ite (fun c_33 => ?_) (fun c_33 => ?_)
      · rw [i_eq] at c_33
        refine So.ite (fun c_34 => ?_) (fun c_34 => ?_)
        · rw [i_eq] at c_34
          have k_35 : ((-1) : Int32).toInt = -1 := by decide
          refine So.bd (t_Desc_bitsOf ) fun q8 h_36 => ?_
          have p_37 := h_36
          refine So.ite (fun c_38 => ?_) (fun c_38 => ?_)
          · rw [i_eq] at c_38
            refine So.bd (t_Desc_isMark ) fun q9 h_39 => ?_
            have p_40 := h_39
            refine So.ite (fun c_41 => ?_) (fun c_41 => ?_)
            · rw [i_eq] at c_41
              exact So.one ⟨I_18, I_sLps, (by show (Walk_elementCount sWalk_4).toInt ≤ (Fld_count sFld).toInt; omega), (by show (Walk_dueKind sWalk_4).toInt ≠ 3 ∨ (1 ≤ (Walk_dueBits sWalk_4).toInt ∧ (Walk_dueBits sWalk_4).toInt ≤ (Walk_elementCount sWalk_4).toInt); omega), (by show (Walk_dueKind sWalk_4).toInt < 0 ∨ 3 ≤ (Walk_dueKind sWalk_4).toInt ∨ (0 ≤ (Walk_dueCode sWalk_4).toInt ∧ (Walk_dueCode sWalk_4).toInt < 64); omega)⟩
            · rw [i_eq] at c_41
              refine So.lt2 fun sWalk_10 e_42 => ?_
              have I_43 : I_Walk sWalk_10 := by rw [e_42]; exact (I_Walk_set_dueKind I_18)
              have k_44 : (4 : Int32).toInt = 4 := by decide
              have f_45 : (Walk_elementCount sWalk_10).toInt = (Walk_elementCount sWalk_4).toInt := by subst e_42; rfl
              have f_46 : (Walk_at sWalk_10).toInt = (Walk_at sWalk_4).toInt := by subst e_42; rfl
              have f_47 : (Walk_come sWalk_10).toInt = (Walk_come sWalk_4).toInt := by subst e_42; rfl
              have f_48 : (Walk_dueKind sWalk_10).toInt = (4 : Int32).toInt := by subst e_42; rfl
              have f_49 : (Walk_dueCode sWalk_10).toInt = (Walk_dueCode sWalk_4).toInt := by subst e_42; rfl
              have f_50 : (Walk_dueBits sWalk_10).toInt = (Walk_dueBits sWalk_4).toInt := by subst e_42; rfl
              exact So.one ⟨I_43, I_sLps, (by show (Walk_elementCount sWalk_10).toInt ≤ (Fld_count sFld).toInt; omega), (by show (Walk_dueKind sWalk_10).toInt ≠ 3 ∨ (1 ≤ (Walk_dueBits sWalk_10).toInt ∧ (Walk_dueBits sWalk_10).toInt ≤ (Walk_elementCount sWalk_10).toInt); omega), (by show (Walk_dueKind sWalk_10).toInt < 0 ∨ 3 ≤ (Walk_dueKind sWalk_10).toInt ∨ (0 ≤ (Walk_dueCode sWalk_10).toInt ∧ (Walk_dueCode sWalk_10).toInt < 64); omega)⟩
          · rw [i_eq] at c_38
            refine So.bd (t_Desc_bitsOf ) fun q12 h_51 => ?_
            have p_52 := h_51
            have f_53 := I_Fld_count I_sFld
            have f_54 := I_Walk_elementCount I_18
            refine So.bd (t_Walk_comeToBits I_sFld I_18 (by show (Walk_elementCount sWalk_4).toInt ≤ (Fld_count sFld).toInt; omega) (by show (Walk_dueKind sWalk_4).toInt ≠ 3 ∨ (1 ≤ (Walk_dueBits sWalk_4).toInt ∧ (Walk_dueBits sWalk_4).toInt ≤ (Walk_elementCount sWalk_4).toInt); omega) (by show (Walk_dueKind sWalk_4).toInt < 0 ∨ 3 ≤ (Walk_dueKind sWalk_4).toInt ∨ (0 ≤ (Walk_dueCode sWalk_4).toInt ∧ (Walk_dueCode sWalk_4).toInt < 64); omega) (by show 1 ≤ q12.toInt; omega) (by show q12.toInt ≤ 16; omega) (by show (Walk_dueKind sWalk_4).toInt < 0 ∨ 4 < (Walk_dueKind sWalk_4).toInt; omega)) fun q13 h_55 => ?_
            obtain ⟨p_56, p_57, p_58, p_59⟩ := h_55
            exact So.one ⟨p_56, I_sLps, (by show (Walk_elementCount q13).toInt ≤ (Fld_count sFld).toInt; omega), (by show (Walk_dueKind q13).toInt ≠ 3 ∨ (1 ≤ (Walk_dueBits q13).toInt ∧ (Walk_dueBits q13).toInt ≤ (Walk_elementCount q13).toInt); omega), (by show (Walk_dueKind q13).toInt < 0 ∨ 3 ≤ (Walk_dueKind q13).toInt ∨ (0 ≤ (Walk_dueCode q13).toInt ∧ (Walk_dueCode q13).toInt < 64); omega)⟩
        · rw [i_eq] at c_34
          have k_60 : ((-1) : Int32).toInt = -1 := by decide
          refine So.bd (t_Desc_settingOf (by show 0 ≤ q5.toInt; omega) (by show q5.toInt < 4; omega)) fun q15 h_61 => ?_
          have p_62 := h_61
          refine So.gd (i_in.mpr (by omega)) ?_
          refine So.lt2 fun sWalk_17 e_63 => ?_
          have I_64 : I_Walk sWalk_17 := by rw [e_63]; exact (I_Walk_put_settings I_18 (by show -80 ≤ (q15 : Int32).toInt ∧ (q15 : Int32).toInt ≤ 87; omega))
          have f_65 : (Walk_elementCount sWalk_17).toInt = (Walk_elementCount sWalk_4).toInt := by subst e_63; rfl
          have f_66 : (Walk_at sWalk_17).toInt = (Walk_at sWalk_4).toInt := by subst e_63; rfl
          have f_67 : (Walk_come sWalk_17).toInt = (Walk_come sWalk_4).toInt := by subst e_63; rfl
          have f_68 : (Walk_dueKind sWalk_17).toInt = (Walk_dueKind sWalk_4).toInt := by subst e_63; rfl
          have f_69 : (Walk_dueCode sWalk_17).toInt = (Walk_dueCode sWalk_4).toInt := by subst e_63; rfl
          have f_70 : (Walk_dueBits sWalk_17).toInt = (Walk_dueBits sWalk_4).toInt := by subst e_63; rfl
          exact So.one ⟨I_64, I_sLps, (by show (Walk_elementCount sWalk_17).toInt ≤ (Fld_count sFld).toInt; omega), (by show (Walk_dueKind sWalk_17).toInt ≠ 3 ∨ (1 ≤ (Walk_dueBits sWalk_17).toInt ∧ (Walk_dueBits sWalk_17).toInt ≤ (Walk_elementCount sWalk_17).toInt); omega), (by show (Walk_dueKind sWalk_17).toInt < 0 ∨ 3 ≤ (Walk_dueKind sWalk_17).toInt ∨ (0 ≤ (Walk_dueCode sWalk_17).toInt ∧ (Walk_dueCode sWalk_17).toInt < 64); omega)⟩
      · rw [i_eq] at c_33
        refine So.bd (t_Desc_timesOf (by show 216 ≤ u3.toInt; omega) (by show u3.toInt ≤ 343; omega)) fun q19 h_71 => ?_
        obtain ⟨p_72, p_73⟩ := h_71
        have f_74 := I_Walk_at I_18
        first | have f_75 := i_sub (a := (Walk_at sWalk_4)) (b := 1) (by omega) (by omega) | have f_75 := i_subm (Walk_at sWalk_4) 1
        refine So.gd (i_in.mpr (by omega)) ?_
        have f_76 := I_Walk_elementCount I_18
        refine So.bd (t_Walk_comeToRepeat I_18 I_sLps (by show 0 ≤ (Walk_at sWalk_4).toInt; omega)) fun q21 h_77 => ?_
        obtain ⟨p_78, p_79, p_80, p_81, p_82, p_83⟩ := h_77
        exact So.one ⟨p_78, p_79, (by show (Walk_elementCount q21.1).toInt ≤ (Fld_count sFld).toInt; omega), (by show (Walk_dueKind q21.1).toInt ≠ 3 ∨ (1 ≤ (Walk_dueBits q21.1).toInt ∧ (Walk_dueBits q21.1).toInt ≤ (Walk_elementCount q21.1).toInt); omega), (by show (Walk_dueKind q21.1).toInt < 0 ∨ 3 ≤ (Walk_dueKind q21.1).toInt ∨ (0 ≤ (Walk_dueCode q21.1).toInt ∧ (Walk_dueCode q21.1).toInt < 64); omega)⟩
    · rw [i_eq] at c_29
      have k_84 : (0 : Int32).toInt = 0 := by decide
      have f_85 := I_Walk_elementCount I_18
      refine So.bd (t_Walk_comeToElement I_18 (by show 0 ≤ u3.toInt; omega) (by show u3.toInt < 64; omega)) fun q23 h_86 => ?_
      obtain ⟨p_87, p_88, p_89, p_90⟩ := h_86
      exact So.one ⟨p_87, I_sLps, (by show (Walk_elementCount q23).toInt ≤ (Fld_count sFld).toInt; omega), (by show (Walk_dueKind q23).toInt ≠ 3 ∨ (1 ≤ (Walk_dueBits q23).toInt ∧ (Walk_dueBits q23).toInt ≤ (Walk_elementCount q23).toInt); omega), (by show (Walk_dueKind q23).toInt < 0 ∨ 3 ≤ (Walk_dueKind q23).toInt ∨ (0 ≤ (Walk_dueCode q23).toInt ∧ (Walk_dueCode q23).toInt < 64); omega)⟩
  · rw [i_le] at c_11
    have k_91 : (2000 : Int32).toInt = 2000 := by decide
    have f_92 := I_Walk_elementCount I_2
    refine So.bd (t_Walk_fail I_2) fun q25 h_93 => ?_
    obtain ⟨p_94, p_95, p_96, p_97, p_98⟩ := h_93
    exact So.one ⟨p_94, I_sLps, (by show (Walk_elementCount q25).toInt ≤ (Fld_count sFld).toInt; omega), (by show (Walk_dueKind q25).toInt ≠ 3 ∨ (1 ≤ (Walk_dueBits q25).toInt ∧ (Walk_dueBits q25).toInt ≤ (Walk_elementCount q25).toInt); omega), (by show (Walk_dueKind q25).toInt < 0 ∨ 3 ≤ (Walk_dueKind q25).toInt ∨ (0 ≤ (Walk_dueCode q25).toInt ∧ (Walk_dueCode q25).toInt < 64); omega)⟩
theorem t_Walk_settle {sFld : S_Fld} {a0 : Int64} {sWalk : S_Walk} {sLps : S_Lps} (I_sFld : I_Fld sFld) (I_sWalk : I_Walk sWalk) (I_sLps : I_Lps sLps) (g_0 : (Walk_elementCount sWalk).toInt ≤ (Fld_count sFld).toInt) (g_1 : (Walk_dueKind sWalk).toInt ≠ 3 ∨ (1 ≤ (Walk_dueBits sWalk).toInt ∧ (Walk_dueBits sWalk).toInt ≤ (Walk_elementCount sWalk).toInt)) (g_2 : (Walk_dueKind sWalk).toInt < 0 ∨ 3 ≤ (Walk_dueKind sWalk).toInt ∨ (0 ≤ (Walk_dueCode sWalk).toInt ∧ (Walk_dueCode sWalk).toInt < 64)) (g_3 : (Fld_kinds sFld ((Fld_count sFld) - 1).toNatClampNeg).toInt ≠ 3 ∨ (0 ≤ (Fld_targets sFld ((Fld_count sFld) - 1).toNatClampNeg).toInt ∧ (Fld_targets sFld ((Fld_count sFld) - 1).toNatClampNeg).toInt ≤ 99)) : So (Walk_settle sFld a0 sWalk sLps) (fun r => I_Walk r.1 ∧ I_Lps r.2 ∧ ((Walk_elementCount r.1).toInt ≤ (Fld_count sFld).toInt) ∧ ((Walk_dueKind r.1).toInt ≠ 3 ∨ (1 ≤ (Walk_dueBits r.1).toInt ∧ (Walk_dueBits r.1).toInt ≤ (Walk_elementCount r.1).toInt)) ∧ ((Walk_dueKind r.1).toInt < 0 ∨ 3 ≤ (Walk_dueKind r.1).toInt ∨ (0 ≤ (Walk_dueCode r.1).toInt ∧ (Walk_dueCode r.1).toInt < 64))) := by
  unfold Walk_settle
  refine So.ite (fun c_1 => ?_) (fun c_1 => ?_)
  · rw [i_lt] at c_1
    have f_2 := I_Fld_count I_sFld
    have k_3 : (1 : Int32).toInt = 1 := by decide
    first | have f_4 := i_sub (a := (Fld_count sFld)) (b := 1) (by omega) (by omega) | have f_4 := i_subm (Fld_count sFld) 1
    have k_5 : (0 : Int32).toInt = 0 := by decide
    exact So.one ⟨I_sWalk, I_sLps, (by show (Walk_elementCount sWalk).toInt ≤ (Fld_count sFld).toInt; omega), (by show (Walk_dueKind sWalk).toInt ≠ 3 ∨ (1 ≤ (Walk_dueBits sWalk).toInt ∧ (Walk_dueBits sWalk).toInt ≤ (Walk_elementCount sWalk).toInt); omega), (by show (Walk_dueKind sWalk).toInt < 0 ∨ 3 ≤ (Walk_dueKind sWalk).toInt ∨ (0 ≤ (Walk_dueCode sWalk).toInt ∧ (Walk_dueCode sWalk).toInt < 64); omega)⟩
  · rw [i_lt] at c_1
    have f_6 := I_Fld_count I_sFld
    have k_7 : (1 : Int32).toInt = 1 := by decide
    first | have f_8 := i_sub (a := (Fld_count sFld)) (b := 1) (by omega) (by omega) | have f_8 := i_subm (Fld_count sFld) 1
    have k_9 : (0 : Int32).toInt = 0 := by decide
    refine So.bd (t_Fld_isCountOrBit I_sFld (by show 0 ≤ ((Fld_count sFld) - 1).toInt; omega) (by show ((Fld_count sFld) - 1).toInt < 100; omega)) fun q1 h_10 => ?_
    have p_11 := h_10
    refine So.ite (fun c_12 => ?_) (fun c_12 => ?_)
    · rw [i_eq] at c_12
      exact So.one ⟨I_sWalk, I_sLps, (by show (Walk_elementCount sWalk).toInt ≤ (Fld_count sFld).toInt; omega), (by show (Walk_dueKind sWalk).toInt ≠ 3 ∨ (1 ≤ (Walk_dueBits sWalk).toInt ∧ (Walk_dueBits sWalk).toInt ≤ (Walk_elementCount sWalk).toInt); omega), (by show (Walk_dueKind sWalk).toInt < 0 ∨ 3 ≤ (Walk_dueKind sWalk).toInt ∨ (0 ≤ (Walk_dueCode sWalk).toInt ∧ (Walk_dueCode sWalk).toInt < 64); omega)⟩
    · rw [i_eq] at c_12
      refine So.gd (i_in.mpr (by omega)) ?_
      refine So.ite (fun c_13 => ?_) (fun c_13 => ?_)
      · rw [i_eq] at c_13
        have k_14 : (2 : Int32).toInt = 2 := by decide
        unfold Walk_settle_j44
        refine So.neg (by decide) ?_
        unfold Walk_settle_j56
        refine So.neg (by decide) ?_
        unfold Walk_settle_j70
        refine So.ite (fun c_17 => ?_) (fun c_17 => ?_)
        · have f_18 := I_Walk_elementCount I_sWalk
          refine So.bd (t_Walk_fail I_sWalk) fun q8 h_19 => ?_
          obtain ⟨p_20, p_21, p_22, p_23, p_24⟩ := h_19
          exact So.one ⟨p_20, I_sLps, (by show (Walk_elementCount q8).toInt ≤ (Fld_count sFld).toInt; omega), (by show (Walk_dueKind q8).toInt ≠ 3 ∨ (1 ≤ (Walk_dueBits q8).toInt ∧ (Walk_dueBits q8).toInt ≤ (Walk_elementCount q8).toInt); omega), (by show (Walk_dueKind q8).toInt < 0 ∨ 3 ≤ (Walk_dueKind q8).toInt ∨ (0 ≤ (Walk_dueCode q8).toInt ∧ (Walk_dueCode q8).toInt < 64); omega)⟩
        · refine So.ite (fun c_25 => ?_) (fun c_25 => ?_)
          · refine So.neg (by decide) ?_
            have f_27 := I_Walk_at I_sWalk
            refine So.bd (t_Lps_enter I_sLps (by show 0 ≤ (Walk_at sWalk).toInt; omega) (by show (Walk_at sWalk).toInt ≤ 1000; omega)) fun q15 h_28 => ?_
            have p_29 := h_28
            refine So.lt2 fun sWalk_16 e_30 => ?_
            have I_31 : I_Walk sWalk_16 := by rw [e_30]; exact (I_Walk_set_countedEnd I_sWalk)
            have k_32 : ((-1) : Int32).toInt = -1 := by decide
            have f_33 : (Walk_elementCount sWalk_16).toInt = (Walk_elementCount sWalk).toInt := by subst e_30; rfl
            have f_34 : (Walk_pointedCount sWalk_16).toInt = (Walk_pointedCount sWalk).toInt := by subst e_30; rfl
            have f_35 : (Walk_at sWalk_16).toInt = (Walk_at sWalk).toInt := by subst e_30; rfl
            have f_36 : (Walk_dueKind sWalk_16).toInt = (Walk_dueKind sWalk).toInt := by subst e_30; rfl
            have f_37 : (Walk_dueCode sWalk_16).toInt = (Walk_dueCode sWalk).toInt := by subst e_30; rfl
            have f_38 : (Walk_dueBits sWalk_16).toInt = (Walk_dueBits sWalk).toInt := by subst e_30; rfl
            have f_39 : (Walk_countedEnd sWalk_16).toInt = ((-1) : Int32).toInt := by subst e_30; rfl
            exact So.one ⟨I_31, p_29, (by show (Walk_elementCount sWalk_16).toInt ≤ (Fld_count sFld).toInt; omega), (by show (Walk_dueKind sWalk_16).toInt ≠ 3 ∨ (1 ≤ (Walk_dueBits sWalk_16).toInt ∧ (Walk_dueBits sWalk_16).toInt ≤ (Walk_elementCount sWalk_16).toInt); omega), (by show (Walk_dueKind sWalk_16).toInt < 0 ∨ 3 ≤ (Walk_dueKind sWalk_16).toInt ∨ (0 ≤ (Walk_dueCode sWalk_16).toInt ∧ (Walk_dueCode sWalk_16).toInt < 64); omega)⟩
          · have f_40 := I_Walk_elementCount I_sWalk
            refine So.bd (t_Walk_fail I_sWalk) fun q18 h_41 => ?_
            obtain ⟨p_42, p_43, p_44, p_45, p_46⟩ := h_41
            exact So.one ⟨p_42, I_sLps, (by show (Walk_elementCount q18).toInt ≤ (Fld_count sFld).toInt; omega), (by show (Walk_dueKind q18).toInt ≠ 3 ∨ (1 ≤ (Walk_dueBits q18).toInt ∧ (Walk_dueBits q18).toInt ≤ (Walk_elementCount q18).toInt); omega), (by show (Walk_dueKind q18).toInt < 0 ∨ 3 ≤ (Walk_dueKind q18).toInt ∨ (0 ≤ (Walk_dueCode q18).toInt ∧ (Walk_dueCode q18).toInt < 64); omega)⟩
      · rw [i_eq] at c_13
        have k_47 : (2 : Int32).toInt = 2 := by decide
        unfold Walk_settle_j44
        refine So.pos (by decide) ?_
        unfold Walk_settle_j56
        refine So.pos (by decide) ?_
        unfold Walk_settle_j70
        refine So.ite (fun c_50 => ?_) (fun c_50 => ?_)
        · have f_51 := I_Walk_elementCount I_sWalk
          refine So.bd (t_Walk_fail I_sWalk) fun q8 h_52 => ?_
          obtain ⟨p_53, p_54, p_55, p_56, p_57⟩ := h_52
          exact So.one ⟨p_53, I_sLps, (by show (Walk_elementCount q8).toInt ≤ (Fld_count sFld).toInt; omega), (by show (Walk_dueKind q8).toInt ≠ 3 ∨ (1 ≤ (Walk_dueBits q8).toInt ∧ (Walk_dueBits q8).toInt ≤ (Walk_elementCount q8).toInt); omega), (by show (Walk_dueKind q8).toInt < 0 ∨ 3 ≤ (Walk_dueKind q8).toInt ∨ (0 ≤ (Walk_dueCode q8).toInt ∧ (Walk_dueCode q8).toInt < 64); omega)⟩
        · refine So.ite (fun c_58 => ?_) (fun c_58 => ?_)
          · refine So.pos (by decide) ?_
            refine So.ite (fun c_60 => ?_) (fun c_60 => ?_)
            · refine So.ite (fun c_61 => ?_) (fun c_61 => ?_)
              · rw [i_le] at c_61
                have f_62 := i_of (n := 16) (by omega)
                have f_63 := I_Walk_pointedCount I_sWalk
                exact So.one ⟨I_sWalk, I_sLps, (by show (Walk_elementCount sWalk).toInt ≤ (Fld_count sFld).toInt; omega), (by show (Walk_dueKind sWalk).toInt ≠ 3 ∨ (1 ≤ (Walk_dueBits sWalk).toInt ∧ (Walk_dueBits sWalk).toInt ≤ (Walk_elementCount sWalk).toInt); omega), (by show (Walk_dueKind sWalk).toInt < 0 ∨ 3 ≤ (Walk_dueKind sWalk).toInt ∨ (0 ≤ (Walk_dueCode sWalk).toInt ∧ (Walk_dueCode sWalk).toInt < 64); omega)⟩
              · rw [i_le] at c_61
                have f_64 := i_of (n := 16) (by omega)
                have f_65 := I_Walk_pointedCount I_sWalk
                refine So.gd (i_in.mpr (by omega)) ?_
                refine So.gd (i_in.mpr (by omega)) ?_
                have f_67 := I_Fld_targets I_sFld (((Fld_count sFld) - 1).toNatClampNeg)
                refine So.lt2 fun sWalk_11 e_66 => ?_
                have I_68 : I_Walk sWalk_11 := by rw [e_66]; exact (I_Walk_put_pointed I_sWalk (by show 0 ≤ ((Fld_targets sFld (((Fld_count sFld) - 1).toNatClampNeg)) : Int32).toInt ∧ ((Fld_targets sFld (((Fld_count sFld) - 1).toNatClampNeg)) : Int32).toInt ≤ 99; omega))
                have f_69 : (Walk_elementCount sWalk_11).toInt = (Walk_elementCount sWalk).toInt := by subst e_66; rfl
                have f_70 : (Walk_pointedCount sWalk_11).toInt = (Walk_pointedCount sWalk).toInt := by subst e_66; rfl
                have f_71 : (Walk_at sWalk_11).toInt = (Walk_at sWalk).toInt := by subst e_66; rfl
                have f_72 : (Walk_dueKind sWalk_11).toInt = (Walk_dueKind sWalk).toInt := by subst e_66; rfl
                have f_73 : (Walk_dueCode sWalk_11).toInt = (Walk_dueCode sWalk).toInt := by subst e_66; rfl
                have f_74 : (Walk_dueBits sWalk_11).toInt = (Walk_dueBits sWalk).toInt := by subst e_66; rfl
                have f_75 : (Walk_countedEnd sWalk_11).toInt = (Walk_countedEnd sWalk).toInt := by subst e_66; rfl
                have f_77 := I_Walk_pointedCount I_68
                first | have f_78 := i_add (a := (Walk_pointedCount sWalk_11)) (b := 1) (by omega) (by omega) | have f_78 := i_addm (Walk_pointedCount sWalk_11) 1
                refine So.lt2 fun sWalk_12 e_76 => ?_
                have I_79 : I_Walk sWalk_12 := by rw [e_76]; exact (I_Walk_set_pointedCount I_68 (by show 0 ≤ (((Walk_pointedCount sWalk_11) + 1) : Int32).toInt ∧ (((Walk_pointedCount sWalk_11) + 1) : Int32).toInt ≤ 16; omega))
                have f_80 : (Walk_elementCount sWalk_12).toInt = (Walk_elementCount sWalk_11).toInt := by subst e_76; rfl
                have f_81 : (Walk_pointedCount sWalk_12).toInt = (((Walk_pointedCount sWalk_11) + 1) : Int32).toInt := by subst e_76; rfl
                have f_82 : (Walk_at sWalk_12).toInt = (Walk_at sWalk_11).toInt := by subst e_76; rfl
                have f_83 : (Walk_dueKind sWalk_12).toInt = (Walk_dueKind sWalk_11).toInt := by subst e_76; rfl
                have f_84 : (Walk_dueCode sWalk_12).toInt = (Walk_dueCode sWalk_11).toInt := by subst e_76; rfl
                have f_85 : (Walk_dueBits sWalk_12).toInt = (Walk_dueBits sWalk_11).toInt := by subst e_76; rfl
                have f_86 : (Walk_countedEnd sWalk_12).toInt = (Walk_countedEnd sWalk_11).toInt := by subst e_76; rfl
                exact So.one ⟨I_79, I_sLps, (by show (Walk_elementCount sWalk_12).toInt ≤ (Fld_count sFld).toInt; omega), (by show (Walk_dueKind sWalk_12).toInt ≠ 3 ∨ (1 ≤ (Walk_dueBits sWalk_12).toInt ∧ (Walk_dueBits sWalk_12).toInt ≤ (Walk_elementCount sWalk_12).toInt); omega), (by show (Walk_dueKind sWalk_12).toInt < 0 ∨ 3 ≤ (Walk_dueKind sWalk_12).toInt ∨ (0 ≤ (Walk_dueCode sWalk_12).toInt ∧ (Walk_dueCode sWalk_12).toInt < 64); omega)⟩
            · exact So.one ⟨I_sWalk, I_sLps, (by show (Walk_elementCount sWalk).toInt ≤ (Fld_count sFld).toInt; omega), (by show (Walk_dueKind sWalk).toInt ≠ 3 ∨ (1 ≤ (Walk_dueBits sWalk).toInt ∧ (Walk_dueBits sWalk).toInt ≤ (Walk_elementCount sWalk).toInt); omega), (by show (Walk_dueKind sWalk).toInt < 0 ∨ 3 ≤ (Walk_dueKind sWalk).toInt ∨ (0 ≤ (Walk_dueCode sWalk).toInt ∧ (Walk_dueCode sWalk).toInt < 64); omega)⟩
          · have f_87 := I_Walk_elementCount I_sWalk
            refine So.bd (t_Walk_fail I_sWalk) fun q18 h_88 => ?_
            obtain ⟨p_89, p_90, p_91, p_92, p_93⟩ := h_88
            exact So.one ⟨p_89, I_sLps, (by show (Walk_elementCount q18).toInt ≤ (Fld_count sFld).toInt; omega), (by show (Walk_dueKind q18).toInt ≠ 3 ∨ (1 ≤ (Walk_dueBits q18).toInt ∧ (Walk_dueBits q18).toInt ≤ (Walk_elementCount q18).toInt); omega), (by show (Walk_dueKind q18).toInt < 0 ∨ 3 ≤ (Walk_dueKind q18).toInt ∨ (0 ≤ (Walk_dueCode q18).toInt ∧ (Walk_dueCode q18).toInt < 64); omega)⟩
theorem t_Walk_advance_L10 {fu : Nat} {sTab : S_Tab} {sProg : S_Prog} {x1_L10 : Int32} {ke_10 : S_Walk → S_Fld → S_Lps → Option (Int32 × S_Walk × S_Fld × S_Lps)} {P : Int32 × S_Walk × S_Fld × S_Lps → Prop} (hf : 12000 ≤ fu) (I_sTab : I_Tab sTab) (I_sProg : I_Prog sProg) (hke_10 : ∀ (y0 : S_Walk) (y1 : S_Fld) (y2 : S_Lps), I_Walk y0 → I_Fld y1 → I_Lps y2 → ((Walk_elementCount y0).toInt ≤ (Fld_count y1).toInt) → ((Walk_dueKind y0).toInt ≠ 3 ∨ (1 ≤ (Walk_dueBits y0).toInt ∧ (Walk_dueBits y0).toInt ≤ (Walk_elementCount y0).toInt)) → ((Walk_dueKind y0).toInt < 0 ∨ 3 ≤ (Walk_dueKind y0).toInt ∨ (0 ≤ (Walk_dueCode y0).toInt ∧ (Walk_dueCode y0).toInt < 64)) → ((Fld_count y1).toInt = x1_L10.toInt ∨ ((Fld_kinds y1 ((Fld_count y1) - 1).toNatClampNeg).toInt ≠ 3 ∨ (0 ≤ (Fld_targets y1 ((Fld_count y1) - 1).toNatClampNeg).toInt ∧ (Fld_targets y1 ((Fld_count y1) - 1).toNatClampNeg).toInt ≤ 99))) → So (ke_10 y0 y1 y2) P) (hP : ∀ r, I_Walk r.2.1 ∧ I_Fld r.2.2.1 ∧ I_Lps r.2.2.2 ∧ ((Walk_elementCount r.2.1).toInt ≤ (Fld_count r.2.2.1).toInt) ∧ ((Walk_dueKind r.2.1).toInt ≠ 3 ∨ (1 ≤ (Walk_dueBits r.2.1).toInt ∧ (Walk_dueBits r.2.1).toInt ≤ (Walk_elementCount r.2.1).toInt)) ∧ ((Walk_dueKind r.2.1).toInt < 0 ∨ 3 ≤ (Walk_dueKind r.2.1).toInt ∨ (0 ≤ (Walk_dueCode r.2.1).toInt ∧ (Walk_dueCode r.2.1).toInt < 64)) ∧ (r.1.toInt = 0 ∨ ((Fld_kinds r.2.2.1 ((Fld_count r.2.2.1) - 1).toNatClampNeg).toInt ≠ 3 ∨ (0 ≤ (Fld_targets r.2.2.1 ((Fld_count r.2.2.1) - 1).toNatClampNeg).toInt ∧ (Fld_targets r.2.2.1 ((Fld_count r.2.2.1) - 1).toNatClampNeg).toInt ≤ 99))) → P r) : ∀ (n : Nat) (x2_L10 : Int32) (sWalk_L10 : S_Walk) (sFld_L10 : S_Fld) (sLps_L10 : S_Lps), I_Walk sWalk_L10 → I_Fld sFld_L10 → I_Lps sLps_L10 → (0 ≤ x2_L10.toInt) → (x2_L10.toInt ≤ 2001) → ((Walk_elementCount sWalk_L10).toInt ≤ (Fld_count sFld_L10).toInt) → ((Walk_dueKind sWalk_L10).toInt ≠ 3 ∨ (1 ≤ (Walk_dueBits sWalk_L10).toInt ∧ (Walk_dueBits sWalk_L10).toInt ≤ (Walk_elementCount sWalk_L10).toInt)) → ((Walk_dueKind sWalk_L10).toInt < 0 ∨ 3 ≤ (Walk_dueKind sWalk_L10).toInt ∨ (0 ≤ (Walk_dueCode sWalk_L10).toInt ∧ (Walk_dueCode sWalk_L10).toInt < 64)) → ((Fld_count sFld_L10).toInt = x1_L10.toInt ∨ ((Fld_kinds sFld_L10 ((Fld_count sFld_L10) - 1).toNatClampNeg).toInt ≠ 3 ∨ (0 ≤ (Fld_targets sFld_L10 ((Fld_count sFld_L10) - 1).toNatClampNeg).toInt ∧ (Fld_targets sFld_L10 ((Fld_count sFld_L10) - 1).toNatClampNeg).toInt ≤ 99))) → (2002 - x2_L10.toInt < (n : Nat)) → So (Walk_advance_L10 fu sTab sProg x1_L10 ke_10 n x2_L10 sWalk_L10 sFld_L10 sLps_L10) P
  | 0, x2_L10, sWalk_L10, sFld_L10, sLps_L10, I_sWalk_L10, I_sFld_L10, I_sLps_L10, l_0, l_1, l_2, l_3, l_4, l_5, l_6 => absurd l_6 (by omega)
  | n + 1, x2_L10, sWalk_L10, sFld_L10, sLps_L10, I_sWalk_L10, I_sFld_L10, I_sLps_L10, l_0, l_1, l_2, l_3, l_4, l_5, l_6 => by
    rw [Walk_advance_L10]
    refine So.ite (fun c_1 => ?_) (fun c_1 => ?_)
    · rw [i_lt] at c_1
      have k_2 : (2000 : Int32).toInt = 2000 := by decide
      exact hke_10 _ _ _ I_sWalk_L10 I_sFld_L10 I_sLps_L10 (by show (Walk_elementCount sWalk_L10).toInt ≤ (Fld_count sFld_L10).toInt; omega) (by show (Walk_dueKind sWalk_L10).toInt ≠ 3 ∨ (1 ≤ (Walk_dueBits sWalk_L10).toInt ∧ (Walk_dueBits sWalk_L10).toInt ≤ (Walk_elementCount sWalk_L10).toInt); omega) (by show (Walk_dueKind sWalk_L10).toInt < 0 ∨ 3 ≤ (Walk_dueKind sWalk_L10).toInt ∨ (0 ≤ (Walk_dueCode sWalk_L10).toInt ∧ (Walk_dueCode sWalk_L10).toInt < 64); omega) (by show (Fld_count sFld_L10).toInt = x1_L10.toInt ∨ ((Fld_kinds sFld_L10 ((Fld_count sFld_L10) - 1).toNatClampNeg).toInt ≠ 3 ∨ (0 ≤ (Fld_targets sFld_L10 ((Fld_count sFld_L10) - 1).toNatClampNeg).toInt ∧ (Fld_targets sFld_L10 ((Fld_count sFld_L10) - 1).toNatClampNeg).toInt ≤ 99)); omega)
    · rw [i_lt] at c_1
      have k_3 : (2000 : Int32).toInt = 2000 := by decide
      refine So.ite (fun c_4 => ?_) (fun c_4 => ?_)
      · rw [i_eq] at c_4
        have k_5 : (0 : Int32).toInt = 0 := by decide
        refine So.ite (fun c_6 => ?_) (fun c_6 => ?_)
        · rw [i_eq] at c_6
          have f_7 := I_Fld_count I_sFld_L10
          refine So.ite (fun c_8 => ?_) (fun c_8 => ?_)
          · rw [i_eq] at c_8
            have f_9 := I_Walk_elementCount I_sWalk_L10
            refine So.bd (t_Walk_giveFromEntry hf I_sTab I_sLps_L10 I_sWalk_L10 I_sFld_L10 (by show (Walk_elementCount sWalk_L10).toInt ≤ (Fld_count sFld_L10).toInt; omega) (by show (Walk_dueKind sWalk_L10).toInt ≠ 3 ∨ (1 ≤ (Walk_dueBits sWalk_L10).toInt ∧ (Walk_dueBits sWalk_L10).toInt ≤ (Walk_elementCount sWalk_L10).toInt); omega) (by show (Walk_dueKind sWalk_L10).toInt < 0 ∨ 3 ≤ (Walk_dueKind sWalk_L10).toInt ∨ (0 ≤ (Walk_dueCode sWalk_L10).toInt ∧ (Walk_dueCode sWalk_L10).toInt < 64); omega) (by show (Walk_dueKind sWalk_L10).toInt = 0 ∨ (Walk_dueKind sWalk_L10).toInt = 2; omega)) fun q2 h_10 => ?_
            obtain ⟨p_11, p_12, p_13, p_14, p_15, p_16⟩ := h_10
            unfold Walk_advance_j135
            have k_17 : (1 : Int32).toInt = 1 := by decide
            first | have f_18 := i_add (a := x2_L10) (b := 1) (by omega) (by omega) | have f_18 := i_addm x2_L10 1
            have f_19 := I_Walk_elementCount p_11
            have f_20 := I_Fld_count p_12
            exact t_Walk_advance_L10 hf I_sTab I_sProg hke_10 hP n _ _ _ _ p_11 p_12 I_sLps_L10 (by show 0 ≤ (x2_L10 + 1).toInt; omega) (by show (x2_L10 + 1).toInt ≤ 2001; omega) (by show (Walk_elementCount q2.1).toInt ≤ (Fld_count q2.2).toInt; omega) (by show (Walk_dueKind q2.1).toInt ≠ 3 ∨ (1 ≤ (Walk_dueBits q2.1).toInt ∧ (Walk_dueBits q2.1).toInt ≤ (Walk_elementCount q2.1).toInt); omega) (by show (Walk_dueKind q2.1).toInt < 0 ∨ 3 ≤ (Walk_dueKind q2.1).toInt ∨ (0 ≤ (Walk_dueCode q2.1).toInt ∧ (Walk_dueCode q2.1).toInt < 64); omega) (by show (Fld_count q2.2).toInt = x1_L10.toInt ∨ ((Fld_kinds q2.2 ((Fld_count q2.2) - 1).toNatClampNeg).toInt ≠ 3 ∨ (0 ≤ (Fld_targets q2.2 ((Fld_count q2.2) - 1).toNatClampNeg).toInt ∧ (Fld_targets q2.2 ((Fld_count q2.2) - 1).toNatClampNeg).toInt ≤ 99)); omega) (by show 2002 - (x2_L10 + 1).toInt < (n : Nat); omega)
          · rw [i_eq] at c_8
            refine So.ite (fun c_21 => ?_) (fun c_21 => ?_)
            · rw [i_eq] at c_21
              have k_22 : (1 : Int32).toInt = 1 := by decide
              have f_23 := I_Walk_elementCount I_sWalk_L10
              refine So.bd (t_Walk_giveQuality I_sLps_L10 I_sWalk_L10 I_sFld_L10 (by show (Walk_elementCount sWalk_L10).toInt ≤ (Fld_count sFld_L10).toInt; omega) (by show (Walk_dueKind sWalk_L10).toInt ≠ 3 ∨ (1 ≤ (Walk_dueBits sWalk_L10).toInt ∧ (Walk_dueBits sWalk_L10).toInt ≤ (Walk_elementCount sWalk_L10).toInt); omega) (by show (Walk_dueKind sWalk_L10).toInt < 0 ∨ 3 ≤ (Walk_dueKind sWalk_L10).toInt ∨ (0 ≤ (Walk_dueCode sWalk_L10).toInt ∧ (Walk_dueCode sWalk_L10).toInt < 64); omega) (by show (Walk_dueKind sWalk_L10).toInt = 1; omega)) fun q4 h_24 => ?_
              obtain ⟨p_25, p_26, p_27, p_28, p_29, p_30⟩ := h_24
              unfold Walk_advance_j135
              first | have f_31 := i_add (a := x2_L10) (b := 1) (by omega) (by omega) | have f_31 := i_addm x2_L10 1
              have f_32 := I_Walk_elementCount p_25
              have f_33 := I_Fld_count p_26
              exact t_Walk_advance_L10 hf I_sTab I_sProg hke_10 hP n _ _ _ _ p_25 p_26 I_sLps_L10 (by show 0 ≤ (x2_L10 + 1).toInt; omega) (by show (x2_L10 + 1).toInt ≤ 2001; omega) (by show (Walk_elementCount q4.1).toInt ≤ (Fld_count q4.2).toInt; omega) (by show (Walk_dueKind q4.1).toInt ≠ 3 ∨ (1 ≤ (Walk_dueBits q4.1).toInt ∧ (Walk_dueBits q4.1).toInt ≤ (Walk_elementCount q4.1).toInt); omega) (by show (Walk_dueKind q4.1).toInt < 0 ∨ 3 ≤ (Walk_dueKind q4.1).toInt ∨ (0 ≤ (Walk_dueCode q4.1).toInt ∧ (Walk_dueCode q4.1).toInt < 64); omega) (by show (Fld_count q4.2).toInt = x1_L10.toInt ∨ ((Fld_kinds q4.2 ((Fld_count q4.2) - 1).toNatClampNeg).toInt ≠ 3 ∨ (0 ≤ (Fld_targets q4.2 ((Fld_count q4.2) - 1).toNatClampNeg).toInt ∧ (Fld_targets q4.2 ((Fld_count q4.2) - 1).toNatClampNeg).toInt ≤ 99)); omega) (by show 2002 - (x2_L10 + 1).toInt < (n : Nat); omega)
            · rw [i_eq] at c_21
              have k_34 : (1 : Int32).toInt = 1 := by decide
              refine So.ite (fun c_35 => ?_) (fun c_35 => ?_)
              · rw [i_eq] at c_35
                have k_36 : (2 : Int32).toInt = 2 := by decide
                have f_37 := I_Walk_elementCount I_sWalk_L10
                refine So.bd (t_Walk_giveFromEntry hf I_sTab I_sLps_L10 I_sWalk_L10 I_sFld_L10 (by show (Walk_elementCount sWalk_L10).toInt ≤ (Fld_count sFld_L10).toInt; omega) (by show (Walk_dueKind sWalk_L10).toInt ≠ 3 ∨ (1 ≤ (Walk_dueBits sWalk_L10).toInt ∧ (Walk_dueBits sWalk_L10).toInt ≤ (Walk_elementCount sWalk_L10).toInt); omega) (by show (Walk_dueKind sWalk_L10).toInt < 0 ∨ 3 ≤ (Walk_dueKind sWalk_L10).toInt ∨ (0 ≤ (Walk_dueCode sWalk_L10).toInt ∧ (Walk_dueCode sWalk_L10).toInt < 64); omega) (by show (Walk_dueKind sWalk_L10).toInt = 0 ∨ (Walk_dueKind sWalk_L10).toInt = 2; omega)) fun q6 h_38 => ?_
                obtain ⟨p_39, p_40, p_41, p_42, p_43, p_44⟩ := h_38
                unfold Walk_advance_j135
                first | have f_45 := i_add (a := x2_L10) (b := 1) (by omega) (by omega) | have f_45 := i_addm x2_L10 1
                have f_46 := I_Walk_elementCount p_39
                have f_47 := I_Fld_count p_40
                exact t_Walk_advance_L10 hf I_sTab I_sProg hke_10 hP n _ _ _ _ p_39 p_40 I_sLps_L10 (by show 0 ≤ (x2_L10 + 1).toInt; omega) (by show (x2_L10 + 1).toInt ≤ 2001; omega) (by show (Walk_elementCount q6.1).toInt ≤ (Fld_count q6.2).toInt; omega) (by show (Walk_dueKind q6.1).toInt ≠ 3 ∨ (1 ≤ (Walk_dueBits q6.1).toInt ∧ (Walk_dueBits q6.1).toInt ≤ (Walk_elementCount q6.1).toInt); omega) (by show (Walk_dueKind q6.1).toInt < 0 ∨ 3 ≤ (Walk_dueKind q6.1).toInt ∨ (0 ≤ (Walk_dueCode q6.1).toInt ∧ (Walk_dueCode q6.1).toInt < 64); omega) (by show (Fld_count q6.2).toInt = x1_L10.toInt ∨ ((Fld_kinds q6.2 ((Fld_count q6.2) - 1).toNatClampNeg).toInt ≠ 3 ∨ (0 ≤ (Fld_targets q6.2 ((Fld_count q6.2) - 1).toNatClampNeg).toInt ∧ (Fld_targets q6.2 ((Fld_count q6.2) - 1).toNatClampNeg).toInt ≤ 99)); omega) (by show 2002 - (x2_L10 + 1).toInt < (n : Nat); omega)
              · rw [i_eq] at c_35
                have k_48 : (2 : Int32).toInt = 2 := by decide
                refine So.ite (fun c_49 => ?_) (fun c_49 => ?_)
                · rw [i_eq] at c_49
                  have k_50 : (3 : Int32).toInt = 3 := by decide
                  have f_51 := I_Walk_elementCount I_sWalk_L10
                  refine So.bd (t_Walk_giveBit I_sLps_L10 I_sWalk_L10 I_sFld_L10 (by show (Walk_elementCount sWalk_L10).toInt ≤ (Fld_count sFld_L10).toInt; omega) (by show (Walk_dueKind sWalk_L10).toInt ≠ 3 ∨ (1 ≤ (Walk_dueBits sWalk_L10).toInt ∧ (Walk_dueBits sWalk_L10).toInt ≤ (Walk_elementCount sWalk_L10).toInt); omega) (by show (Walk_dueKind sWalk_L10).toInt < 0 ∨ 3 ≤ (Walk_dueKind sWalk_L10).toInt ∨ (0 ≤ (Walk_dueCode sWalk_L10).toInt ∧ (Walk_dueCode sWalk_L10).toInt < 64); omega) (by show (Walk_dueKind sWalk_L10).toInt = 3; omega)) fun q8 h_52 => ?_
                  obtain ⟨p_53, p_54, p_55, p_56, p_57, p_58⟩ := h_52
                  unfold Walk_advance_j135
                  first | have f_59 := i_add (a := x2_L10) (b := 1) (by omega) (by omega) | have f_59 := i_addm x2_L10 1
                  have f_60 := I_Walk_elementCount p_53
                  have f_61 := I_Fld_count p_54
                  exact t_Walk_advance_L10 hf I_sTab I_sProg hke_10 hP n _ _ _ _ p_53 p_54 I_sLps_L10 (by show 0 ≤ (x2_L10 + 1).toInt; omega) (by show (x2_L10 + 1).toInt ≤ 2001; omega) (by show (Walk_elementCount q8.1).toInt ≤ (Fld_count q8.2).toInt; omega) (by show (Walk_dueKind q8.1).toInt ≠ 3 ∨ (1 ≤ (Walk_dueBits q8.1).toInt ∧ (Walk_dueBits q8.1).toInt ≤ (Walk_elementCount q8.1).toInt); omega) (by show (Walk_dueKind q8.1).toInt < 0 ∨ 3 ≤ (Walk_dueKind q8.1).toInt ∨ (0 ≤ (Walk_dueCode q8.1).toInt ∧ (Walk_dueCode q8.1).toInt < 64); omega) (by show (Fld_count q8.2).toInt = x1_L10.toInt ∨ ((Fld_kinds q8.2 ((Fld_count q8.2) - 1).toNatClampNeg).toInt ≠ 3 ∨ (0 ≤ (Fld_targets q8.2 ((Fld_count q8.2) - 1).toNatClampNeg).toInt ∧ (Fld_targets q8.2 ((Fld_count q8.2) - 1).toNatClampNeg).toInt ≤ 99)); omega) (by show 2002 - (x2_L10 + 1).toInt < (n : Nat); omega)
                · rw [i_eq] at c_49
                  have k_62 : (3 : Int32).toInt = 3 := by decide
                  refine So.ite (fun c_63 => ?_) (fun c_63 => ?_)
                  · rw [i_eq] at c_63
                    have k_64 : (4 : Int32).toInt = 4 := by decide
                    have f_65 := I_Walk_elementCount I_sWalk_L10
                    refine So.bd (t_Walk_giveMark I_sLps_L10 I_sWalk_L10 I_sFld_L10 (by show (Walk_elementCount sWalk_L10).toInt ≤ (Fld_count sFld_L10).toInt; omega) (by show (Walk_dueKind sWalk_L10).toInt ≠ 3 ∨ (1 ≤ (Walk_dueBits sWalk_L10).toInt ∧ (Walk_dueBits sWalk_L10).toInt ≤ (Walk_elementCount sWalk_L10).toInt); omega) (by show (Walk_dueKind sWalk_L10).toInt < 0 ∨ 3 ≤ (Walk_dueKind sWalk_L10).toInt ∨ (0 ≤ (Walk_dueCode sWalk_L10).toInt ∧ (Walk_dueCode sWalk_L10).toInt < 64); omega)) fun q10 h_66 => ?_
                    obtain ⟨p_67, p_68, p_69, p_70, p_71, p_72⟩ := h_66
                    unfold Walk_advance_j135
                    first | have f_73 := i_add (a := x2_L10) (b := 1) (by omega) (by omega) | have f_73 := i_addm x2_L10 1
                    have f_74 := I_Walk_elementCount p_67
                    have f_75 := I_Fld_count p_68
                    exact t_Walk_advance_L10 hf I_sTab I_sProg hke_10 hP n _ _ _ _ p_67 p_68 I_sLps_L10 (by show 0 ≤ (x2_L10 + 1).toInt; omega) (by show (x2_L10 + 1).toInt ≤ 2001; omega) (by show (Walk_elementCount q10.1).toInt ≤ (Fld_count q10.2).toInt; omega) (by show (Walk_dueKind q10.1).toInt ≠ 3 ∨ (1 ≤ (Walk_dueBits q10.1).toInt ∧ (Walk_dueBits q10.1).toInt ≤ (Walk_elementCount q10.1).toInt); omega) (by show (Walk_dueKind q10.1).toInt < 0 ∨ 3 ≤ (Walk_dueKind q10.1).toInt ∨ (0 ≤ (Walk_dueCode q10.1).toInt ∧ (Walk_dueCode q10.1).toInt < 64); omega) (by show (Fld_count q10.2).toInt = x1_L10.toInt ∨ ((Fld_kinds q10.2 ((Fld_count q10.2) - 1).toNatClampNeg).toInt ≠ 3 ∨ (0 ≤ (Fld_targets q10.2 ((Fld_count q10.2) - 1).toNatClampNeg).toInt ∧ (Fld_targets q10.2 ((Fld_count q10.2) - 1).toNatClampNeg).toInt ≤ 99)); omega) (by show 2002 - (x2_L10 + 1).toInt < (n : Nat); omega)
                  · rw [i_eq] at c_63
                    have k_76 : (4 : Int32).toInt = 4 := by decide
                    have f_77 := I_Walk_at I_sWalk_L10
                    refine So.bd (t_Lps_onFrom hf I_sLps_L10 (by show 0 ≤ (Walk_at sWalk_L10).toInt; omega) (by show (Walk_at sWalk_L10).toInt ≤ 1000; omega)) fun q11 h_78 => ?_
                    obtain ⟨p_79, p_80, p_81⟩ := h_78
                    refine So.lt2 fun sWalk_12 e_82 => ?_
                    have I_83 : I_Walk sWalk_12 := by rw [e_82]; exact (I_Walk_set_at I_sWalk_L10 (by show 0 ≤ (q11.1 : Int32).toInt ∧ (q11.1 : Int32).toInt ≤ 1000; omega))
                    have f_84 : (Walk_fault sWalk_12).toInt = (Walk_fault sWalk_L10).toInt := by subst e_82; rfl
                    have f_85 : (Walk_elementCount sWalk_12).toInt = (Walk_elementCount sWalk_L10).toInt := by subst e_82; rfl
                    have f_86 : (Walk_at sWalk_12).toInt = (q11.1 : Int32).toInt := by subst e_82; rfl
                    have f_87 : (Walk_come sWalk_12).toInt = (Walk_come sWalk_L10).toInt := by subst e_82; rfl
                    have f_88 : (Walk_dueKind sWalk_12).toInt = (Walk_dueKind sWalk_L10).toInt := by subst e_82; rfl
                    have f_89 : (Walk_dueCode sWalk_12).toInt = (Walk_dueCode sWalk_L10).toInt := by subst e_82; rfl
                    have f_90 : (Walk_dueBits sWalk_12).toInt = (Walk_dueBits sWalk_L10).toInt := by subst e_82; rfl
                    refine So.ite (fun c_91 => ?_) (fun c_91 => ?_)
                    · rw [i_lt] at c_91
                      have f_92 := I_Walk_at I_83
                      have f_93 := I_Prog_size I_sProg
                      have f_94 := I_Walk_elementCount I_83
                      refine So.bd (t_Walk_comeToNext hf I_sProg I_sFld_L10 I_83 p_79 (by show (Walk_elementCount sWalk_12).toInt ≤ (Fld_count sFld_L10).toInt; omega) (by show (Walk_dueKind sWalk_12).toInt ≠ 3 ∨ (1 ≤ (Walk_dueBits sWalk_12).toInt ∧ (Walk_dueBits sWalk_12).toInt ≤ (Walk_elementCount sWalk_12).toInt); omega) (by show (Walk_dueKind sWalk_12).toInt < 0 ∨ 3 ≤ (Walk_dueKind sWalk_12).toInt ∨ (0 ≤ (Walk_dueCode sWalk_12).toInt ∧ (Walk_dueCode sWalk_12).toInt < 64); omega) (by show (Walk_dueKind sWalk_12).toInt < 0 ∨ 4 < (Walk_dueKind sWalk_12).toInt; omega) (by show (Walk_at sWalk_12).toInt < 1000; omega)) fun q13 h_95 => ?_
                      obtain ⟨p_96, p_97, p_98, p_99, p_100⟩ := h_95
                      unfold Walk_advance_j135
                      first | have f_101 := i_add (a := x2_L10) (b := 1) (by omega) (by omega) | have f_101 := i_addm x2_L10 1
                      have f_102 := I_Walk_elementCount p_96
                      exact t_Walk_advance_L10 hf I_sTab I_sProg hke_10 hP n _ _ _ _ p_96 I_sFld_L10 p_97 (by show 0 ≤ (x2_L10 + 1).toInt; omega) (by show (x2_L10 + 1).toInt ≤ 2001; omega) (by show (Walk_elementCount q13.1).toInt ≤ (Fld_count sFld_L10).toInt; omega) (by show (Walk_dueKind q13.1).toInt ≠ 3 ∨ (1 ≤ (Walk_dueBits q13.1).toInt ∧ (Walk_dueBits q13.1).toInt ≤ (Walk_elementCount q13.1).toInt); omega) (by show (Walk_dueKind q13.1).toInt < 0 ∨ 3 ≤ (Walk_dueKind q13.1).toInt ∨ (0 ≤ (Walk_dueCode q13.1).toInt ∧ (Walk_dueCode q13.1).toInt < 64); omega) (by show (Fld_count sFld_L10).toInt = x1_L10.toInt ∨ ((Fld_kinds sFld_L10 ((Fld_count sFld_L10) - 1).toNatClampNeg).toInt ≠ 3 ∨ (0 ≤ (Fld_targets sFld_L10 ((Fld_count sFld_L10) - 1).toNatClampNeg).toInt ∧ (Fld_targets sFld_L10 ((Fld_count sFld_L10) - 1).toNatClampNeg).toInt ≤ 99)); omega) (by show 2002 - (x2_L10 + 1).toInt < (n : Nat); omega)
                    · rw [i_lt] at c_91
                      have f_103 := I_Walk_at I_83
                      have f_104 := I_Prog_size I_sProg
                      exact So.one (hP _ ⟨I_83, I_sFld_L10, p_79, (by show (Walk_elementCount sWalk_12).toInt ≤ (Fld_count sFld_L10).toInt; omega), (by show (Walk_dueKind sWalk_12).toInt ≠ 3 ∨ (1 ≤ (Walk_dueBits sWalk_12).toInt ∧ (Walk_dueBits sWalk_12).toInt ≤ (Walk_elementCount sWalk_12).toInt); omega), (by show (Walk_dueKind sWalk_12).toInt < 0 ∨ 3 ≤ (Walk_dueKind sWalk_12).toInt ∨ (0 ≤ (Walk_dueCode sWalk_12).toInt ∧ (Walk_dueCode sWalk_12).toInt < 64); omega), (by show (0 : Int32).toInt = 0 ∨ ((Fld_kinds sFld_L10 ((Fld_count sFld_L10) - 1).toNatClampNeg).toInt ≠ 3 ∨ (0 ≤ (Fld_targets sFld_L10 ((Fld_count sFld_L10) - 1).toNatClampNeg).toInt ∧ (Fld_targets sFld_L10 ((Fld_count sFld_L10) - 1).toNatClampNeg).toInt ≤ 99)); omega)⟩)
        · rw [i_eq] at c_6
          have f_105 := I_Fld_count I_sFld_L10
          exact hke_10 _ _ _ I_sWalk_L10 I_sFld_L10 I_sLps_L10 (by show (Walk_elementCount sWalk_L10).toInt ≤ (Fld_count sFld_L10).toInt; omega) (by show (Walk_dueKind sWalk_L10).toInt ≠ 3 ∨ (1 ≤ (Walk_dueBits sWalk_L10).toInt ∧ (Walk_dueBits sWalk_L10).toInt ≤ (Walk_elementCount sWalk_L10).toInt); omega) (by show (Walk_dueKind sWalk_L10).toInt < 0 ∨ 3 ≤ (Walk_dueKind sWalk_L10).toInt ∨ (0 ≤ (Walk_dueCode sWalk_L10).toInt ∧ (Walk_dueCode sWalk_L10).toInt < 64); omega) (by show (Fld_count sFld_L10).toInt = x1_L10.toInt ∨ ((Fld_kinds sFld_L10 ((Fld_count sFld_L10) - 1).toNatClampNeg).toInt ≠ 3 ∨ (0 ≤ (Fld_targets sFld_L10 ((Fld_count sFld_L10) - 1).toNatClampNeg).toInt ∧ (Fld_targets sFld_L10 ((Fld_count sFld_L10) - 1).toNatClampNeg).toInt ≤ 99)); omega)
      · rw [i_eq] at c_4
        have k_106 : (0 : Int32).toInt = 0 := by decide
        exact hke_10 _ _ _ I_sWalk_L10 I_sFld_L10 I_sLps_L10 (by show (Walk_elementCount sWalk_L10).toInt ≤ (Fld_count sFld_L10).toInt; omega) (by show (Walk_dueKind sWalk_L10).toInt ≠ 3 ∨ (1 ≤ (Walk_dueBits sWalk_L10).toInt ∧ (Walk_dueBits sWalk_L10).toInt ≤ (Walk_elementCount sWalk_L10).toInt); omega) (by show (Walk_dueKind sWalk_L10).toInt < 0 ∨ 3 ≤ (Walk_dueKind sWalk_L10).toInt ∨ (0 ≤ (Walk_dueCode sWalk_L10).toInt ∧ (Walk_dueCode sWalk_L10).toInt < 64); omega) (by show (Fld_count sFld_L10).toInt = x1_L10.toInt ∨ ((Fld_kinds sFld_L10 ((Fld_count sFld_L10) - 1).toNatClampNeg).toInt ≠ 3 ∨ (0 ≤ (Fld_targets sFld_L10 ((Fld_count sFld_L10) - 1).toNatClampNeg).toInt ∧ (Fld_targets sFld_L10 ((Fld_count sFld_L10) - 1).toNatClampNeg).toInt ≤ 99)); omega)
theorem t_Walk_advance {fu : Nat} {sTab : S_Tab} {sProg : S_Prog} {sWalk : S_Walk} {sFld : S_Fld} {sLps : S_Lps} (hf : 12000 ≤ fu) (I_sTab : I_Tab sTab) (I_sProg : I_Prog sProg) (I_sWalk : I_Walk sWalk) (I_sFld : I_Fld sFld) (I_sLps : I_Lps sLps) (g_0 : (Walk_elementCount sWalk).toInt ≤ (Fld_count sFld).toInt) (g_1 : (Walk_dueKind sWalk).toInt ≠ 3 ∨ (1 ≤ (Walk_dueBits sWalk).toInt ∧ (Walk_dueBits sWalk).toInt ≤ (Walk_elementCount sWalk).toInt)) (g_2 : (Walk_dueKind sWalk).toInt < 0 ∨ 3 ≤ (Walk_dueKind sWalk).toInt ∨ (0 ≤ (Walk_dueCode sWalk).toInt ∧ (Walk_dueCode sWalk).toInt < 64)) : So (Walk_advance fu sTab sProg sWalk sFld sLps) (fun r => I_Walk r.2.1 ∧ I_Fld r.2.2.1 ∧ I_Lps r.2.2.2 ∧ ((Walk_elementCount r.2.1).toInt ≤ (Fld_count r.2.2.1).toInt) ∧ ((Walk_dueKind r.2.1).toInt ≠ 3 ∨ (1 ≤ (Walk_dueBits r.2.1).toInt ∧ (Walk_dueBits r.2.1).toInt ≤ (Walk_elementCount r.2.1).toInt)) ∧ ((Walk_dueKind r.2.1).toInt < 0 ∨ 3 ≤ (Walk_dueKind r.2.1).toInt ∨ (0 ≤ (Walk_dueCode r.2.1).toInt ∧ (Walk_dueCode r.2.1).toInt < 64)) ∧ (r.1.toInt = 0 ∨ ((Fld_kinds r.2.2.1 ((Fld_count r.2.2.1) - 1).toNatClampNeg).toInt ≠ 3 ∨ (0 ≤ (Fld_targets r.2.2.1 ((Fld_count r.2.2.1) - 1).toNatClampNeg).toInt ∧ (Fld_targets r.2.2.1 ((Fld_count r.2.2.1) - 1).toNatClampNeg).toInt ≤ 99)))) := by
  unfold Walk_advance
  have k_1 : (0 : Int32).toInt = 0 := by decide
  have f_2 := I_Walk_elementCount I_sWalk
  have f_3 := I_Fld_count I_sFld
  refine t_Walk_advance_L10 hf I_sTab I_sProg ?_ ?_ fu _ _ _ _ I_sWalk I_sFld I_sLps (by show 0 ≤ (0 : Int32).toInt; omega) (by show (0 : Int32).toInt ≤ 2001; omega) (by show (Walk_elementCount sWalk).toInt ≤ (Fld_count sFld).toInt; omega) (by show (Walk_dueKind sWalk).toInt ≠ 3 ∨ (1 ≤ (Walk_dueBits sWalk).toInt ∧ (Walk_dueBits sWalk).toInt ≤ (Walk_elementCount sWalk).toInt); omega) (by show (Walk_dueKind sWalk).toInt < 0 ∨ 3 ≤ (Walk_dueKind sWalk).toInt ∨ (0 ≤ (Walk_dueCode sWalk).toInt ∧ (Walk_dueCode sWalk).toInt < 64); omega) (by show (Fld_count sFld).toInt = (Fld_count sFld).toInt ∨ ((Fld_kinds sFld ((Fld_count sFld) - 1).toNatClampNeg).toInt ≠ 3 ∨ (0 ≤ (Fld_targets sFld ((Fld_count sFld) - 1).toNatClampNeg).toInt ∧ (Fld_targets sFld ((Fld_count sFld) - 1).toNatClampNeg).toInt ≤ 99)); omega) (by show 2002 - (0 : Int32).toInt < (fu : Nat); omega)
  · intro zWalk zFld zLps I_4 I_5 I_6 p_7 p_8 p_9 p_10
    unfold Walk_advance_j141
    refine So.ite (fun c_11 => ?_) (fun c_11 => ?_)
    · rw [i_eq] at c_11
      refine So.ite (fun c_12 => ?_) (fun c_12 => ?_)
      · rw [i_le] at c_12
        have f_13 := I_Fld_count I_5
        exact So.one ⟨I_4, I_5, I_6, (by show (Walk_elementCount zWalk).toInt ≤ (Fld_count zFld).toInt; omega), (by show (Walk_dueKind zWalk).toInt ≠ 3 ∨ (1 ≤ (Walk_dueBits zWalk).toInt ∧ (Walk_dueBits zWalk).toInt ≤ (Walk_elementCount zWalk).toInt); omega), (by show (Walk_dueKind zWalk).toInt < 0 ∨ 3 ≤ (Walk_dueKind zWalk).toInt ∨ (0 ≤ (Walk_dueCode zWalk).toInt ∧ (Walk_dueCode zWalk).toInt < 64); omega), (by show (0 : Int32).toInt = 0 ∨ ((Fld_kinds zFld ((Fld_count zFld) - 1).toNatClampNeg).toInt ≠ 3 ∨ (0 ≤ (Fld_targets zFld ((Fld_count zFld) - 1).toNatClampNeg).toInt ∧ (Fld_targets zFld ((Fld_count zFld) - 1).toNatClampNeg).toInt ≤ 99)); omega)⟩
      · rw [i_le] at c_12
        have f_14 := I_Fld_count I_5
        have k_15 : (1 : Int32).toInt = 1 := by decide
        exact So.one ⟨I_4, I_5, I_6, (by show (Walk_elementCount zWalk).toInt ≤ (Fld_count zFld).toInt; omega), (by show (Walk_dueKind zWalk).toInt ≠ 3 ∨ (1 ≤ (Walk_dueBits zWalk).toInt ∧ (Walk_dueBits zWalk).toInt ≤ (Walk_elementCount zWalk).toInt); omega), (by show (Walk_dueKind zWalk).toInt < 0 ∨ 3 ≤ (Walk_dueKind zWalk).toInt ∨ (0 ≤ (Walk_dueCode zWalk).toInt ∧ (Walk_dueCode zWalk).toInt < 64); omega), (by show (1 : Int32).toInt = 0 ∨ ((Fld_kinds zFld ((Fld_count zFld) - 1).toNatClampNeg).toInt ≠ 3 ∨ (0 ≤ (Fld_targets zFld ((Fld_count zFld) - 1).toNatClampNeg).toInt ∧ (Fld_targets zFld ((Fld_count zFld) - 1).toNatClampNeg).toInt ≤ 99)); omega)⟩
    · rw [i_eq] at c_11
      exact So.one ⟨I_4, I_5, I_6, (by show (Walk_elementCount zWalk).toInt ≤ (Fld_count zFld).toInt; omega), (by show (Walk_dueKind zWalk).toInt ≠ 3 ∨ (1 ≤ (Walk_dueBits zWalk).toInt ∧ (Walk_dueBits zWalk).toInt ≤ (Walk_elementCount zWalk).toInt); omega), (by show (Walk_dueKind zWalk).toInt < 0 ∨ 3 ≤ (Walk_dueKind zWalk).toInt ∨ (0 ≤ (Walk_dueCode zWalk).toInt ∧ (Walk_dueCode zWalk).toInt < 64); omega), (by show (0 : Int32).toInt = 0 ∨ ((Fld_kinds zFld ((Fld_count zFld) - 1).toNatClampNeg).toInt ≠ 3 ∨ (0 ≤ (Fld_targets zFld ((Fld_count zFld) - 1).toNatClampNeg).toInt ∧ (Fld_targets zFld ((Fld_count zFld) - 1).toNatClampNeg).toInt ≤ 99)); omega)⟩
  · intro q_z h_z
    obtain ⟨p_16, p_17, p_18, p_19, p_20, p_21, p_22⟩ := h_z
    exact ⟨p_16, p_17, p_18, (by show (Walk_elementCount q_z.2.1).toInt ≤ (Fld_count q_z.2.2.1).toInt; omega), (by show (Walk_dueKind q_z.2.1).toInt ≠ 3 ∨ (1 ≤ (Walk_dueBits q_z.2.1).toInt ∧ (Walk_dueBits q_z.2.1).toInt ≤ (Walk_elementCount q_z.2.1).toInt); omega), (by show (Walk_dueKind q_z.2.1).toInt < 0 ∨ 3 ≤ (Walk_dueKind q_z.2.1).toInt ∨ (0 ≤ (Walk_dueCode q_z.2.1).toInt ∧ (Walk_dueCode q_z.2.1).toInt < 64); omega), (by show q_z.1.toInt = 0 ∨ ((Fld_kinds q_z.2.2.1 ((Fld_count q_z.2.2.1) - 1).toNatClampNeg).toInt ≠ 3 ∨ (0 ≤ (Fld_targets q_z.2.2.1 ((Fld_count q_z.2.2.1) - 1).toNatClampNeg).toInt ∧ (Fld_targets q_z.2.2.1 ((Fld_count q_z.2.2.1) - 1).toNatClampNeg).toInt ≤ 99)); omega)⟩
theorem t_Walk_over_L6 {fu : Nat} {nRW : Nat} {sTab : S_Tab} {sProg : S_Prog} {sRW : (Nat → Int64)} (hf : 12000 ≤ fu) (I_sTab : I_Tab sTab) (I_sProg : I_Prog sProg) (g_0 : (nRW : Int) = 100) : ∀ (n : Nat) (x2_L6 : Int32) (sWalk_L6 : S_Walk) (sFld_L6 : S_Fld) (sLps_L6 : S_Lps), I_Walk sWalk_L6 → I_Fld sFld_L6 → I_Lps sLps_L6 → (0 ≤ x2_L6.toInt) → (x2_L6.toInt ≤ 100) → ((Walk_elementCount sWalk_L6).toInt ≤ (Fld_count sFld_L6).toInt) → ((Walk_dueKind sWalk_L6).toInt ≠ 3 ∨ (1 ≤ (Walk_dueBits sWalk_L6).toInt ∧ (Walk_dueBits sWalk_L6).toInt ≤ (Walk_elementCount sWalk_L6).toInt)) → ((Walk_dueKind sWalk_L6).toInt < 0 ∨ 3 ≤ (Walk_dueKind sWalk_L6).toInt ∨ (0 ≤ (Walk_dueCode sWalk_L6).toInt ∧ (Walk_dueCode sWalk_L6).toInt < 64)) → (100 - x2_L6.toInt < (n : Nat)) → So (Walk_over_L6 fu nRW sTab sProg sRW n x2_L6 sWalk_L6 sFld_L6 sLps_L6) (fun r => I_Walk r.1 ∧ I_Fld r.2.1 ∧ I_Lps r.2.2 ∧ ((Walk_elementCount r.1).toInt ≤ (Fld_count r.2.1).toInt) ∧ ((Walk_dueKind r.1).toInt ≠ 3 ∨ (1 ≤ (Walk_dueBits r.1).toInt ∧ (Walk_dueBits r.1).toInt ≤ (Walk_elementCount r.1).toInt)) ∧ ((Walk_dueKind r.1).toInt < 0 ∨ 3 ≤ (Walk_dueKind r.1).toInt ∨ (0 ≤ (Walk_dueCode r.1).toInt ∧ (Walk_dueCode r.1).toInt < 64)))
  | 0, x2_L6, sWalk_L6, sFld_L6, sLps_L6, I_sWalk_L6, I_sFld_L6, I_sLps_L6, l_0, l_1, l_2, l_3, l_4, l_5 => absurd l_5 (by omega)
  | n + 1, x2_L6, sWalk_L6, sFld_L6, sLps_L6, I_sWalk_L6, I_sFld_L6, I_sLps_L6, l_0, l_1, l_2, l_3, l_4, l_5 => by
    rw [Walk_over_L6]
    have f_1 := I_Walk_elementCount I_sWalk_L6
    have f_2 := I_Fld_count I_sFld_L6
    refine So.bd (t_Walk_advance hf I_sTab I_sProg I_sWalk_L6 I_sFld_L6 I_sLps_L6 (by show (Walk_elementCount sWalk_L6).toInt ≤ (Fld_count sFld_L6).toInt; omega) (by show (Walk_dueKind sWalk_L6).toInt ≠ 3 ∨ (1 ≤ (Walk_dueBits sWalk_L6).toInt ∧ (Walk_dueBits sWalk_L6).toInt ≤ (Walk_elementCount sWalk_L6).toInt); omega) (by show (Walk_dueKind sWalk_L6).toInt < 0 ∨ 3 ≤ (Walk_dueKind sWalk_L6).toInt ∨ (0 ≤ (Walk_dueCode sWalk_L6).toInt ∧ (Walk_dueCode sWalk_L6).toInt < 64); omega)) fun q2 h_3 => ?_
    obtain ⟨p_4, p_5, p_6, p_7, p_8, p_9, p_10⟩ := h_3
    refine So.ite (fun c_11 => ?_) (fun c_11 => ?_)
    · rw [i_eq] at c_11
      have k_12 : (0 : Int32).toInt = 0 := by decide
      exact So.one ⟨p_4, p_5, p_6, (by show (Walk_elementCount q2.2.1).toInt ≤ (Fld_count q2.2.2.1).toInt; omega), (by show (Walk_dueKind q2.2.1).toInt ≠ 3 ∨ (1 ≤ (Walk_dueBits q2.2.1).toInt ∧ (Walk_dueBits q2.2.1).toInt ≤ (Walk_elementCount q2.2.1).toInt); omega), (by show (Walk_dueKind q2.2.1).toInt < 0 ∨ 3 ≤ (Walk_dueKind q2.2.1).toInt ∨ (0 ≤ (Walk_dueCode q2.2.1).toInt ∧ (Walk_dueCode q2.2.1).toInt < 64); omega)⟩
    · rw [i_eq] at c_11
      have k_13 : (0 : Int32).toInt = 0 := by decide
      refine So.ite (fun c_14 => ?_) (fun c_14 => ?_)
      · rw [i_le] at c_14
        have k_15 : (100 : Int32).toInt = 100 := by decide
        exact So.one ⟨p_4, p_5, p_6, (by show (Walk_elementCount q2.2.1).toInt ≤ (Fld_count q2.2.2.1).toInt; omega), (by show (Walk_dueKind q2.2.1).toInt ≠ 3 ∨ (1 ≤ (Walk_dueBits q2.2.1).toInt ∧ (Walk_dueBits q2.2.1).toInt ≤ (Walk_elementCount q2.2.1).toInt); omega), (by show (Walk_dueKind q2.2.1).toInt < 0 ∨ 3 ≤ (Walk_dueKind q2.2.1).toInt ∨ (0 ≤ (Walk_dueCode q2.2.1).toInt ∧ (Walk_dueCode q2.2.1).toInt < 64); omega)⟩
      · rw [i_le] at c_14
        have k_16 : (100 : Int32).toInt = 100 := by decide
        refine So.gd (i_in.mpr (by omega)) ?_
        have f_17 := I_Fld_count p_5
        have f_18 := I_Walk_elementCount p_4
        refine So.bd (t_Walk_settle p_5 p_4 p_6 (by show (Walk_elementCount q2.2.1).toInt ≤ (Fld_count q2.2.2.1).toInt; omega) (by show (Walk_dueKind q2.2.1).toInt ≠ 3 ∨ (1 ≤ (Walk_dueBits q2.2.1).toInt ∧ (Walk_dueBits q2.2.1).toInt ≤ (Walk_elementCount q2.2.1).toInt); omega) (by show (Walk_dueKind q2.2.1).toInt < 0 ∨ 3 ≤ (Walk_dueKind q2.2.1).toInt ∨ (0 ≤ (Walk_dueCode q2.2.1).toInt ∧ (Walk_dueCode q2.2.1).toInt < 64); omega) (by show (Fld_kinds q2.2.2.1 ((Fld_count q2.2.2.1) - 1).toNatClampNeg).toInt ≠ 3 ∨ (0 ≤ (Fld_targets q2.2.2.1 ((Fld_count q2.2.2.1) - 1).toNatClampNeg).toInt ∧ (Fld_targets q2.2.2.1 ((Fld_count q2.2.2.1) - 1).toNatClampNeg).toInt ≤ 99); omega)) fun q4 h_19 => ?_
        obtain ⟨p_20, p_21, p_22, p_23, p_24⟩ := h_19
        have k_25 : (1 : Int32).toInt = 1 := by decide
        first | have f_26 := i_add (a := x2_L6) (b := 1) (by omega) (by omega) | have f_26 := i_addm x2_L6 1
        have f_27 := I_Walk_elementCount p_20
        exact t_Walk_over_L6 hf I_sTab I_sProg (by show (nRW : Int) = 100; omega)   n _ _ _ _ p_20 p_5 p_21 (by show 0 ≤ (x2_L6 + 1).toInt; omega) (by show (x2_L6 + 1).toInt ≤ 100; omega) (by show (Walk_elementCount q4.1).toInt ≤ (Fld_count q2.2.2.1).toInt; omega) (by show (Walk_dueKind q4.1).toInt ≠ 3 ∨ (1 ≤ (Walk_dueBits q4.1).toInt ∧ (Walk_dueBits q4.1).toInt ≤ (Walk_elementCount q4.1).toInt); omega) (by show (Walk_dueKind q4.1).toInt < 0 ∨ 3 ≤ (Walk_dueKind q4.1).toInt ∨ (0 ≤ (Walk_dueCode q4.1).toInt ∧ (Walk_dueCode q4.1).toInt < 64); omega) (by show 100 - (x2_L6 + 1).toInt < (n : Nat); omega)
theorem t_Walk_over {fu : Nat} {nRW : Nat} {sTab : S_Tab} {sProg : S_Prog} {sRW : (Nat → Int64)} {sWalk : S_Walk} {sFld : S_Fld} {sLps : S_Lps} (hf : 12000 ≤ fu) (I_sTab : I_Tab sTab) (I_sProg : I_Prog sProg) (I_sWalk : I_Walk sWalk) (I_sFld : I_Fld sFld) (I_sLps : I_Lps sLps) (g_0 : (nRW : Int) = 100) : So (Walk_over fu nRW sTab sProg sRW sWalk sFld sLps) (fun r => I_Walk r.1 ∧ I_Fld r.2.1 ∧ I_Lps r.2.2 ∧ ((Walk_elementCount r.1).toInt ≤ (Fld_count r.2.1).toInt) ∧ ((Walk_dueKind r.1).toInt ≠ 3 ∨ (1 ≤ (Walk_dueBits r.1).toInt ∧ (Walk_dueBits r.1).toInt ≤ (Walk_elementCount r.1).toInt)) ∧ ((Walk_dueKind r.1).toInt < 0 ∨ 3 ≤ (Walk_dueKind r.1).toInt ∨ (0 ≤ (Walk_dueCode r.1).toInt ∧ (Walk_dueCode r.1).toInt < 64))) := by
  unfold Walk_over
  refine So.bd (t_Walk_begin hf I_sWalk I_sFld I_sLps) fun q1 h_1 => ?_
  obtain ⟨p_2, p_3, p_4, p_5, p_6, p_7⟩ := h_1
  have k_8 : (0 : Int32).toInt = 0 := by decide
  have f_9 := I_Walk_elementCount p_2
  have f_10 := I_Fld_count p_3
  refine So.imp (t_Walk_over_L6 hf I_sTab I_sProg (by show (nRW : Int) = 100; omega) fu _ _ _ _ p_2 p_3 p_4 (by show 0 ≤ (0 : Int32).toInt; omega) (by show (0 : Int32).toInt ≤ 100; omega) (by show (Walk_elementCount q1.1).toInt ≤ (Fld_count q1.2.1).toInt; omega) (by show (Walk_dueKind q1.1).toInt ≠ 3 ∨ (1 ≤ (Walk_dueBits q1.1).toInt ∧ (Walk_dueBits q1.1).toInt ≤ (Walk_elementCount q1.1).toInt); omega) (by show (Walk_dueKind q1.1).toInt < 0 ∨ 3 ≤ (Walk_dueKind q1.1).toInt ∨ (0 ≤ (Walk_dueCode q1.1).toInt ∧ (Walk_dueCode q1.1).toInt < 64); omega) (by show 100 - (0 : Int32).toInt < (fu : Nat); omega)) fun q_z h_z => ?_
  obtain ⟨p_11, p_12, p_13, p_14, p_15, p_16⟩ := h_z
  exact ⟨p_11, p_12, p_13, (by show (Walk_elementCount q_z.1).toInt ≤ (Fld_count q_z.2.1).toInt; omega), (by show (Walk_dueKind q_z.1).toInt ≠ 3 ∨ (1 ≤ (Walk_dueBits q_z.1).toInt ∧ (Walk_dueBits q_z.1).toInt ≤ (Walk_elementCount q_z.1).toInt); omega), (by show (Walk_dueKind q_z.1).toInt < 0 ∨ 3 ≤ (Walk_dueKind q_z.1).toInt ∨ (0 ≤ (Walk_dueCode q_z.1).toInt ∧ (Walk_dueCode q_z.1).toInt < 64); omega)⟩
theorem t_Walk_overChecked_L6 {fu : Nat} {nRW : Nat} {sTab : S_Tab} {sProg : S_Prog} {sRW : (Nat → Int64)} (hf : 12000 ≤ fu) (I_sTab : I_Tab sTab) (I_sProg : I_Prog sProg) (g_0 : (nRW : Int) = 100) : ∀ (n : Nat) (x2_L6 : Int32) (sWalk_L6 : S_Walk) (sFld_L6 : S_Fld) (sLps_L6 : S_Lps), I_Walk sWalk_L6 → I_Fld sFld_L6 → I_Lps sLps_L6 → (0 ≤ x2_L6.toInt) → (x2_L6.toInt ≤ 100) → ((Walk_elementCount sWalk_L6).toInt ≤ (Fld_count sFld_L6).toInt) → ((Walk_dueKind sWalk_L6).toInt ≠ 3 ∨ (1 ≤ (Walk_dueBits sWalk_L6).toInt ∧ (Walk_dueBits sWalk_L6).toInt ≤ (Walk_elementCount sWalk_L6).toInt)) → ((Walk_dueKind sWalk_L6).toInt < 0 ∨ 3 ≤ (Walk_dueKind sWalk_L6).toInt ∨ (0 ≤ (Walk_dueCode sWalk_L6).toInt ∧ (Walk_dueCode sWalk_L6).toInt < 64)) → (100 - x2_L6.toInt < (n : Nat)) → So (Walk_overChecked_L6 fu nRW sTab sProg sRW n x2_L6 sWalk_L6 sFld_L6 sLps_L6) (fun r => I_Walk r.1 ∧ I_Fld r.2.1 ∧ I_Lps r.2.2 ∧ ((Walk_elementCount r.1).toInt ≤ (Fld_count r.2.1).toInt) ∧ ((Walk_dueKind r.1).toInt ≠ 3 ∨ (1 ≤ (Walk_dueBits r.1).toInt ∧ (Walk_dueBits r.1).toInt ≤ (Walk_elementCount r.1).toInt)) ∧ ((Walk_dueKind r.1).toInt < 0 ∨ 3 ≤ (Walk_dueKind r.1).toInt ∨ (0 ≤ (Walk_dueCode r.1).toInt ∧ (Walk_dueCode r.1).toInt < 64)))
  | 0, x2_L6, sWalk_L6, sFld_L6, sLps_L6, I_sWalk_L6, I_sFld_L6, I_sLps_L6, l_0, l_1, l_2, l_3, l_4, l_5 => absurd l_5 (by omega)
  | n + 1, x2_L6, sWalk_L6, sFld_L6, sLps_L6, I_sWalk_L6, I_sFld_L6, I_sLps_L6, l_0, l_1, l_2, l_3, l_4, l_5 => by
    rw [Walk_overChecked_L6]
    have f_1 := I_Walk_elementCount I_sWalk_L6
    have f_2 := I_Fld_count I_sFld_L6
    refine So.bd (t_Walk_advance hf I_sTab I_sProg I_sWalk_L6 I_sFld_L6 I_sLps_L6 (by show (Walk_elementCount sWalk_L6).toInt ≤ (Fld_count sFld_L6).toInt; omega) (by show (Walk_dueKind sWalk_L6).toInt ≠ 3 ∨ (1 ≤ (Walk_dueBits sWalk_L6).toInt ∧ (Walk_dueBits sWalk_L6).toInt ≤ (Walk_elementCount sWalk_L6).toInt); omega) (by show (Walk_dueKind sWalk_L6).toInt < 0 ∨ 3 ≤ (Walk_dueKind sWalk_L6).toInt ∨ (0 ≤ (Walk_dueCode sWalk_L6).toInt ∧ (Walk_dueCode sWalk_L6).toInt < 64); omega)) fun q2 h_3 => ?_
    obtain ⟨p_4, p_5, p_6, p_7, p_8, p_9, p_10⟩ := h_3
    refine So.ite (fun c_11 => ?_) (fun c_11 => ?_)
    · rw [i_eq] at c_11
      have k_12 : (0 : Int32).toInt = 0 := by decide
      exact So.one ⟨p_4, p_5, p_6, (by show (Walk_elementCount q2.2.1).toInt ≤ (Fld_count q2.2.2.1).toInt; omega), (by show (Walk_dueKind q2.2.1).toInt ≠ 3 ∨ (1 ≤ (Walk_dueBits q2.2.1).toInt ∧ (Walk_dueBits q2.2.1).toInt ≤ (Walk_elementCount q2.2.1).toInt); omega), (by show (Walk_dueKind q2.2.1).toInt < 0 ∨ 3 ≤ (Walk_dueKind q2.2.1).toInt ∨ (0 ≤ (Walk_dueCode q2.2.1).toInt ∧ (Walk_dueCode q2.2.1).toInt < 64); omega)⟩
    · rw [i_eq] at c_11
      have k_13 : (0 : Int32).toInt = 0 := by decide
      refine So.ite (fun c_14 => ?_) (fun c_14 => ?_)
      · rw [i_le] at c_14
        have k_15 : (100 : Int32).toInt = 100 := by decide
        exact So.one ⟨p_4, p_5, p_6, (by show (Walk_elementCount q2.2.1).toInt ≤ (Fld_count q2.2.2.1).toInt; omega), (by show (Walk_dueKind q2.2.1).toInt ≠ 3 ∨ (1 ≤ (Walk_dueBits q2.2.1).toInt ∧ (Walk_dueBits q2.2.1).toInt ≤ (Walk_elementCount q2.2.1).toInt); omega), (by show (Walk_dueKind q2.2.1).toInt < 0 ∨ 3 ≤ (Walk_dueKind q2.2.1).toInt ∨ (0 ≤ (Walk_dueCode q2.2.1).toInt ∧ (Walk_dueCode q2.2.1).toInt < 64); omega)⟩
      · rw [i_le] at c_14
        have k_16 : (100 : Int32).toInt = 100 := by decide
        refine So.gd (i_in.mpr (by omega)) ?_
        have f_17 := I_Fld_count p_5
        have f_18 := I_Walk_elementCount p_4
        refine So.bd (t_Walk_settle p_5 p_4 p_6 (by show (Walk_elementCount q2.2.1).toInt ≤ (Fld_count q2.2.2.1).toInt; omega) (by show (Walk_dueKind q2.2.1).toInt ≠ 3 ∨ (1 ≤ (Walk_dueBits q2.2.1).toInt ∧ (Walk_dueBits q2.2.1).toInt ≤ (Walk_elementCount q2.2.1).toInt); omega) (by show (Walk_dueKind q2.2.1).toInt < 0 ∨ 3 ≤ (Walk_dueKind q2.2.1).toInt ∨ (0 ≤ (Walk_dueCode q2.2.1).toInt ∧ (Walk_dueCode q2.2.1).toInt < 64); omega) (by show (Fld_kinds q2.2.2.1 ((Fld_count q2.2.2.1) - 1).toNatClampNeg).toInt ≠ 3 ∨ (0 ≤ (Fld_targets q2.2.2.1 ((Fld_count q2.2.2.1) - 1).toNatClampNeg).toInt ∧ (Fld_targets q2.2.2.1 ((Fld_count q2.2.2.1) - 1).toNatClampNeg).toInt ≤ 99); omega)) fun q4 h_19 => ?_
        obtain ⟨p_20, p_21, p_22, p_23, p_24⟩ := h_19
        refine So.ite (fun c_25 => ?_) (fun c_25 => ?_)
        · rw [i_eq] at c_25
          refine So.gd (i_in.mpr (by omega)) ?_
          refine So.bd (t_Fld_hasRaw p_5 (by show 0 ≤ x2_L6.toInt; omega) (by show x2_L6.toInt < 100; omega)) fun q6 h_26 => ?_
          refine So.ite (fun c_27 => ?_) (fun c_27 => ?_)
          · rw [i_eq] at c_27
            have f_28 := I_Walk_elementCount p_20
            refine So.bd (t_Walk_fail p_20) fun q7 h_29 => ?_
            obtain ⟨p_30, p_31, p_32, p_33, p_34⟩ := h_29
            unfold Walk_overChecked_j54
            have k_35 : (1 : Int32).toInt = 1 := by decide
            first | have f_36 := i_add (a := x2_L6) (b := 1) (by omega) (by omega) | have f_36 := i_addm x2_L6 1
            have f_37 := I_Walk_elementCount p_30
            exact t_Walk_overChecked_L6 hf I_sTab I_sProg (by show (nRW : Int) = 100; omega)   n _ _ _ _ p_30 p_5 p_21 (by show 0 ≤ (x2_L6 + 1).toInt; omega) (by show (x2_L6 + 1).toInt ≤ 100; omega) (by show (Walk_elementCount q7).toInt ≤ (Fld_count q2.2.2.1).toInt; omega) (by show (Walk_dueKind q7).toInt ≠ 3 ∨ (1 ≤ (Walk_dueBits q7).toInt ∧ (Walk_dueBits q7).toInt ≤ (Walk_elementCount q7).toInt); omega) (by show (Walk_dueKind q7).toInt < 0 ∨ 3 ≤ (Walk_dueKind q7).toInt ∨ (0 ≤ (Walk_dueCode q7).toInt ∧ (Walk_dueCode q7).toInt < 64); omega) (by show 100 - (x2_L6 + 1).toInt < (n : Nat); omega)
          · rw [i_eq] at c_27
            unfold Walk_overChecked_j54
            have k_38 : (1 : Int32).toInt = 1 := by decide
            first | have f_39 := i_add (a := x2_L6) (b := 1) (by omega) (by omega) | have f_39 := i_addm x2_L6 1
            have f_40 := I_Walk_elementCount p_20
            exact t_Walk_overChecked_L6 hf I_sTab I_sProg (by show (nRW : Int) = 100; omega)   n _ _ _ _ p_20 p_5 p_21 (by show 0 ≤ (x2_L6 + 1).toInt; omega) (by show (x2_L6 + 1).toInt ≤ 100; omega) (by show (Walk_elementCount q4.1).toInt ≤ (Fld_count q2.2.2.1).toInt; omega) (by show (Walk_dueKind q4.1).toInt ≠ 3 ∨ (1 ≤ (Walk_dueBits q4.1).toInt ∧ (Walk_dueBits q4.1).toInt ≤ (Walk_elementCount q4.1).toInt); omega) (by show (Walk_dueKind q4.1).toInt < 0 ∨ 3 ≤ (Walk_dueKind q4.1).toInt ∨ (0 ≤ (Walk_dueCode q4.1).toInt ∧ (Walk_dueCode q4.1).toInt < 64); omega) (by show 100 - (x2_L6 + 1).toInt < (n : Nat); omega)
        · rw [i_eq] at c_25
          unfold Walk_overChecked_j54
          have k_41 : (1 : Int32).toInt = 1 := by decide
          first | have f_42 := i_add (a := x2_L6) (b := 1) (by omega) (by omega) | have f_42 := i_addm x2_L6 1
          have f_43 := I_Walk_elementCount p_20
          exact t_Walk_overChecked_L6 hf I_sTab I_sProg (by show (nRW : Int) = 100; omega)   n _ _ _ _ p_20 p_5 p_21 (by show 0 ≤ (x2_L6 + 1).toInt; omega) (by show (x2_L6 + 1).toInt ≤ 100; omega) (by show (Walk_elementCount q4.1).toInt ≤ (Fld_count q2.2.2.1).toInt; omega) (by show (Walk_dueKind q4.1).toInt ≠ 3 ∨ (1 ≤ (Walk_dueBits q4.1).toInt ∧ (Walk_dueBits q4.1).toInt ≤ (Walk_elementCount q4.1).toInt); omega) (by show (Walk_dueKind q4.1).toInt < 0 ∨ 3 ≤ (Walk_dueKind q4.1).toInt ∨ (0 ≤ (Walk_dueCode q4.1).toInt ∧ (Walk_dueCode q4.1).toInt < 64); omega) (by show 100 - (x2_L6 + 1).toInt < (n : Nat); omega)
theorem t_Walk_overChecked {fu : Nat} {nRW : Nat} {sTab : S_Tab} {sProg : S_Prog} {sRW : (Nat → Int64)} {sWalk : S_Walk} {sFld : S_Fld} {sLps : S_Lps} (hf : 12000 ≤ fu) (I_sTab : I_Tab sTab) (I_sProg : I_Prog sProg) (I_sWalk : I_Walk sWalk) (I_sFld : I_Fld sFld) (I_sLps : I_Lps sLps) (g_0 : (nRW : Int) = 100) : So (Walk_overChecked fu nRW sTab sProg sRW sWalk sFld sLps) (fun r => I_Walk r.1 ∧ I_Fld r.2.1 ∧ I_Lps r.2.2 ∧ ((Walk_elementCount r.1).toInt ≤ (Fld_count r.2.1).toInt) ∧ ((Walk_dueKind r.1).toInt ≠ 3 ∨ (1 ≤ (Walk_dueBits r.1).toInt ∧ (Walk_dueBits r.1).toInt ≤ (Walk_elementCount r.1).toInt)) ∧ ((Walk_dueKind r.1).toInt < 0 ∨ 3 ≤ (Walk_dueKind r.1).toInt ∨ (0 ≤ (Walk_dueCode r.1).toInt ∧ (Walk_dueCode r.1).toInt < 64))) := by
  unfold Walk_overChecked
  refine So.bd (t_Walk_begin hf I_sWalk I_sFld I_sLps) fun q1 h_1 => ?_
  obtain ⟨p_2, p_3, p_4, p_5, p_6, p_7⟩ := h_1
  have k_8 : (0 : Int32).toInt = 0 := by decide
  have f_9 := I_Walk_elementCount p_2
  have f_10 := I_Fld_count p_3
  refine So.imp (t_Walk_overChecked_L6 hf I_sTab I_sProg (by show (nRW : Int) = 100; omega) fu _ _ _ _ p_2 p_3 p_4 (by show 0 ≤ (0 : Int32).toInt; omega) (by show (0 : Int32).toInt ≤ 100; omega) (by show (Walk_elementCount q1.1).toInt ≤ (Fld_count q1.2.1).toInt; omega) (by show (Walk_dueKind q1.1).toInt ≠ 3 ∨ (1 ≤ (Walk_dueBits q1.1).toInt ∧ (Walk_dueBits q1.1).toInt ≤ (Walk_elementCount q1.1).toInt); omega) (by show (Walk_dueKind q1.1).toInt < 0 ∨ 3 ≤ (Walk_dueKind q1.1).toInt ∨ (0 ≤ (Walk_dueCode q1.1).toInt ∧ (Walk_dueCode q1.1).toInt < 64); omega) (by show 100 - (0 : Int32).toInt < (fu : Nat); omega)) fun q_z h_z => ?_
  obtain ⟨p_11, p_12, p_13, p_14, p_15, p_16⟩ := h_z
  exact ⟨p_11, p_12, p_13, (by show (Walk_elementCount q_z.1).toInt ≤ (Fld_count q_z.2.1).toInt; omega), (by show (Walk_dueKind q_z.1).toInt ≠ 3 ∨ (1 ≤ (Walk_dueBits q_z.1).toInt ∧ (Walk_dueBits q_z.1).toInt ≤ (Walk_elementCount q_z.1).toInt); omega), (by show (Walk_dueKind q_z.1).toInt < 0 ∨ 3 ≤ (Walk_dueKind q_z.1).toInt ∨ (0 ≤ (Walk_dueCode q_z.1).toInt ∧ (Walk_dueCode q_z.1).toInt < 64); omega)⟩

def I_Grd (s : S_Grd) : Prop := (0 ≤ (Grd_groupCount s).toInt ∧ (Grd_groupCount s).toInt ≤ 64) ∧ (-1 ≤ (Grd_codeCount s).toInt ∧ (Grd_codeCount s).toInt ≤ 64) ∧ (∀ j : Nat, 0 ≤ (Grd_firstEnds s j).toInt ∧ (Grd_firstEnds s j).toInt ≤ 64)
theorem I_Grd_groupCount {s : S_Grd} (h : I_Grd s) : 0 ≤ (Grd_groupCount s).toInt ∧ (Grd_groupCount s).toInt ≤ 64 := h.1
theorem I_Grd_codeCount {s : S_Grd} (h : I_Grd s) : -1 ≤ (Grd_codeCount s).toInt ∧ (Grd_codeCount s).toInt ≤ 64 := h.2.1
theorem I_Grd_firstEnds {s : S_Grd} (h : I_Grd s) (j : Nat) : 0 ≤ (Grd_firstEnds s j).toInt ∧ (Grd_firstEnds s j).toInt ≤ 64 := h.2.2 j
theorem I_Grd_set_points {s : S_Grd} {v : Nat → Int64} (h : I_Grd s) : I_Grd (Grd_set_points s v) := h
theorem I_Grd_put_points {s : S_Grd} {k : Nat} {v : Int64} (h : I_Grd s) : I_Grd (Grd_put_points s k v) := h
theorem I_Grd_set_packed {s : S_Grd} {v : Nat → Int64} (h : I_Grd s) : I_Grd (Grd_set_packed s v) := h
theorem I_Grd_put_packed {s : S_Grd} {k : Nat} {v : Int64} (h : I_Grd s) : I_Grd (Grd_put_packed s k v) := h
theorem I_Grd_set_groupEnds {s : S_Grd} {v : Nat → Int32} (h : I_Grd s) : I_Grd (Grd_set_groupEnds s v) := h
theorem I_Grd_put_groupEnds {s : S_Grd} {k : Nat} {v : Int32} (h : I_Grd s) : I_Grd (Grd_put_groupEnds s k v) := h
theorem I_Grd_set_groupCount {s : S_Grd} {v : Int32} (h : I_Grd s) (h0 : 0 ≤ v.toInt ∧ v.toInt ≤ 64) : I_Grd (Grd_set_groupCount s v) := ⟨h0, h.2.1, h.2.2⟩
theorem I_Grd_set_groupBits {s : S_Grd} {v : Int32} (h : I_Grd s) : I_Grd (Grd_set_groupBits s v) := h
theorem I_Grd_set_codeCount {s : S_Grd} {v : Int32} (h : I_Grd s) (h0 : -1 ≤ v.toInt ∧ v.toInt ≤ 64) : I_Grd (Grd_set_codeCount s v) := ⟨h.1, h0, h.2.2⟩
theorem I_Grd_set_codes {s : S_Grd} {v : Nat → Int64} (h : I_Grd s) : I_Grd (Grd_set_codes s v) := h
theorem I_Grd_put_codes {s : S_Grd} {k : Nat} {v : Int64} (h : I_Grd s) : I_Grd (Grd_put_codes s k v) := h
theorem I_Grd_set_cheapest {s : S_Grd} {v : Nat → Int32} (h : I_Grd s) : I_Grd (Grd_set_cheapest s v) := h
theorem I_Grd_put_cheapest {s : S_Grd} {k : Nat} {v : Int32} (h : I_Grd s) : I_Grd (Grd_put_cheapest s k v) := h
theorem I_Grd_set_firstEnds {s : S_Grd} {v : Nat → Int32} (h : I_Grd s) (h0 : ∀ j : Nat, 0 ≤ (v j).toInt ∧ (v j).toInt ≤ 64) : I_Grd (Grd_set_firstEnds s v) := ⟨h.1, h.2.1, h0⟩
theorem I_Grd_put_firstEnds {s : S_Grd} {k : Nat} {v : Int32} (h : I_Grd s) (h0 : 0 ≤ v.toInt ∧ v.toInt ≤ 64) : I_Grd (Grd_put_firstEnds s k v) := ⟨h.1, h.2.1, i_arp (P := fun j x => 0 ≤ x.toInt ∧ x.toInt ≤ 64) h.2.2 h0⟩
theorem t_Grd_isBare_L2 {fu : Nat} {sGrd : S_Grd} (hf : 12000 ≤ fu) (I_sGrd : I_Grd sGrd) : ∀ (n : Nat) (x1_L2 : Int32), (0 ≤ x1_L2.toInt) → (x1_L2.toInt ≤ 64) → (64 - x1_L2.toInt < (n : Nat)) → So (Grd_isBare_L2 fu sGrd n x1_L2) (fun r => True)
  | 0, x1_L2, l_0, l_1, l_2 => absurd l_2 (by omega)
  | n + 1, x1_L2, l_0, l_1, l_2 => by
    rw [Grd_isBare_L2]
    refine So.ite (fun c_1 => ?_) (fun c_1 => ?_)
    · rw [i_le] at c_1
      have k_2 : (64 : Int32).toInt = 64 := by decide
      exact So.one trivial
    · rw [i_le] at c_1
      have k_3 : (64 : Int32).toInt = 64 := by decide
      refine So.gd (i_in.mpr (by omega)) ?_
      refine So.ite (fun c_4 => ?_) (fun c_4 => ?_)
      · have k_5 : (1 : Int32).toInt = 1 := by decide
        first | have f_6 := i_add (a := x1_L2) (b := 1) (by omega) (by omega) | have f_6 := i_addm x1_L2 1
        exact t_Grd_isBare_L2 hf I_sGrd   n _ (by show 0 ≤ (x1_L2 + 1).toInt; omega) (by show (x1_L2 + 1).toInt ≤ 64; omega) (by show 64 - (x1_L2 + 1).toInt < (n : Nat); omega)
      · exact So.one trivial
theorem t_Grd_isBare {fu : Nat} {sGrd : S_Grd} (hf : 12000 ≤ fu) (I_sGrd : I_Grd sGrd) : So (Grd_isBare fu sGrd) (fun r => True) := by
  unfold Grd_isBare
  have k_1 : (0 : Int32).toInt = 0 := by decide
  refine So.imp (t_Grd_isBare_L2 hf I_sGrd fu _ (by show 0 ≤ (0 : Int32).toInt; omega) (by show (0 : Int32).toInt ≤ 64; omega) (by show 64 - (0 : Int32).toInt < (fu : Nat); omega)) fun q_z h_z => ?_
  exact trivial
theorem t_Grd_inOrder {a0 : Int32} (g_0 : 0 ≤ a0.toInt) (g_1 : a0.toInt < 64) : So (Grd_inOrder a0) (fun r => (0 ≤ r.toInt) ∧ (r.toInt < 64)) := by
  unfold Grd_inOrder
  refine So.ite (fun c_1 => ?_) (fun c_1 => ?_)
  · rw [i_eq] at c_1
    have k_2 : (8 : Int32).toInt = 8 := by decide
    first | have f_3 := i_divk a0 8 8 (by decide) (by decide) (by omega) | have f_3 := i_diva a0 8 8 (by decide) (by decide)
    have k_4 : (2 : Int32).toInt = 2 := by decide
    first | have f_5 := i_divk (a0 / 8) 2 2 (by decide) (by decide) (by omega) | have f_5 := i_diva (a0 / 8) 2 2 (by decide) (by decide)
    first | have f_6 := i_mulr ((a0 / 8) / 2) 2 (2) (by decide) (by omega) (by omega) | have f_6 := i_mulrm ((a0 / 8) / 2) 2 (2) (by decide)
    first | have f_7 := i_sub (a := (a0 / 8)) (b := (((a0 / 8) / 2) * 2)) (by omega) (by omega) | have f_7 := i_subm (a0 / 8) (((a0 / 8) / 2) * 2)
    have k_8 : (0 : Int32).toInt = 0 := by decide
    unfold Grd_inOrder_j25
    first | have f_9 := i_mull 8 (a0 / 8) (8) (by decide) (by omega) (by omega) | have f_9 := i_mullm 8 (a0 / 8) (8) (by decide)
    first | have f_10 := i_mulr (a0 / 8) 8 (8) (by decide) (by omega) (by omega) | have f_10 := i_mulrm (a0 / 8) 8 (8) (by decide)
    first | have f_11 := i_sub (a := a0) (b := ((a0 / 8) * 8)) (by omega) (by omega) | have f_11 := i_subm a0 ((a0 / 8) * 8)
    first | have f_12 := i_add (a := (8 * (a0 / 8))) (b := (a0 - ((a0 / 8) * 8))) (by omega) (by omega) | have f_12 := i_addm (8 * (a0 / 8)) (a0 - ((a0 / 8) * 8))
    exact So.one ⟨(by show 0 ≤ (((8 * (a0 / 8)) + (a0 - ((a0 / 8) * 8))) : Int32).toInt; omega), (by show (((8 * (a0 / 8)) + (a0 - ((a0 / 8) * 8))) : Int32).toInt < 64; omega)⟩
  · rw [i_eq] at c_1
    have k_13 : (8 : Int32).toInt = 8 := by decide
    first | have f_14 := i_divk a0 8 8 (by decide) (by decide) (by omega) | have f_14 := i_diva a0 8 8 (by decide) (by decide)
    have k_15 : (2 : Int32).toInt = 2 := by decide
    first | have f_16 := i_divk (a0 / 8) 2 2 (by decide) (by decide) (by omega) | have f_16 := i_diva (a0 / 8) 2 2 (by decide) (by decide)
    first | have f_17 := i_mulr ((a0 / 8) / 2) 2 (2) (by decide) (by omega) (by omega) | have f_17 := i_mulrm ((a0 / 8) / 2) 2 (2) (by decide)
    first | have f_18 := i_sub (a := (a0 / 8)) (b := (((a0 / 8) / 2) * 2)) (by omega) (by omega) | have f_18 := i_subm (a0 / 8) (((a0 / 8) / 2) * 2)
    have k_19 : (0 : Int32).toInt = 0 := by decide
    unfold Grd_inOrder_j25
    first | have f_20 := i_mull 8 (a0 / 8) (8) (by decide) (by omega) (by omega) | have f_20 := i_mullm 8 (a0 / 8) (8) (by decide)
    have k_21 : (7 : Int32).toInt = 7 := by decide
    first | have f_22 := i_mulr (a0 / 8) 8 (8) (by decide) (by omega) (by omega) | have f_22 := i_mulrm (a0 / 8) 8 (8) (by decide)
    first | have f_23 := i_sub (a := a0) (b := ((a0 / 8) * 8)) (by omega) (by omega) | have f_23 := i_subm a0 ((a0 / 8) * 8)
    first | have f_24 := i_sub (a := 7) (b := (a0 - ((a0 / 8) * 8))) (by omega) (by omega) | have f_24 := i_subm 7 (a0 - ((a0 / 8) * 8))
    first | have f_25 := i_add (a := (8 * (a0 / 8))) (b := (7 - (a0 - ((a0 / 8) * 8)))) (by omega) (by omega) | have f_25 := i_addm (8 * (a0 / 8)) (7 - (a0 - ((a0 / 8) * 8)))
    exact So.one ⟨(by show 0 ≤ (((8 * (a0 / 8)) + (7 - (a0 - ((a0 / 8) * 8)))) : Int32).toInt; omega), (by show (((8 * (a0 / 8)) + (7 - (a0 - ((a0 / 8) * 8)))) : Int32).toInt < 64; omega)⟩
theorem t_Grd_takeCode {a0 : Int32} {a1 : Int64} {a2 : Int32} {sGrd : S_Grd} (I_sGrd : I_Grd sGrd) (g_0 : 0 ≤ a0.toInt) (g_1 : a0.toInt < 64) (g_2 : 0 ≤ (Grd_codeCount sGrd).toInt) (g_3 : (Grd_codeCount sGrd).toInt < 64) : So (Grd_takeCode a0 a1 a2 sGrd) (fun r => I_Grd r ∧ (0 ≤ (Grd_codeCount r).toInt) ∧ ((Grd_codeCount r).toInt ≤ (Grd_codeCount sGrd).toInt + 1)) := by
  unfold Grd_takeCode
  refine So.gd (i_in.mpr (by omega)) ?_
  refine So.lt2 fun sGrd_2 e_1 => ?_
  have I_2 : I_Grd sGrd_2 := by rw [e_1]; exact (I_Grd_put_packed I_sGrd)
  have f_3 : (Grd_codeCount sGrd_2).toInt = (Grd_codeCount sGrd).toInt := by subst e_1; rfl
  refine So.gd (i_in.mpr (by omega)) ?_
  refine So.ite (fun c_4 => ?_) (fun c_4 => ?_)
  · exact So.one ⟨I_2, (by show 0 ≤ (Grd_codeCount sGrd_2).toInt; omega), (by show (Grd_codeCount sGrd_2).toInt ≤ (Grd_codeCount sGrd).toInt + 1; omega)⟩
  · refine So.gd (i_in.mpr (by omega)) ?_
    have f_5 := I_Grd_codeCount I_2
    refine So.gd (i_in.mpr (by omega)) ?_
    refine So.lt2 fun sGrd_6 e_6 => ?_
    have I_7 : I_Grd sGrd_6 := by rw [e_6]; exact (I_Grd_put_codes I_2)
    have f_8 : (Grd_codeCount sGrd_6).toInt = (Grd_codeCount sGrd_2).toInt := by subst e_6; rfl
    have f_9 := I_Grd_codeCount I_7
    refine So.gd (i_in.mpr (by omega)) ?_
    refine So.gd (i_in.mpr (by omega)) ?_
    refine So.lt2 fun sGrd_9 e_10 => ?_
    have I_11 : I_Grd sGrd_9 := by rw [e_10]; exact (I_Grd_put_packed I_7)
    have f_12 : (Grd_codeCount sGrd_9).toInt = (Grd_codeCount sGrd_6).toInt := by subst e_10; rfl
    have f_14 := I_Grd_codeCount I_11
    have k_15 : (1 : Int32).toInt = 1 := by decide
    first | have f_16 := i_add (a := (Grd_codeCount sGrd_9)) (b := 1) (by omega) (by omega) | have f_16 := i_addm (Grd_codeCount sGrd_9) 1
    refine So.lt2 fun sGrd_10 e_13 => ?_
    have I_17 : I_Grd sGrd_10 := by rw [e_13]; exact (I_Grd_set_codeCount I_11 (by show -1 ≤ (((Grd_codeCount sGrd_9) + 1) : Int32).toInt ∧ (((Grd_codeCount sGrd_9) + 1) : Int32).toInt ≤ 64; omega))
    have f_18 : (Grd_codeCount sGrd_10).toInt = (((Grd_codeCount sGrd_9) + 1) : Int32).toInt := by subst e_13; rfl
    exact So.one ⟨I_17, (by show 0 ≤ (Grd_codeCount sGrd_10).toInt; omega), (by show (Grd_codeCount sGrd_10).toInt ≤ (Grd_codeCount sGrd).toInt + 1; omega)⟩
theorem t_Grd_takeCodes_L12 {fu : Nat} {x1_L12 : Int32} {sGrd_L12 : S_Grd} {ke_12 : Int64 → Int64 → Option (Int32 × S_Grd)} {P : Int32 × S_Grd → Prop} (hf : 12000 ≤ fu) (I_sGrd_L12 : I_Grd sGrd_L12) (hke_12 : ∀ (y0 : Int64) (y1 : Int64), So (ke_12 y0 y1) P) (hP : ∀ r, I_Grd r.2 ∧ (0 ≤ (Grd_codeCount r.2).toInt) → P r) : ∀ (n : Nat) (x2_L12 : Int64) (x4_L12 : Int64) (x6_L12 : Int32), (0 ≤ x6_L12.toInt) → (x6_L12.toInt ≤ 64) → (64 - x6_L12.toInt < (n : Nat)) → So (Grd_takeCodes_L12 fu x1_L12 sGrd_L12 ke_12 n x2_L12 x4_L12 x6_L12) P
  | 0, x2_L12, x4_L12, x6_L12, l_0, l_1, l_2 => absurd l_2 (by omega)
  | n + 1, x2_L12, x4_L12, x6_L12, l_0, l_1, l_2 => by
    rw [Grd_takeCodes_L12]
    refine So.ite (fun c_1 => ?_) (fun c_1 => ?_)
    · rw [i_le] at c_1
      have k_2 : (64 : Int32).toInt = 64 := by decide
      exact hke_12 _ _ 
    · rw [i_le] at c_1
      have k_3 : (64 : Int32).toInt = 64 := by decide
      refine So.gd (i_in.mpr (by omega)) ?_
      refine So.ite (fun c_4 => ?_) (fun c_4 => ?_)
      · unfold Grd_takeCodes_j59
        have k_5 : (1 : Int32).toInt = 1 := by decide
        first | have f_6 := i_add (a := x6_L12) (b := 1) (by omega) (by omega) | have f_6 := i_addm x6_L12 1
        exact t_Grd_takeCodes_L12 hf I_sGrd_L12 hke_12 hP n _ _ _ (by show 0 ≤ (x6_L12 + 1).toInt; omega) (by show (x6_L12 + 1).toInt ≤ 64; omega) (by show 64 - (x6_L12 + 1).toInt < (n : Nat); omega)
      · refine So.gd (i_in.mpr (by omega)) ?_
        refine So.lt2 fun u3 e_7 => ?_
        refine So.gd (i_in.mpr (by omega)) ?_
        refine So.lt2 fun u5 e_8 => ?_
        unfold Grd_takeCodes_j59
        have k_9 : (1 : Int32).toInt = 1 := by decide
        first | have f_10 := i_add (a := x6_L12) (b := 1) (by omega) (by omega) | have f_10 := i_addm x6_L12 1
        exact t_Grd_takeCodes_L12 hf I_sGrd_L12 hke_12 hP n _ _ _ (by show 0 ≤ (x6_L12 + 1).toInt; omega) (by show (x6_L12 + 1).toInt ≤ 64; omega) (by show 64 - (x6_L12 + 1).toInt < (n : Nat); omega)
theorem t_Grd_takeCodes_L88 {fu : Nat} {x2_L88 : Int64} {x6_L88 : Int32} (hf : 12000 ≤ fu) : ∀ (n : Nat) (x7_L88 : Int32) (sGrd_L88 : S_Grd), I_Grd sGrd_L88 → (0 ≤ x7_L88.toInt) → (x7_L88.toInt ≤ 64) → (0 ≤ (Grd_codeCount sGrd_L88).toInt) → ((Grd_codeCount sGrd_L88).toInt ≤ x7_L88.toInt) → (64 - x7_L88.toInt < (n : Nat)) → So (Grd_takeCodes_L88 fu x2_L88 x6_L88 n x7_L88 sGrd_L88) (fun r => I_Grd r.2 ∧ (0 ≤ (Grd_codeCount r.2).toInt))
  | 0, x7_L88, sGrd_L88, I_sGrd_L88, l_0, l_1, l_2, l_3, l_4 => absurd l_4 (by omega)
  | n + 1, x7_L88, sGrd_L88, I_sGrd_L88, l_0, l_1, l_2, l_3, l_4 => by
    rw [Grd_takeCodes_L88]
    refine So.ite (fun c_1 => ?_) (fun c_1 => ?_)
    · rw [i_le] at c_1
      have k_2 : (64 : Int32).toInt = 64 := by decide
      exact So.one ⟨I_sGrd_L88, (by show 0 ≤ (Grd_codeCount sGrd_L88).toInt; omega)⟩
    · rw [i_le] at c_1
      have k_3 : (64 : Int32).toInt = 64 := by decide
      refine So.bd (t_Grd_inOrder (by show 0 ≤ x7_L88.toInt; omega) (by show x7_L88.toInt < 64; omega)) fun q10 h_4 => ?_
      obtain ⟨p_5, p_6⟩ := h_4
      have f_7 := I_Grd_codeCount I_sGrd_L88
      refine So.bd (t_Grd_takeCode I_sGrd_L88 (by show 0 ≤ q10.toInt; omega) (by show q10.toInt < 64; omega) (by show 0 ≤ (Grd_codeCount sGrd_L88).toInt; omega) (by show (Grd_codeCount sGrd_L88).toInt < 64; omega)) fun q11 h_8 => ?_
      obtain ⟨p_9, p_10, p_11⟩ := h_8
      have k_12 : (1 : Int32).toInt = 1 := by decide
      first | have f_13 := i_add (a := x7_L88) (b := 1) (by omega) (by omega) | have f_13 := i_addm x7_L88 1
      have f_14 := I_Grd_codeCount p_9
      exact t_Grd_takeCodes_L88 hf   n _ _ p_9 (by show 0 ≤ (x7_L88 + 1).toInt; omega) (by show (x7_L88 + 1).toInt ≤ 64; omega) (by show 0 ≤ (Grd_codeCount q11).toInt; omega) (by show (Grd_codeCount q11).toInt ≤ (x7_L88 + 1).toInt; omega) (by show 64 - (x7_L88 + 1).toInt < (n : Nat); omega)
theorem t_Grd_takeCodes {fu : Nat} {a0 : Int32} {sGrd : S_Grd} (hf : 12000 ≤ fu) (I_sGrd : I_Grd sGrd) : So (Grd_takeCodes fu a0 sGrd) (fun r => I_Grd r.2 ∧ (0 ≤ (Grd_codeCount r.2).toInt)) := by
  unfold Grd_takeCodes
  have k_1 : (0 : Int32).toInt = 0 := by decide
  refine t_Grd_takeCodes_L12 hf I_sGrd ?_ ?_ fu _ _ _ (by show 0 ≤ (0 : Int32).toInt; omega) (by show (0 : Int32).toInt ≤ 64; omega) (by show 64 - (0 : Int32).toInt < (fu : Nat); omega)
  · intro y2 y4
    unfold Grd_takeCodes_j65
    refine So.bd (t_X_bitLength hf) fun q8 h_2 => ?_
    obtain ⟨p_3, p_4⟩ := h_2
    refine So.lt2 fun sGrd_9 e_5 => ?_
    have I_6 : I_Grd sGrd_9 := by rw [e_5]; exact (I_Grd_set_codeCount I_sGrd (by show -1 ≤ (0 : Int32).toInt ∧ (0 : Int32).toInt ≤ 64; omega))
    have f_7 : (Grd_codeCount sGrd_9).toInt = (0 : Int32).toInt := by subst e_5; rfl
    have f_8 := I_Grd_codeCount I_6
    refine So.imp (t_Grd_takeCodes_L88 hf fu _ _ I_6 (by show 0 ≤ (0 : Int32).toInt; omega) (by show (0 : Int32).toInt ≤ 64; omega) (by show 0 ≤ (Grd_codeCount sGrd_9).toInt; omega) (by show (Grd_codeCount sGrd_9).toInt ≤ (0 : Int32).toInt; omega) (by show 64 - (0 : Int32).toInt < (fu : Nat); omega)) fun q_z h_z => ?_
    obtain ⟨p_9, p_10⟩ := h_z
    exact ⟨p_9, (by show 0 ≤ (Grd_codeCount q_z.2).toInt; omega)⟩
  · intro q_z h_z
    obtain ⟨p_11, p_12⟩ := h_z
    exact ⟨p_11, (by show 0 ≤ (Grd_codeCount q_z.2).toInt; omega)⟩
theorem t_Grd_cutFrom_L28 {fu : Nat} {x1_L28 : Int32} {x2_L28 : Int32} (hf : 12000 ≤ fu) (g_0 : 0 ≤ x1_L28.toInt) (g_1 : x1_L28.toInt < 64) : ∀ (n : Nat) (x3_L28 : Int64) (x5_L28 : Int64) (x7_L28 : Int32) (sGrd_L28 : S_Grd), I_Grd sGrd_L28 → (1 ≤ x7_L28.toInt) → (x7_L28.toInt ≤ 65) → (65 - x7_L28.toInt < (n : Nat)) → So (Grd_cutFrom_L28 fu x1_L28 x2_L28 n x3_L28 x5_L28 x7_L28 sGrd_L28) (fun r => I_Grd r)
  | 0, x3_L28, x5_L28, x7_L28, sGrd_L28, I_sGrd_L28, l_0, l_1, l_2 => absurd l_2 (by omega)
  | n + 1, x3_L28, x5_L28, x7_L28, sGrd_L28, I_sGrd_L28, l_0, l_1, l_2 => by
    rw [Grd_cutFrom_L28]
    refine So.ite (fun c_1 => ?_) (fun c_1 => ?_)
    · rw [i_lt] at c_1
      have f_2 := I_Grd_codeCount I_sGrd_L28
      exact So.one I_sGrd_L28
    · rw [i_lt] at c_1
      have f_3 := I_Grd_codeCount I_sGrd_L28
      have k_4 : (1 : Int32).toInt = 1 := by decide
      first | have f_5 := i_sub (a := x7_L28) (b := 1) (by omega) (by omega) | have f_5 := i_subm x7_L28 1
      refine So.gd (i_in.mpr (by omega)) ?_
      refine So.lt2 fun u6 e_6 => ?_
      refine So.gd (i_in.mpr (by omega)) ?_
      refine So.lt2 fun u8 e_7 => ?_
      refine So.bd (t_X_bitLength hf) fun q9 h_8 => ?_
      obtain ⟨p_9, p_10⟩ := h_8
      refine So.gd (i_in.mpr (by omega)) ?_
      refine So.lt2 fun u11 e_11 => ?_
      first | have f_12 := i_sub (a := x7_L28) (b := x1_L28) (by omega) (by omega) | have f_12 := i_subm x7_L28 x1_L28
      first | have f_14 := i_add (a := x2_L28) (b := ((x7_L28 - x1_L28) * q9)) (by omega) (by omega) | have f_14 := i_addm x2_L28 ((x7_L28 - x1_L28) * q9)
      first | have f_15 := i_add (a := (x2_L28 + ((x7_L28 - x1_L28) * q9))) (b := (Grd_cheapest sGrd_L28 (x7_L28.toNatClampNeg))) (by omega) (by omega) | have f_15 := i_addm (x2_L28 + ((x7_L28 - x1_L28) * q9)) (Grd_cheapest sGrd_L28 (x7_L28.toNatClampNeg))
      have f_16 : u11.toInt = ((x2_L28 + ((x7_L28 - x1_L28) * q9)) + (Grd_cheapest sGrd_L28 (x7_L28.toNatClampNeg))).toInt := by rw [e_11]
      refine So.gd (i_in.mpr (by omega)) ?_
      refine So.ite (fun c_17 => ?_) (fun c_17 => ?_)
      · rw [i_lt] at c_17
        unfold Grd_cutFrom_j118
        first | have f_18 := i_add (a := x7_L28) (b := 1) (by omega) (by omega) | have f_18 := i_addm x7_L28 1
        exact t_Grd_cutFrom_L28 hf (by show 0 ≤ x1_L28.toInt; omega) (by show x1_L28.toInt < 64; omega)   n _ _ _ _ I_sGrd_L28 (by show 1 ≤ (x7_L28 + 1).toInt; omega) (by show (x7_L28 + 1).toInt ≤ 65; omega) (by show 65 - (x7_L28 + 1).toInt < (n : Nat); omega)
      · rw [i_lt] at c_17
        refine So.gd (i_in.mpr (by omega)) ?_
        refine So.lt2 fun sGrd_14 e_19 => ?_
        have I_20 : I_Grd sGrd_14 := by rw [e_19]; exact (I_Grd_put_cheapest I_sGrd_L28)
        have f_21 : (Grd_codeCount sGrd_14).toInt = (Grd_codeCount sGrd_L28).toInt := by subst e_19; rfl
        refine So.gd (i_in.mpr (by omega)) ?_
        refine So.lt2 fun sGrd_16 e_22 => ?_
        have I_23 : I_Grd sGrd_16 := by rw [e_22]; exact (I_Grd_put_firstEnds I_20 (by show 0 ≤ (x7_L28 : Int32).toInt ∧ (x7_L28 : Int32).toInt ≤ 64; omega))
        have f_24 : (Grd_codeCount sGrd_16).toInt = (Grd_codeCount sGrd_14).toInt := by subst e_22; rfl
        unfold Grd_cutFrom_j118
        first | have f_25 := i_add (a := x7_L28) (b := 1) (by omega) (by omega) | have f_25 := i_addm x7_L28 1
        exact t_Grd_cutFrom_L28 hf (by show 0 ≤ x1_L28.toInt; omega) (by show x1_L28.toInt < 64; omega)   n _ _ _ _ I_23 (by show 1 ≤ (x7_L28 + 1).toInt; omega) (by show (x7_L28 + 1).toInt ≤ 65; omega) (by show 65 - (x7_L28 + 1).toInt < (n : Nat); omega)
theorem t_Grd_cutFrom {fu : Nat} {a0 : Int32} {a1 : Int32} {sGrd : S_Grd} (hf : 12000 ≤ fu) (I_sGrd : I_Grd sGrd) (g_0 : 0 ≤ a0.toInt) (g_1 : a0.toInt < 64) : So (Grd_cutFrom fu a0 a1 sGrd) (fun r => I_Grd r) := by
  unfold Grd_cutFrom
  refine So.gd (i_in.mpr (by omega)) ?_
  refine So.gd (i_in.mpr (by omega)) ?_
  refine So.gd (i_in.mpr (by omega)) ?_
  refine So.lt2 fun sGrd_4 e_1 => ?_
  have I_2 : I_Grd sGrd_4 := by rw [e_1]; exact (I_Grd_put_cheapest I_sGrd)
  have f_3 : (Grd_codeCount sGrd_4).toInt = (Grd_codeCount sGrd).toInt := by subst e_1; rfl
  have k_4 : (1 : Int32).toInt = 1 := by decide
  first | have f_5 := i_add (a := a0) (b := 1) (by omega) (by omega) | have f_5 := i_addm a0 1
  refine So.imp (t_Grd_cutFrom_L28 hf (by show 0 ≤ a0.toInt; omega) (by show a0.toInt < 64; omega) fu _ _ _ _ I_2 (by show 1 ≤ (a0 + 1).toInt; omega) (by show (a0 + 1).toInt ≤ 65; omega) (by show 65 - (a0 + 1).toInt < (fu : Nat); omega)) fun q_z h_z => ?_
  have p_6 := h_z
  exact p_6
theorem t_Grd_cut_L17 {fu : Nat} {x1_L17 : Int32} {ke_17 : S_Grd → Option (S_Grd)} {P : S_Grd → Prop} (hf : 12000 ≤ fu) (hke_17 : ∀ (y0 : S_Grd), I_Grd y0 → So (ke_17 y0) P) (hP : ∀ r, I_Grd r → P r) : ∀ (n : Nat) (x2_L17 : Int32) (sGrd_L17 : S_Grd), I_Grd sGrd_L17 → (-1 ≤ x2_L17.toInt) → (x2_L17.toInt < 64) → (x2_L17.toInt + 1 < (n : Nat)) → So (Grd_cut_L17 fu x1_L17 ke_17 n x2_L17 sGrd_L17) P
  | 0, x2_L17, sGrd_L17, I_sGrd_L17, l_0, l_1, l_2 => absurd l_2 (by omega)
  | n + 1, x2_L17, sGrd_L17, I_sGrd_L17, l_0, l_1, l_2 => by
    rw [Grd_cut_L17]
    refine So.ite (fun c_1 => ?_) (fun c_1 => ?_)
    · rw [i_lt] at c_1
      have k_2 : (0 : Int32).toInt = 0 := by decide
      exact hke_17 _ I_sGrd_L17
    · rw [i_lt] at c_1
      have k_3 : (0 : Int32).toInt = 0 := by decide
      refine So.bd (t_Grd_cutFrom hf I_sGrd_L17 (by show 0 ≤ x2_L17.toInt; omega) (by show x2_L17.toInt < 64; omega)) fun q3 h_4 => ?_
      have p_5 := h_4
      have k_6 : ((-1) : Int32).toInt = -1 := by decide
      first | have f_7 := i_add (a := x2_L17) (b := (-1)) (by omega) (by omega) | have f_7 := i_addm x2_L17 (-1)
      exact t_Grd_cut_L17 hf hke_17 hP n _ _ p_5 (by show -1 ≤ (x2_L17 + (-1)).toInt; ((try generalize (x2_L17 + (-1)).toInt = gv0 at *); omega)) (by show (x2_L17 + (-1)).toInt < 64; ((try generalize (x2_L17 + (-1)).toInt = gv0 at *); omega)) (by show (x2_L17 + (-1)).toInt + 1 < (n : Nat); ((try generalize (x2_L17 + (-1)).toInt = gv0 at *); omega))
theorem t_Grd_cut_L53 {fu : Nat} (hf : 12000 ≤ fu) : ∀ (n : Nat) (x2_L53 : Int32) (sGrd_L53 : S_Grd), I_Grd sGrd_L53 → (0 ≤ x2_L53.toInt) → (x2_L53.toInt ≤ 64) → ((Grd_groupCount sGrd_L53).toInt ≤ 64) → (64 - (Grd_groupCount sGrd_L53).toInt < (n : Nat)) → So (Grd_cut_L53 fu n x2_L53 sGrd_L53) (fun r => I_Grd r)
  | 0, x2_L53, sGrd_L53, I_sGrd_L53, l_0, l_1, l_2, l_3 => absurd l_3 (by omega)
  | n + 1, x2_L53, sGrd_L53, I_sGrd_L53, l_0, l_1, l_2, l_3 => by
    rw [Grd_cut_L53]
    refine So.ite (fun c_1 => ?_) (fun c_1 => ?_)
    · rw [i_le] at c_1
      have f_2 := I_Grd_codeCount I_sGrd_L53
      exact So.one I_sGrd_L53
    · rw [i_le] at c_1
      have f_3 := I_Grd_codeCount I_sGrd_L53
      refine So.ite (fun c_4 => ?_) (fun c_4 => ?_)
      · rw [i_le] at c_4
        have k_5 : (64 : Int32).toInt = 64 := by decide
        have f_6 := I_Grd_groupCount I_sGrd_L53
        exact So.one I_sGrd_L53
      · rw [i_le] at c_4
        have k_7 : (64 : Int32).toInt = 64 := by decide
        have f_8 := I_Grd_groupCount I_sGrd_L53
        refine So.gd (i_in.mpr (by omega)) ?_
        refine So.gd (i_in.mpr (by omega)) ?_
        refine So.lt2 fun sGrd_10 e_9 => ?_
        have I_10 : I_Grd sGrd_10 := by rw [e_9]; exact (I_Grd_put_groupEnds I_sGrd_L53)
        have f_11 : (Grd_groupCount sGrd_10).toInt = (Grd_groupCount sGrd_L53).toInt := by subst e_9; rfl
        have f_12 : (Grd_codeCount sGrd_10).toInt = (Grd_codeCount sGrd_L53).toInt := by subst e_9; rfl
        have f_14 := I_Grd_groupCount I_10
        have k_15 : (1 : Int32).toInt = 1 := by decide
        first | have f_16 := i_add (a := (Grd_groupCount sGrd_10)) (b := 1) (by omega) (by omega) | have f_16 := i_addm (Grd_groupCount sGrd_10) 1
        refine So.lt2 fun sGrd_11 e_13 => ?_
        have I_17 : I_Grd sGrd_11 := by rw [e_13]; exact (I_Grd_set_groupCount I_10 (by show 0 ≤ (((Grd_groupCount sGrd_10) + 1) : Int32).toInt ∧ (((Grd_groupCount sGrd_10) + 1) : Int32).toInt ≤ 64; omega))
        have f_18 : (Grd_groupCount sGrd_11).toInt = (((Grd_groupCount sGrd_10) + 1) : Int32).toInt := by subst e_13; rfl
        have f_19 : (Grd_codeCount sGrd_11).toInt = (Grd_codeCount sGrd_10).toInt := by subst e_13; rfl
        refine So.gd (i_in.mpr (by omega)) ?_
        refine So.lt2 fun u13 e_20 => ?_
        have f_21 : (Grd_firstEnds sGrd_11 (x2_L53.toNatClampNeg)).toInt = (Grd_firstEnds sGrd_10 (x2_L53.toNatClampNeg)).toInt := by subst e_13; rfl
        have f_22 : (Grd_firstEnds sGrd_10 (x2_L53.toNatClampNeg)).toInt = (Grd_firstEnds sGrd_L53 (x2_L53.toNatClampNeg)).toInt := by subst e_9; rfl
        have f_23 := I_Grd_firstEnds I_sGrd_L53 (x2_L53.toNatClampNeg)
        have f_24 := I_Grd_firstEnds I_10 (x2_L53.toNatClampNeg)
        have f_25 := I_Grd_firstEnds I_17 (x2_L53.toNatClampNeg)
        have f_26 : u13.toInt = (Grd_firstEnds sGrd_11 (x2_L53.toNatClampNeg)).toInt := by rw [e_20]
        have f_27 := I_Grd_groupCount I_17
        exact t_Grd_cut_L53 hf   n _ _ I_17 (by show 0 ≤ u13.toInt; omega) (by show u13.toInt ≤ 64; omega) (by show (Grd_groupCount sGrd_11).toInt ≤ 64; omega) (by show 64 - (Grd_groupCount sGrd_11).toInt < (n : Nat); omega)
theorem t_Grd_cut {fu : Nat} {a0 : Int32} {sGrd : S_Grd} (hf : 12000 ≤ fu) (I_sGrd : I_Grd sGrd) (g_0 : 0 ≤ (Grd_codeCount sGrd).toInt) : So (Grd_cut fu a0 sGrd) (fun r => I_Grd r) := by
  unfold Grd_cut
  have f_1 := I_Grd_codeCount I_sGrd
  refine So.gd (i_in.mpr (by omega)) ?_
  refine So.lt2 fun sGrd_2 e_2 => ?_
  have I_3 : I_Grd sGrd_2 := by rw [e_2]; exact (I_Grd_put_cheapest I_sGrd)
  have f_4 : (Grd_groupCount sGrd_2).toInt = (Grd_groupCount sGrd).toInt := by subst e_2; rfl
  have f_5 : (Grd_codeCount sGrd_2).toInt = (Grd_codeCount sGrd).toInt := by subst e_2; rfl
  have f_6 := I_Grd_codeCount I_3
  have k_7 : (1 : Int32).toInt = 1 := by decide
  first | have f_8 := i_sub (a := (Grd_codeCount sGrd_2)) (b := 1) (by omega) (by omega) | have f_8 := i_subm (Grd_codeCount sGrd_2) 1
  refine t_Grd_cut_L17 hf ?_ ?_ fu _ _ I_3 (by show -1 ≤ ((Grd_codeCount sGrd_2) - 1).toInt; omega) (by show ((Grd_codeCount sGrd_2) - 1).toInt < 64; omega) (by show ((Grd_codeCount sGrd_2) - 1).toInt + 1 < (fu : Nat); omega)
  · intro zGrd I_9
    unfold Grd_cut_j36
    have k_10 : (0 : Int32).toInt = 0 := by decide
    refine So.gd (i_in.mpr (by omega)) ?_
    refine So.lt2 fun sGrd_6 e_11 => ?_
    have I_12 : I_Grd sGrd_6 := by rw [e_11]; exact (I_Grd_set_groupBits I_9)
    have f_13 : (Grd_groupCount sGrd_6).toInt = (Grd_groupCount zGrd).toInt := by subst e_11; rfl
    have f_14 : (Grd_codeCount sGrd_6).toInt = (Grd_codeCount zGrd).toInt := by subst e_11; rfl
    refine So.lt2 fun sGrd_7 e_15 => ?_
    have I_16 : I_Grd sGrd_7 := by rw [e_15]; exact (I_Grd_set_groupCount I_12 (by show 0 ≤ (0 : Int32).toInt ∧ (0 : Int32).toInt ≤ 64; omega))
    have f_17 : (Grd_groupCount sGrd_7).toInt = (0 : Int32).toInt := by subst e_15; rfl
    have f_18 : (Grd_codeCount sGrd_7).toInt = (Grd_codeCount sGrd_6).toInt := by subst e_15; rfl
    have f_19 := I_Grd_groupCount I_16
    refine So.imp (t_Grd_cut_L53 hf fu _ _ I_16 (by show 0 ≤ (0 : Int32).toInt; omega) (by show (0 : Int32).toInt ≤ 64; omega) (by show (Grd_groupCount sGrd_7).toInt ≤ 64; omega) (by show 64 - (Grd_groupCount sGrd_7).toInt < (fu : Nat); omega)) fun q_z h_z => ?_
    have p_20 := h_z
    exact p_20
  · intro q_z h_z
    have p_21 := h_z
    exact p_21
theorem t_Wri_spreadOf {fu : Nat} {a0 : Int64} {a1 : Int32} (hf : 12000 ≤ fu) : So (Wri_spreadOf fu a0 a1) (fun r => (0 ≤ r.toInt) ∧ (r.toInt ≤ 63)) := by
  unfold Wri_spreadOf
  refine So.ite (fun c_1 => ?_) (fun c_1 => ?_)
  · have k_2 : (0 : Int32).toInt = 0 := by decide
    exact So.one ⟨(by show 0 ≤ (0 : Int32).toInt; omega), (by show (0 : Int32).toInt ≤ 63; omega)⟩
  · refine So.ite (fun c_3 => ?_) (fun c_3 => ?_)
    · refine So.ite (fun c_4 => ?_) (fun c_4 => ?_)
      · rw [i_eq] at c_4
        have k_5 : (0 : Int32).toInt = 0 := by decide
        exact So.one ⟨(by show 0 ≤ (0 : Int32).toInt; omega), (by show (0 : Int32).toInt ≤ 63; omega)⟩
      · rw [i_eq] at c_4
        have k_6 : (0 : Int32).toInt = 0 := by decide
        refine So.bd (t_X_bitLength hf) fun q2 h_7 => ?_
        obtain ⟨p_8, p_9⟩ := h_7
        exact So.one ⟨(by show 0 ≤ (q2 : Int32).toInt; omega), (by show (q2 : Int32).toInt ≤ 63; omega)⟩
    · refine So.bd (t_X_bitLength hf) fun q1 h_10 => ?_
      obtain ⟨p_11, p_12⟩ := h_10
      exact So.one ⟨(by show 0 ≤ (q1 : Int32).toInt; omega), (by show (q1 : Int32).toInt ≤ 63; omega)⟩
theorem t_Wri_begin {fu : Nat} {sWri : S_Wri} {a0 : Int32} {a1 : Int32} {sWB : S_Bits} (hf : 12000 ≤ fu) (I_sWB : I_Bits sWB) : So (Wri_begin fu sWri a0 a1 sWB) (fun r => I_Bits r) := by
  unfold Wri_begin
  have k_1 : (3679 : Int32).toInt = 3679 := by decide
  refine So.bd (t_Bits_empty hf I_sWB (by show (3679 : Int) ≤ 3679; omega)) fun q1 h_2 => ?_
  obtain ⟨p_3, p_4⟩ := h_2
  have f_5 := I_Bits_length p_3
  have k_6 : (8 : Int32).toInt = 8 := by decide
  refine So.bd (t_Bits_add hf p_3 (by show (3679 : Int) ≤ 3679; omega) (by show (Bits_length q1).toInt ≤ 8 * (3679 : Int); omega) (by show -100 ≤ (8 : Int32).toInt; omega) (by show (8 : Int32).toInt ≤ 120; omega)) fun q2 h_7 => ?_
  obtain ⟨p_8, p_9⟩ := h_7
  have f_10 := I_Bits_length p_8
  refine So.bd (t_Bits_add hf p_8 (by show (3679 : Int) ≤ 3679; omega) (by show (Bits_length q2).toInt ≤ 8 * (3679 : Int); omega) (by show -100 ≤ (8 : Int32).toInt; omega) (by show (8 : Int32).toInt ≤ 120; omega)) fun q3 h_11 => ?_
  obtain ⟨p_12, p_13⟩ := h_11
  have f_14 := I_Bits_length p_12
  have k_15 : (16 : Int32).toInt = 16 := by decide
  refine So.bd (t_Bits_add hf p_12 (by show (3679 : Int) ≤ 3679; omega) (by show (Bits_length q3).toInt ≤ 8 * (3679 : Int); omega) (by show -100 ≤ (16 : Int32).toInt; omega) (by show (16 : Int32).toInt ≤ 120; omega)) fun q4 h_16 => ?_
  obtain ⟨p_17, p_18⟩ := h_16
  exact So.one p_17
theorem t_Wri_end {sWri : S_Wri} {sWB : S_Bits} (I_sWB : I_Bits sWB) : So (Wri_end sWri sWB) (fun r => I_Bits r) := by
  unfold Wri_end
  have k_1 : (2 : Int32).toInt = 2 := by decide
  refine So.gd (i_in.mpr (by omega)) ?_
  refine So.lt2 fun sWB_2 e_2 => ?_
  have I_3 : I_Bits sWB_2 := by rw [e_2]; exact (I_Bits_put_bytes I_sWB)
  have f_4 : (Bits_length sWB_2).toInt = (Bits_length sWB).toInt := by subst e_2; rfl
  have k_5 : (3 : Int32).toInt = 3 := by decide
  refine So.gd (i_in.mpr (by omega)) ?_
  refine So.lt2 fun sWB_4 e_6 => ?_
  have I_7 : I_Bits sWB_4 := by rw [e_6]; exact (I_Bits_put_bytes I_3)
  have f_8 : (Bits_length sWB_4).toInt = (Bits_length sWB_2).toInt := by subst e_6; rfl
  exact So.one I_7
theorem t_Wri_addPacked_L20 {fu : Nat} {sVAL : (Nat → Nat → Int64)} {sFld : S_Fld} {sWri : S_Wri} {x2_L20 : Int32} {x4_L20 : Int32} {sWB_L20 : S_Bits} {ke_20 : Int64 → Int64 → Int32 → Option (S_Bits)} {P : S_Bits → Prop} (hf : 12000 ≤ fu) (I_sFld : I_Fld sFld) (I_sWB_L20 : I_Bits sWB_L20) (g_0 : 0 ≤ x2_L20.toInt) (g_1 : x2_L20.toInt < 100) (g_2 : x4_L20.toInt ≤ 8) (hke_20 : ∀ (y0 : Int64) (y1 : Int64) (y2 : Int32), So (ke_20 y0 y1 y2) P) (hP : ∀ r, I_Bits r → P r) : ∀ (n : Nat) (x5_L20 : Int64) (x7_L20 : Int64) (x9_L20 : Int32) (x10_L20 : Int32), (0 ≤ x10_L20.toInt) → (x10_L20.toInt ≤ 8) → (8 - x10_L20.toInt < (n : Nat)) → So (Wri_addPacked_L20 fu sVAL sFld sWri x2_L20 x4_L20 sWB_L20 ke_20 n x5_L20 x7_L20 x9_L20 x10_L20) P
  | 0, x5_L20, x7_L20, x9_L20, x10_L20, l_0, l_1, l_2 => absurd l_2 (by omega)
  | n + 1, x5_L20, x7_L20, x9_L20, x10_L20, l_0, l_1, l_2 => by
    rw [Wri_addPacked_L20]
    refine So.ite (fun c_1 => ?_) (fun c_1 => ?_)
    · rw [i_le] at c_1
      exact hke_20 _ _ _ 
    · rw [i_le] at c_1
      refine So.gd (i_in.mpr (by omega)) ?_
      refine So.gd (i_in.mpr (by omega)) ?_
      refine So.bd (t_Fld_rawOf I_sFld (by show 0 ≤ x2_L20.toInt; omega) (by show x2_L20.toInt < 100; omega)) fun q5 h_2 => ?_
      refine So.bd (t_Fld_isMissing I_sFld (by show 0 ≤ x2_L20.toInt; omega) (by show x2_L20.toInt < 100; omega)) fun q6 h_3 => ?_
      refine So.ite (fun c_4 => ?_) (fun c_4 => ?_)
      · rw [i_eq] at c_4
        have k_5 : (0 : Int32).toInt = 0 := by decide
        unfold Wri_addPacked_j74
        have k_6 : (1 : Int32).toInt = 1 := by decide
        first | have f_7 := i_add (a := x10_L20) (b := 1) (by omega) (by omega) | have f_7 := i_addm x10_L20 1
        exact t_Wri_addPacked_L20 hf I_sFld I_sWB_L20 (by show 0 ≤ x2_L20.toInt; omega) (by show x2_L20.toInt < 100; omega) (by show x4_L20.toInt ≤ 8; omega) hke_20 hP n _ _ _ _ (by show 0 ≤ (x10_L20 + 1).toInt; omega) (by show (x10_L20 + 1).toInt ≤ 8; omega) (by show 8 - (x10_L20 + 1).toInt < (n : Nat); omega)
      · rw [i_eq] at c_4
        have k_8 : (0 : Int32).toInt = 0 := by decide
        unfold Wri_addPacked_j74
        have k_9 : (1 : Int32).toInt = 1 := by decide
        first | have f_10 := i_add (a := x10_L20) (b := 1) (by omega) (by omega) | have f_10 := i_addm x10_L20 1
        exact t_Wri_addPacked_L20 hf I_sFld I_sWB_L20 (by show 0 ≤ x2_L20.toInt; omega) (by show x2_L20.toInt < 100; omega) (by show x4_L20.toInt ≤ 8; omega) hke_20 hP n _ _ _ _ (by show 0 ≤ (x10_L20 + 1).toInt; omega) (by show (x10_L20 + 1).toInt ≤ 8; omega) (by show 8 - (x10_L20 + 1).toInt < (n : Nat); omega)
theorem t_Wri_addPacked_L122 {fu : Nat} {sVAL : (Nat → Nat → Int64)} {sFld : S_Fld} {sWri : S_Wri} {x2_L122 : Int32} {x4_L122 : Int32} {x5_L122 : Int64} {x10_L122 : Int32} (hf : 12000 ≤ fu) (I_sFld : I_Fld sFld) (g_0 : 0 ≤ x2_L122.toInt) (g_1 : x2_L122.toInt < 100) (g_2 : x4_L122.toInt ≤ 8) (g_3 : 0 ≤ x10_L122.toInt) (g_4 : x10_L122.toInt ≤ 63) : ∀ (n : Nat) (x11_L122 : Int32) (sWB_L122 : S_Bits), I_Bits sWB_L122 → (0 ≤ x11_L122.toInt) → (x11_L122.toInt ≤ 8) → (8 - x11_L122.toInt < (n : Nat)) → So (Wri_addPacked_L122 fu sVAL sFld sWri x2_L122 x4_L122 x5_L122 x10_L122 n x11_L122 sWB_L122) (fun r => I_Bits r)
  | 0, x11_L122, sWB_L122, I_sWB_L122, l_0, l_1, l_2 => absurd l_2 (by omega)
  | n + 1, x11_L122, sWB_L122, I_sWB_L122, l_0, l_1, l_2 => by
    rw [Wri_addPacked_L122]
    refine So.ite (fun c_1 => ?_) (fun c_1 => ?_)
    · rw [i_le] at c_1
      exact So.one I_sWB_L122
    · rw [i_le] at c_1
      refine So.ite (fun c_2 => ?_) (fun c_2 => ?_)
      · rw [i_le] at c_2
        have k_3 : (0 : Int32).toInt = 0 := by decide
        exact So.one I_sWB_L122
      · rw [i_le] at c_2
        have k_4 : (0 : Int32).toInt = 0 := by decide
        refine So.gd (i_in.mpr (by omega)) ?_
        refine So.gd (i_in.mpr (by omega)) ?_
        refine So.bd (t_Fld_rawOf I_sFld (by show 0 ≤ x2_L122.toInt; omega) (by show x2_L122.toInt < 100; omega)) fun q15 h_5 => ?_
        refine So.bd (t_Fld_isMissing I_sFld (by show 0 ≤ x2_L122.toInt; omega) (by show x2_L122.toInt < 100; omega)) fun q16 h_6 => ?_
        refine So.ite (fun c_7 => ?_) (fun c_7 => ?_)
        · rw [i_eq] at c_7
          unfold Wri_addPacked_j174
          have k_8 : (3679 : Int32).toInt = 3679 := by decide
          have f_9 := I_Bits_length I_sWB_L122
          refine So.bd (t_Bits_add hf I_sWB_L122 (by show (3679 : Int) ≤ 3679; omega) (by show (Bits_length sWB_L122).toInt ≤ 8 * (3679 : Int); omega) (by show -100 ≤ x10_L122.toInt; omega) (by show x10_L122.toInt ≤ 120; omega)) fun q21 h_10 => ?_
          obtain ⟨p_11, p_12⟩ := h_10
          have k_13 : (1 : Int32).toInt = 1 := by decide
          first | have f_14 := i_add (a := x11_L122) (b := 1) (by omega) (by omega) | have f_14 := i_addm x11_L122 1
          exact t_Wri_addPacked_L122 hf I_sFld (by show 0 ≤ x2_L122.toInt; omega) (by show x2_L122.toInt < 100; omega) (by show x4_L122.toInt ≤ 8; omega) (by show 0 ≤ x10_L122.toInt; omega) (by show x10_L122.toInt ≤ 63; omega)   n _ _ p_11 (by show 0 ≤ (x11_L122 + 1).toInt; omega) (by show (x11_L122 + 1).toInt ≤ 8; omega) (by show 8 - (x11_L122 + 1).toInt < (n : Nat); omega)
        · rw [i_eq] at c_7
          refine So.bd (t_X_allOnes ) fun q17 h_15 => ?_
          unfold Wri_addPacked_j174
          have k_16 : (3679 : Int32).toInt = 3679 := by decide
          have f_17 := I_Bits_length I_sWB_L122
          refine So.bd (t_Bits_add hf I_sWB_L122 (by show (3679 : Int) ≤ 3679; omega) (by show (Bits_length sWB_L122).toInt ≤ 8 * (3679 : Int); omega) (by show -100 ≤ x10_L122.toInt; omega) (by show x10_L122.toInt ≤ 120; omega)) fun q21 h_18 => ?_
          obtain ⟨p_19, p_20⟩ := h_18
          have k_21 : (1 : Int32).toInt = 1 := by decide
          first | have f_22 := i_add (a := x11_L122) (b := 1) (by omega) (by omega) | have f_22 := i_addm x11_L122 1
          exact t_Wri_addPacked_L122 hf I_sFld (by show 0 ≤ x2_L122.toInt; omega) (by show x2_L122.toInt < 100; omega) (by show x4_L122.toInt ≤ 8; omega) (by show 0 ≤ x10_L122.toInt; omega) (by show x10_L122.toInt ≤ 63; omega)   n _ _ p_19 (by show 0 ≤ (x11_L122 + 1).toInt; omega) (by show (x11_L122 + 1).toInt ≤ 8; omega) (by show 8 - (x11_L122 + 1).toInt < (n : Nat); omega)
theorem t_Wri_addPacked {fu : Nat} {sVAL : (Nat → Nat → Int64)} {sFld : S_Fld} {sWri : S_Wri} {a1 : Int32} {a3 : Int32} {sWB : S_Bits} (hf : 12000 ≤ fu) (I_sFld : I_Fld sFld) (I_sWB : I_Bits sWB) (g_0 : 0 ≤ a1.toInt) (g_1 : a1.toInt < 100) (g_2 : a3.toInt ≤ 8) : So (Wri_addPacked fu sVAL sFld sWri a1 a3 sWB) (fun r => I_Bits r) := by
  unfold Wri_addPacked
  refine So.gd (i_in.mpr (by omega)) ?_
  refine So.bd (t_X_allOnes ) fun q2 h_1 => ?_
  have k_2 : (0 : Int32).toInt = 0 := by decide
  refine t_Wri_addPacked_L20 hf I_sFld I_sWB (by show 0 ≤ a1.toInt; omega) (by show a1.toInt < 100; omega) (by show a3.toInt ≤ 8; omega) ?_ ?_ fu _ _ _ _ (by show 0 ≤ (0 : Int32).toInt; omega) (by show (0 : Int32).toInt ≤ 8; omega) (by show 8 - (0 : Int32).toInt < (fu : Nat); omega)
  · intro y5 y7 y9
    unfold Wri_addPacked_j80
    refine So.bd (t_Wri_spreadOf hf) fun q9 h_3 => ?_
    obtain ⟨p_4, p_5⟩ := h_3
    refine So.gd (i_in.mpr (by omega)) ?_
    have k_6 : (3679 : Int32).toInt = 3679 := by decide
    have f_7 := I_Bits_length I_sWB
    have f_8 := I_Fld_widths I_sFld (a1.toNatClampNeg)
    refine So.bd (t_Bits_add hf I_sWB (by show (3679 : Int) ≤ 3679; omega) (by show (Bits_length sWB).toInt ≤ 8 * (3679 : Int); omega) (by show -100 ≤ (Fld_widths sFld (a1.toNatClampNeg)).toInt; omega) (by show (Fld_widths sFld (a1.toNatClampNeg)).toInt ≤ 120; omega)) fun q11 h_9 => ?_
    obtain ⟨p_10, p_11⟩ := h_9
    have f_12 := I_Bits_length p_10
    have k_13 : (6 : Int32).toInt = 6 := by decide
    refine So.bd (t_Bits_add hf p_10 (by show (3679 : Int) ≤ 3679; omega) (by show (Bits_length q11).toInt ≤ 8 * (3679 : Int); omega) (by show -100 ≤ (6 : Int32).toInt; omega) (by show (6 : Int32).toInt ≤ 120; omega)) fun q12 h_14 => ?_
    obtain ⟨p_15, p_16⟩ := h_14
    refine So.imp (t_Wri_addPacked_L122 hf I_sFld (by show 0 ≤ a1.toInt; omega) (by show a1.toInt < 100; omega) (by show a3.toInt ≤ 8; omega) (by show 0 ≤ q9.toInt; omega) (by show q9.toInt ≤ 63; omega) fu _ _ p_15 (by show 0 ≤ (0 : Int32).toInt; omega) (by show (0 : Int32).toInt ≤ 8; omega) (by show 8 - (0 : Int32).toInt < (fu : Nat); omega)) fun q_z h_z => ?_
    have p_17 := h_z
    exact p_17
  · intro q_z h_z
    have p_18 := h_z
    exact p_18
theorem t_Wri_takePlain_L27 {fu : Nat} {sVAL : (Nat → Nat → Int64)} {sTab : S_Tab} {sProg : S_Prog} {sWri : S_Wri} {x3_L10 : Int32} {x4_L27 : Int32} {sWalk_L27 : S_Walk} {sFld_L27 : S_Fld} {sLps_L27 : S_Lps} {ke_27 : S_Bits → Option (S_Walk × S_Fld × S_Lps × S_Bits)} {P : S_Walk × S_Fld × S_Lps × S_Bits → Prop} (hf : 12000 ≤ fu) (I_sTab : I_Tab sTab) (I_sProg : I_Prog sProg) (I_sWalk_L27 : I_Walk sWalk_L27) (I_sFld_L27 : I_Fld sFld_L27) (I_sLps_L27 : I_Lps sLps_L27) (g_0 : 0 ≤ x4_L27.toInt) (g_1 : x4_L27.toInt < 8) (hke_27 : ∀ (y0 : S_Bits), I_Bits y0 → So (ke_27 y0) P) (hP : ∀ r, I_Walk r.1 ∧ I_Fld r.2.1 ∧ I_Lps r.2.2.1 ∧ I_Bits r.2.2.2 → P r) : ∀ (n : Nat) (x5_L27 : Int32) (sWB_L27 : S_Bits), I_Bits sWB_L27 → (0 ≤ x5_L27.toInt) → (x5_L27.toInt ≤ 100) → (100 - x5_L27.toInt < (n : Nat)) → So (Wri_takePlain_L27 fu sVAL sTab sProg sWri x3_L10 x4_L27 sWalk_L27 sFld_L27 sLps_L27 ke_27 n x5_L27 sWB_L27) P
  | 0, x5_L27, sWB_L27, I_sWB_L27, l_0, l_1, l_2 => absurd l_2 (by omega)
  | n + 1, x5_L27, sWB_L27, I_sWB_L27, l_0, l_1, l_2 => by
    rw [Wri_takePlain_L27]
    refine So.ite (fun c_1 => ?_) (fun c_1 => ?_)
    · rw [i_le] at c_1
      have f_2 := I_Fld_count I_sFld_L27
      exact hke_27 _ I_sWB_L27
    · rw [i_le] at c_1
      have f_3 := I_Fld_count I_sFld_L27
      refine So.gd (i_in.mpr (by omega)) ?_
      refine So.gd (i_in.mpr (by omega)) ?_
      refine So.bd (t_Fld_rawOf I_sFld_L27 (by show 0 ≤ x5_L27.toInt; omega) (by show x5_L27.toInt < 100; omega)) fun q7 h_4 => ?_
      refine So.gd (i_in.mpr (by omega)) ?_
      have k_5 : (3679 : Int32).toInt = 3679 := by decide
      have f_6 := I_Bits_length I_sWB_L27
      have f_7 := I_Fld_widths I_sFld_L27 (x5_L27.toNatClampNeg)
      refine So.bd (t_Bits_add hf I_sWB_L27 (by show (3679 : Int) ≤ 3679; omega) (by show (Bits_length sWB_L27).toInt ≤ 8 * (3679 : Int); omega) (by show -100 ≤ (Fld_widths sFld_L27 (x5_L27.toNatClampNeg)).toInt; omega) (by show (Fld_widths sFld_L27 (x5_L27.toNatClampNeg)).toInt ≤ 120; omega)) fun q9 h_8 => ?_
      obtain ⟨p_9, p_10⟩ := h_8
      have k_11 : (1 : Int32).toInt = 1 := by decide
      first | have f_12 := i_add (a := x5_L27) (b := 1) (by omega) (by omega) | have f_12 := i_addm x5_L27 1
      exact t_Wri_takePlain_L27 hf I_sTab I_sProg I_sWalk_L27 I_sFld_L27 I_sLps_L27 (by show 0 ≤ x4_L27.toInt; omega) (by show x4_L27.toInt < 8; omega) hke_27 hP n _ _ p_9 (by show 0 ≤ (x5_L27 + 1).toInt; omega) (by show (x5_L27 + 1).toInt ≤ 100; omega) (by show 100 - (x5_L27 + 1).toInt < (n : Nat); omega)
theorem t_Wri_takePlain_L10 {fu : Nat} {sVAL : (Nat → Nat → Int64)} {sTab : S_Tab} {sProg : S_Prog} {sWri : S_Wri} {x3_L10 : Int32} (hf : 12000 ≤ fu) (I_sTab : I_Tab sTab) (I_sProg : I_Prog sProg) (g_0 : x3_L10.toInt ≤ 8) : ∀ (n : Nat) (x4_L10 : Int32) (sWalk_L10 : S_Walk) (sFld_L10 : S_Fld) (sLps_L10 : S_Lps) (sWB_L10 : S_Bits), I_Walk sWalk_L10 → I_Fld sFld_L10 → I_Lps sLps_L10 → I_Bits sWB_L10 → (0 ≤ x4_L10.toInt) → (x4_L10.toInt ≤ 8) → (8 - x4_L10.toInt < (n : Nat)) → So (Wri_takePlain_L10 fu sVAL sTab sProg sWri x3_L10 n x4_L10 sWalk_L10 sFld_L10 sLps_L10 sWB_L10) (fun r => I_Walk r.1 ∧ I_Fld r.2.1 ∧ I_Lps r.2.2.1 ∧ I_Bits r.2.2.2)
  | 0, x4_L10, sWalk_L10, sFld_L10, sLps_L10, sWB_L10, I_sWalk_L10, I_sFld_L10, I_sLps_L10, I_sWB_L10, l_0, l_1, l_2 => absurd l_2 (by omega)
  | n + 1, x4_L10, sWalk_L10, sFld_L10, sLps_L10, sWB_L10, I_sWalk_L10, I_sFld_L10, I_sLps_L10, I_sWB_L10, l_0, l_1, l_2 => by
    rw [Wri_takePlain_L10]
    refine So.ite (fun c_1 => ?_) (fun c_1 => ?_)
    · rw [i_le] at c_1
      refine So.bd (t_Wri_end I_sWB_L10) fun q2 h_2 => ?_
      have p_3 := h_2
      exact So.one ⟨I_sWalk_L10, I_sFld_L10, I_sLps_L10, p_3⟩
    · rw [i_le] at c_1
      refine So.gd (i_in.mpr (by omega)) ?_
      have k_4 : (100 : Int32).toInt = 100 := by decide
      refine So.bd (t_Walk_over hf I_sTab I_sProg I_sWalk_L10 I_sFld_L10 I_sLps_L10 (by show (100 : Int) = 100; omega)) fun q4 h_5 => ?_
      obtain ⟨p_6, p_7, p_8, p_9, p_10, p_11⟩ := h_5
      have k_12 : (0 : Int32).toInt = 0 := by decide
      refine t_Wri_takePlain_L27 hf I_sTab I_sProg p_6 p_7 p_8 (by show 0 ≤ x4_L10.toInt; omega) (by show x4_L10.toInt < 8; omega) ?_ ?_ fu _ _ I_sWB_L10 (by show 0 ≤ (0 : Int32).toInt; omega) (by show (0 : Int32).toInt ≤ 100; omega) (by show 100 - (0 : Int32).toInt < (fu : Nat); omega)
      · intro zWB I_13
        unfold Wri_takePlain_j78
        have k_14 : (1 : Int32).toInt = 1 := by decide
        first | have f_15 := i_add (a := x4_L10) (b := 1) (by omega) (by omega) | have f_15 := i_addm x4_L10 1
        exact t_Wri_takePlain_L10 hf I_sTab I_sProg (by show x3_L10.toInt ≤ 8; omega)   n _ _ _ _ _ p_6 p_7 p_8 I_13 (by show 0 ≤ (x4_L10 + 1).toInt; omega) (by show (x4_L10 + 1).toInt ≤ 8; omega) (by show 8 - (x4_L10 + 1).toInt < (n : Nat); omega)
      · intro q_z h_z
        obtain ⟨p_16, p_17, p_18, p_19⟩ := h_z
        exact ⟨p_16, p_17, p_18, p_19⟩
theorem t_Wri_takePlain {fu : Nat} {sVAL : (Nat → Nat → Int64)} {sTab : S_Tab} {sProg : S_Prog} {sWri : S_Wri} {a2 : Int32} {sWalk : S_Walk} {sFld : S_Fld} {sLps : S_Lps} {sWB : S_Bits} (hf : 12000 ≤ fu) (I_sTab : I_Tab sTab) (I_sProg : I_Prog sProg) (I_sWalk : I_Walk sWalk) (I_sFld : I_Fld sFld) (I_sLps : I_Lps sLps) (I_sWB : I_Bits sWB) (g_0 : a2.toInt ≤ 8) : So (Wri_takePlain fu sVAL sTab sProg sWri a2 sWalk sFld sLps sWB) (fun r => I_Walk r.1 ∧ I_Fld r.2.1 ∧ I_Lps r.2.2.1 ∧ I_Bits r.2.2.2) := by
  unfold Wri_takePlain
  refine So.bd (t_Wri_begin hf I_sWB) fun q1 h_1 => ?_
  have p_2 := h_1
  have k_3 : (0 : Int32).toInt = 0 := by decide
  refine So.imp (t_Wri_takePlain_L10 hf I_sTab I_sProg (by show a2.toInt ≤ 8; omega) fu _ _ _ _ _ I_sWalk I_sFld I_sLps p_2 (by show 0 ≤ (0 : Int32).toInt; omega) (by show (0 : Int32).toInt ≤ 8; omega) (by show 8 - (0 : Int32).toInt < (fu : Nat); omega)) fun q_z h_z => ?_
  obtain ⟨p_4, p_5, p_6, p_7⟩ := h_z
  exact ⟨p_4, p_5, p_6, p_7⟩
theorem t_Wri_takePacked_L17 {fu : Nat} {sVAL : (Nat → Nat → Int64)} {sTab : S_Tab} {sProg : S_Prog} {sWri : S_Wri} {x3_L17 : Int32} {sWalk_L17 : S_Walk} {sFld_L17 : S_Fld} {sLps_L17 : S_Lps} (hf : 12000 ≤ fu) (I_sTab : I_Tab sTab) (I_sProg : I_Prog sProg) (I_sWalk_L17 : I_Walk sWalk_L17) (I_sFld_L17 : I_Fld sFld_L17) (I_sLps_L17 : I_Lps sLps_L17) (g_0 : x3_L17.toInt ≤ 8) : ∀ (n : Nat) (x4_L17 : Int32) (sWB_L17 : S_Bits), I_Bits sWB_L17 → (0 ≤ x4_L17.toInt) → (x4_L17.toInt ≤ 100) → (100 - x4_L17.toInt < (n : Nat)) → So (Wri_takePacked_L17 fu sVAL sTab sProg sWri x3_L17 sWalk_L17 sFld_L17 sLps_L17 n x4_L17 sWB_L17) (fun r => I_Walk r.1 ∧ I_Fld r.2.1 ∧ I_Lps r.2.2.1 ∧ I_Bits r.2.2.2)
  | 0, x4_L17, sWB_L17, I_sWB_L17, l_0, l_1, l_2 => absurd l_2 (by omega)
  | n + 1, x4_L17, sWB_L17, I_sWB_L17, l_0, l_1, l_2 => by
    rw [Wri_takePacked_L17]
    refine So.ite (fun c_1 => ?_) (fun c_1 => ?_)
    · rw [i_le] at c_1
      have f_2 := I_Fld_count I_sFld_L17
      refine So.bd (t_Wri_end I_sWB_L17) fun q4 h_3 => ?_
      have p_4 := h_3
      exact So.one ⟨I_sWalk_L17, I_sFld_L17, I_sLps_L17, p_4⟩
    · rw [i_le] at c_1
      have f_5 := I_Fld_count I_sFld_L17
      refine So.bd (t_Wri_addPacked hf I_sFld_L17 I_sWB_L17 (by show 0 ≤ x4_L17.toInt; omega) (by show x4_L17.toInt < 100; omega) (by show x3_L17.toInt ≤ 8; omega)) fun q5 h_6 => ?_
      have p_7 := h_6
      have k_8 : (1 : Int32).toInt = 1 := by decide
      first | have f_9 := i_add (a := x4_L17) (b := 1) (by omega) (by omega) | have f_9 := i_addm x4_L17 1
      exact t_Wri_takePacked_L17 hf I_sTab I_sProg I_sWalk_L17 I_sFld_L17 I_sLps_L17 (by show x3_L17.toInt ≤ 8; omega)   n _ _ p_7 (by show 0 ≤ (x4_L17 + 1).toInt; omega) (by show (x4_L17 + 1).toInt ≤ 100; omega) (by show 100 - (x4_L17 + 1).toInt < (n : Nat); omega)
theorem t_Wri_takePacked {fu : Nat} {sVAL : (Nat → Nat → Int64)} {sTab : S_Tab} {sProg : S_Prog} {sWri : S_Wri} {a2 : Int32} {sWalk : S_Walk} {sFld : S_Fld} {sLps : S_Lps} {sWB : S_Bits} (hf : 12000 ≤ fu) (I_sTab : I_Tab sTab) (I_sProg : I_Prog sProg) (I_sWalk : I_Walk sWalk) (I_sFld : I_Fld sFld) (I_sLps : I_Lps sLps) (I_sWB : I_Bits sWB) (g_0 : a2.toInt ≤ 8) : So (Wri_takePacked fu sVAL sTab sProg sWri a2 sWalk sFld sLps sWB) (fun r => I_Walk r.1 ∧ I_Fld r.2.1 ∧ I_Lps r.2.2.1 ∧ I_Bits r.2.2.2) := by
  unfold Wri_takePacked
  refine So.bd (t_Wri_begin hf I_sWB) fun q1 h_1 => ?_
  have p_2 := h_1
  have k_3 : (0 : Int32).toInt = 0 := by decide
  refine So.gd (i_in.mpr (by omega)) ?_
  have k_4 : (100 : Int32).toInt = 100 := by decide
  refine So.bd (t_Walk_over hf I_sTab I_sProg I_sWalk I_sFld I_sLps (by show (100 : Int) = 100; omega)) fun q3 h_5 => ?_
  obtain ⟨p_6, p_7, p_8, p_9, p_10, p_11⟩ := h_5
  refine So.imp (t_Wri_takePacked_L17 hf I_sTab I_sProg p_6 p_7 p_8 (by show a2.toInt ≤ 8; omega) fu _ _ p_2 (by show 0 ≤ (0 : Int32).toInt; omega) (by show (0 : Int32).toInt ≤ 100; omega) (by show 100 - (0 : Int32).toInt < (fu : Nat); omega)) fun q_z h_z => ?_
  obtain ⟨p_12, p_13, p_14, p_15⟩ := h_z
  exact ⟨p_12, p_13, p_14, p_15⟩

theorem t_Law_element {sX : S_X} {a1 : Int32} {a2 : Int32} {a3 : Int32} {a4 : Int32} {a5 : Int32} {sTab : S_Tab} (I_sTab : I_Tab sTab) : So (Law_element sX a1 a2 a3 a4 a5 sTab) (fun r => I_Tab r.2 ∧ ((r.1.toInt = 0 ∧ (-1 ≤ a1.toInt ∧ a1.toInt < 4 ∧ 0 ≤ a2.toInt ∧ a2.toInt < 64 ∧ -8 ≤ a3.toInt ∧ a3.toInt ≤ 8 ∧ -1000000000 ≤ a4.toInt ∧ a4.toInt ≤ 1000000000 ∧ 1 ≤ a5.toInt ∧ a5.toInt ≤ 32)) ∨ (r.1.toInt = 1 ∧ ¬ (-1 ≤ a1.toInt ∧ a1.toInt < 4 ∧ 0 ≤ a2.toInt ∧ a2.toInt < 64 ∧ -8 ≤ a3.toInt ∧ a3.toInt ≤ 8 ∧ -1000000000 ≤ a4.toInt ∧ a4.toInt ≤ 1000000000 ∧ 1 ≤ a5.toInt ∧ a5.toInt ≤ 32)))) := by
  unfold Law_element
  refine So.bd (t_X_element I_sTab) fun q1 h_1 => ?_
  obtain ⟨p_2, p_3⟩ := h_1
  refine So.ite (fun c_4 => ?_) (fun c_4 => ?_)
  · rw [i_eq] at c_4
    have k_5 : (0 : Int32).toInt = 0 := by decide
    exact So.one ⟨p_2, (by show ((0 : Int32).toInt = 0 ∧ (-1 ≤ a1.toInt ∧ a1.toInt < 4 ∧ 0 ≤ a2.toInt ∧ a2.toInt < 64 ∧ -8 ≤ a3.toInt ∧ a3.toInt ≤ 8 ∧ -1000000000 ≤ a4.toInt ∧ a4.toInt ≤ 1000000000 ∧ 1 ≤ a5.toInt ∧ a5.toInt ≤ 32)) ∨ ((0 : Int32).toInt = 1 ∧ ¬ (-1 ≤ a1.toInt ∧ a1.toInt < 4 ∧ 0 ≤ a2.toInt ∧ a2.toInt < 64 ∧ -8 ≤ a3.toInt ∧ a3.toInt ≤ 8 ∧ -1000000000 ≤ a4.toInt ∧ a4.toInt ≤ 1000000000 ∧ 1 ≤ a5.toInt ∧ a5.toInt ≤ 32)); omega)⟩
  · rw [i_eq] at c_4
    have k_6 : (0 : Int32).toInt = 0 := by decide
    refine So.ite (fun c_7 => ?_) (fun c_7 => ?_)
    · rw [i_eq] at c_7
      have k_8 : (1 : Int32).toInt = 1 := by decide
      exact So.one ⟨p_2, (by show ((1 : Int32).toInt = 0 ∧ (-1 ≤ a1.toInt ∧ a1.toInt < 4 ∧ 0 ≤ a2.toInt ∧ a2.toInt < 64 ∧ -8 ≤ a3.toInt ∧ a3.toInt ≤ 8 ∧ -1000000000 ≤ a4.toInt ∧ a4.toInt ≤ 1000000000 ∧ 1 ≤ a5.toInt ∧ a5.toInt ≤ 32)) ∨ ((1 : Int32).toInt = 1 ∧ ¬ (-1 ≤ a1.toInt ∧ a1.toInt < 4 ∧ 0 ≤ a2.toInt ∧ a2.toInt < 64 ∧ -8 ≤ a3.toInt ∧ a3.toInt ≤ 8 ∧ -1000000000 ≤ a4.toInt ∧ a4.toInt ≤ 1000000000 ∧ 1 ≤ a5.toInt ∧ a5.toInt ≤ 32)); omega)⟩
    · rw [i_eq] at c_7
      have k_9 : (1 : Int32).toInt = 1 := by decide
      exact (by omega : False).elim
theorem t_Law_version {sX : S_X} {a1 : Int32} {sTab : S_Tab} (I_sTab : I_Tab sTab) : So (Law_version sX a1 sTab) (fun r => I_Tab r.2 ∧ ((r.1.toInt = 0 ∧ (0 ≤ a1.toInt ∧ a1.toInt < 4)) ∨ (r.1.toInt = 1 ∧ ¬ (0 ≤ a1.toInt ∧ a1.toInt < 4)))) := by
  unfold Law_version
  refine So.bd (t_X_version I_sTab) fun q1 h_1 => ?_
  obtain ⟨p_2, p_3⟩ := h_1
  refine So.ite (fun c_4 => ?_) (fun c_4 => ?_)
  · rw [i_eq] at c_4
    have k_5 : (0 : Int32).toInt = 0 := by decide
    exact So.one ⟨p_2, (by show ((0 : Int32).toInt = 0 ∧ (0 ≤ a1.toInt ∧ a1.toInt < 4)) ∨ ((0 : Int32).toInt = 1 ∧ ¬ (0 ≤ a1.toInt ∧ a1.toInt < 4)); omega)⟩
  · rw [i_eq] at c_4
    have k_6 : (0 : Int32).toInt = 0 := by decide
    refine So.ite (fun c_7 => ?_) (fun c_7 => ?_)
    · rw [i_eq] at c_7
      have k_8 : (1 : Int32).toInt = 1 := by decide
      exact So.one ⟨p_2, (by show ((1 : Int32).toInt = 0 ∧ (0 ≤ a1.toInt ∧ a1.toInt < 4)) ∨ ((1 : Int32).toInt = 1 ∧ ¬ (0 ≤ a1.toInt ∧ a1.toInt < 4)); omega)⟩
    · rw [i_eq] at c_7
      have k_9 : (1 : Int32).toInt = 1 := by decide
      exact (by omega : False).elim
theorem t_Law_append {fu : Nat} {nRW : Nat} {sX : S_X} {a1 : Int32} {a2 : Int32} {sTab : S_Tab} {sRW : (Nat → Int64)} (hf : 45000 ≤ fu) (I_sTab : I_Tab sTab) (g_0 : (nRW : Int) = 1) : So (Law_append fu nRW sX a1 a2 sTab sRW) (fun r => I_Tab r.2.1 ∧ (r.1.toInt = 0 ∨ r.1.toInt = 1 ∨ r.1.toInt = 2)) := by
  unfold Law_append
  refine So.bd (t_X_append (Nat.le_trans (by decide) hf) I_sTab) fun q1 h_1 => ?_
  obtain ⟨p_2, p_3⟩ := h_1
  refine So.ite (fun c_4 => ?_) (fun c_4 => ?_)
  · rw [i_eq] at c_4
    have k_5 : (0 : Int32).toInt = 0 := by decide
    refine So.gd (i_in.mpr (by omega)) ?_
    refine So.lt2 fun sRW_3 e_6 => ?_
    exact So.one ⟨p_2, (by show (0 : Int32).toInt = 0 ∨ (0 : Int32).toInt = 1 ∨ (0 : Int32).toInt = 2; omega)⟩
  · rw [i_eq] at c_4
    have k_7 : (0 : Int32).toInt = 0 := by decide
    refine So.ite (fun c_8 => ?_) (fun c_8 => ?_)
    · rw [i_eq] at c_8
      have k_9 : (1 : Int32).toInt = 1 := by decide
      exact So.one ⟨p_2, (by show (1 : Int32).toInt = 0 ∨ (1 : Int32).toInt = 1 ∨ (1 : Int32).toInt = 2; omega)⟩
    · rw [i_eq] at c_8
      have k_10 : (1 : Int32).toInt = 1 := by decide
      refine So.ite (fun c_11 => ?_) (fun c_11 => ?_)
      · rw [i_eq] at c_11
        have k_12 : (2 : Int32).toInt = 2 := by decide
        exact So.one ⟨p_2, (by show (2 : Int32).toInt = 0 ∨ (2 : Int32).toInt = 1 ∨ (2 : Int32).toInt = 2; omega)⟩
      · rw [i_eq] at c_11
        have k_13 : (2 : Int32).toInt = 2 := by decide
        exact (by omega : False).elim
theorem t_Law_clear {sX : S_X} {a1 : Int32} {sTab : S_Tab} (I_sTab : I_Tab sTab) : So (Law_clear sX a1 sTab) (fun r => I_Tab r.2 ∧ ((r.1.toInt = 0 ∧ (-1 ≤ a1.toInt ∧ a1.toInt < 16)) ∨ (r.1.toInt = 1 ∧ ¬ (-1 ≤ a1.toInt ∧ a1.toInt < 16)))) := by
  unfold Law_clear
  refine So.bd (t_X_clear I_sTab) fun q1 h_1 => ?_
  obtain ⟨p_2, p_3⟩ := h_1
  refine So.ite (fun c_4 => ?_) (fun c_4 => ?_)
  · rw [i_eq] at c_4
    have k_5 : (0 : Int32).toInt = 0 := by decide
    exact So.one ⟨p_2, (by show ((0 : Int32).toInt = 0 ∧ (-1 ≤ a1.toInt ∧ a1.toInt < 16)) ∨ ((0 : Int32).toInt = 1 ∧ ¬ (-1 ≤ a1.toInt ∧ a1.toInt < 16)); omega)⟩
  · rw [i_eq] at c_4
    have k_6 : (0 : Int32).toInt = 0 := by decide
    refine So.ite (fun c_7 => ?_) (fun c_7 => ?_)
    · rw [i_eq] at c_7
      have k_8 : (1 : Int32).toInt = 1 := by decide
      exact So.one ⟨p_2, (by show ((1 : Int32).toInt = 0 ∧ (-1 ≤ a1.toInt ∧ a1.toInt < 16)) ∨ ((1 : Int32).toInt = 1 ∧ ¬ (-1 ≤ a1.toInt ∧ a1.toInt < 16)); omega)⟩
    · rw [i_eq] at c_7
      have k_9 : (1 : Int32).toInt = 1 := by decide
      exact (by omega : False).elim
theorem t_Law_compile {fu : Nat} {nRW : Nat} {sTab : S_Tab} {sX : S_X} {sProg : S_Prog} {sRW : (Nat → Int64)} (hf : 45000 ≤ fu) (I_sTab : I_Tab sTab) (I_sProg : I_Prog sProg) (g_0 : (nRW : Int) = 1) : So (Law_compile fu nRW sTab sX sProg sRW) (fun r => I_Prog r.2.2.1 ∧ (r.1.toInt = 0 ∨ r.1.toInt = 1)) := by
  unfold Law_compile
  refine So.bd (t_X_compile (Nat.le_trans (by decide) hf) I_sTab I_sProg) fun q1 h_1 => ?_
  obtain ⟨p_2, p_3⟩ := h_1
  refine So.ite (fun c_4 => ?_) (fun c_4 => ?_)
  · rw [i_eq] at c_4
    have k_5 : (0 : Int32).toInt = 0 := by decide
    refine So.gd (i_in.mpr (by omega)) ?_
    refine So.lt2 fun sRW_3 e_6 => ?_
    exact So.one ⟨p_2, (by show (0 : Int32).toInt = 0 ∨ (0 : Int32).toInt = 1; omega)⟩
  · rw [i_eq] at c_4
    have k_7 : (0 : Int32).toInt = 0 := by decide
    refine So.ite (fun c_8 => ?_) (fun c_8 => ?_)
    · rw [i_eq] at c_8
      have k_9 : (1 : Int32).toInt = 1 := by decide
      exact So.one ⟨p_2, (by show (1 : Int32).toInt = 0 ∨ (1 : Int32).toInt = 1; omega)⟩
    · rw [i_eq] at c_8
      have k_10 : (1 : Int32).toInt = 1 := by decide
      exact (by omega : False).elim
theorem t_Law_put {sX : S_X} {a1 : Int32} {a2 : Int32} {a3 : Int64} {sVAL : (Nat → Nat → Int64)}  : So (Law_put sX a1 a2 a3 sVAL) (fun r => ((r.1.toInt = 0 ∧ (0 ≤ a1.toInt ∧ a1.toInt < 8 ∧ 0 ≤ a2.toInt ∧ a2.toInt < 100)) ∨ (r.1.toInt = 1 ∧ ¬ (0 ≤ a1.toInt ∧ a1.toInt < 8 ∧ 0 ≤ a2.toInt ∧ a2.toInt < 100)))) := by
  unfold Law_put
  refine So.bd (t_X_put ) fun q1 h_1 => ?_
  have p_2 := h_1
  refine So.ite (fun c_3 => ?_) (fun c_3 => ?_)
  · rw [i_eq] at c_3
    have k_4 : (0 : Int32).toInt = 0 := by decide
    exact So.one (by show ((0 : Int32).toInt = 0 ∧ (0 ≤ a1.toInt ∧ a1.toInt < 8 ∧ 0 ≤ a2.toInt ∧ a2.toInt < 100)) ∨ ((0 : Int32).toInt = 1 ∧ ¬ (0 ≤ a1.toInt ∧ a1.toInt < 8 ∧ 0 ≤ a2.toInt ∧ a2.toInt < 100)); omega)
  · rw [i_eq] at c_3
    have k_5 : (0 : Int32).toInt = 0 := by decide
    refine So.ite (fun c_6 => ?_) (fun c_6 => ?_)
    · rw [i_eq] at c_6
      have k_7 : (3 : Int32).toInt = 3 := by decide
      have k_8 : (1 : Int32).toInt = 1 := by decide
      exact So.one (by show ((1 : Int32).toInt = 0 ∧ (0 ≤ a1.toInt ∧ a1.toInt < 8 ∧ 0 ≤ a2.toInt ∧ a2.toInt < 100)) ∨ ((1 : Int32).toInt = 1 ∧ ¬ (0 ≤ a1.toInt ∧ a1.toInt < 8 ∧ 0 ≤ a2.toInt ∧ a2.toInt < 100)); omega)
    · rw [i_eq] at c_6
      have k_9 : (3 : Int32).toInt = 3 := by decide
      exact (by omega : False).elim
theorem t_Law_get {nRW : Nat} {sX : S_X} {sVAL : (Nat → Nat → Int64)} {a1 : Int32} {a2 : Int32} {sRW : (Nat → Int64)} (g_0 : (nRW : Int) = 1) : So (Law_get nRW sX sVAL a1 a2 sRW) (fun r => ((r.1.toInt = 0 ∧ (0 ≤ a1.toInt ∧ a1.toInt < 8 ∧ 0 ≤ a2.toInt ∧ a2.toInt < 100)) ∨ (r.1.toInt = 1 ∧ ¬ (0 ≤ a1.toInt ∧ a1.toInt < 8 ∧ 0 ≤ a2.toInt ∧ a2.toInt < 100)))) := by
  unfold Law_get
  refine So.bd (t_X_get ) fun q1 h_1 => ?_
  have p_2 := h_1
  refine So.ite (fun c_3 => ?_) (fun c_3 => ?_)
  · rw [i_eq] at c_3
    have k_4 : (0 : Int32).toInt = 0 := by decide
    refine So.gd (i_in.mpr (by omega)) ?_
    refine So.lt2 fun sRW_3 e_5 => ?_
    exact So.one (by show ((0 : Int32).toInt = 0 ∧ (0 ≤ a1.toInt ∧ a1.toInt < 8 ∧ 0 ≤ a2.toInt ∧ a2.toInt < 100)) ∨ ((0 : Int32).toInt = 1 ∧ ¬ (0 ≤ a1.toInt ∧ a1.toInt < 8 ∧ 0 ≤ a2.toInt ∧ a2.toInt < 100)); omega)
  · rw [i_eq] at c_3
    have k_6 : (0 : Int32).toInt = 0 := by decide
    refine So.ite (fun c_7 => ?_) (fun c_7 => ?_)
    · rw [i_eq] at c_7
      have k_8 : (3 : Int32).toInt = 3 := by decide
      have k_9 : (1 : Int32).toInt = 1 := by decide
      exact So.one (by show ((1 : Int32).toInt = 0 ∧ (0 ≤ a1.toInt ∧ a1.toInt < 8 ∧ 0 ≤ a2.toInt ∧ a2.toInt < 100)) ∨ ((1 : Int32).toInt = 1 ∧ ¬ (0 ≤ a1.toInt ∧ a1.toInt < 8 ∧ 0 ≤ a2.toInt ∧ a2.toInt < 100)); omega)
    · rw [i_eq] at c_7
      have k_10 : (3 : Int32).toInt = 3 := by decide
      exact (by omega : False).elim
theorem t_Law_fields {fu : Nat} {nRW : Nat} {sVAL : (Nat → Nat → Int64)} {sTab : S_Tab} {a1 : Int32} {sX : S_X} {sProg : S_Prog} {sWalk : S_Walk} {sFld : S_Fld} {sLps : S_Lps} {sRW : (Nat → Int64)} (hf : 45000 ≤ fu) (I_sTab : I_Tab sTab) (I_sProg : I_Prog sProg) (I_sWalk : I_Walk sWalk) (I_sFld : I_Fld sFld) (I_sLps : I_Lps sLps) (g_0 : (nRW : Int) = 1) : So (Law_fields fu nRW sVAL sTab a1 sX sProg sWalk sFld sLps sRW) (fun r => I_Prog r.2.2.1 ∧ I_Walk r.2.2.2.1 ∧ I_Fld r.2.2.2.2.1 ∧ I_Lps r.2.2.2.2.2.1 ∧ (r.1.toInt = 0 ∨ r.1.toInt = 1 ∨ r.1.toInt = 2)) := by
  unfold Law_fields
  refine So.bd (t_X_fields (Nat.le_trans (by decide) hf) I_sTab I_sProg I_sWalk I_sFld I_sLps) fun q1 h_1 => ?_
  obtain ⟨p_2, p_3, p_4, p_5, p_6⟩ := h_1
  refine So.ite (fun c_7 => ?_) (fun c_7 => ?_)
  · rw [i_eq] at c_7
    have k_8 : (0 : Int32).toInt = 0 := by decide
    refine So.gd (i_in.mpr (by omega)) ?_
    refine So.lt2 fun sRW_3 e_9 => ?_
    exact So.one ⟨p_2, p_3, p_4, p_5, (by show (0 : Int32).toInt = 0 ∨ (0 : Int32).toInt = 1 ∨ (0 : Int32).toInt = 2; omega)⟩
  · rw [i_eq] at c_7
    have k_10 : (0 : Int32).toInt = 0 := by decide
    refine So.ite (fun c_11 => ?_) (fun c_11 => ?_)
    · rw [i_eq] at c_11
      have k_12 : (3 : Int32).toInt = 3 := by decide
      have k_13 : (1 : Int32).toInt = 1 := by decide
      exact So.one ⟨p_2, p_3, p_4, p_5, (by show (1 : Int32).toInt = 0 ∨ (1 : Int32).toInt = 1 ∨ (1 : Int32).toInt = 2; omega)⟩
    · rw [i_eq] at c_11
      have k_14 : (3 : Int32).toInt = 3 := by decide
      refine So.ite (fun c_15 => ?_) (fun c_15 => ?_)
      · rw [i_eq] at c_15
        have k_16 : (1 : Int32).toInt = 1 := by decide
        have k_17 : (2 : Int32).toInt = 2 := by decide
        exact So.one ⟨p_2, p_3, p_4, p_5, (by show (2 : Int32).toInt = 0 ∨ (2 : Int32).toInt = 1 ∨ (2 : Int32).toInt = 2; omega)⟩
      · rw [i_eq] at c_15
        have k_18 : (1 : Int32).toInt = 1 := by decide
        exact (by omega : False).elim
theorem t_Law_write {fu : Nat} {nRW : Nat} {sVAL : (Nat → Nat → Int64)} {sTab : S_Tab} {sWri : S_Wri} {a1 : Int32} {a2 : Int32} {sX : S_X} {sProg : S_Prog} {sWalk : S_Walk} {sFld : S_Fld} {sLps : S_Lps} {sWB : S_Bits} {sRW : (Nat → Int64)} (hf : 45000 ≤ fu) (I_sTab : I_Tab sTab) (I_sProg : I_Prog sProg) (I_sWalk : I_Walk sWalk) (I_sFld : I_Fld sFld) (I_sLps : I_Lps sLps) (I_sWB : I_Bits sWB) (g_0 : (nRW : Int) = 1) : So (Law_write fu nRW sVAL sTab sWri a1 a2 sX sProg sWalk sFld sLps sWB sRW) (fun r => I_Prog r.2.2.1 ∧ I_Walk r.2.2.2.1 ∧ I_Fld r.2.2.2.2.1 ∧ I_Lps r.2.2.2.2.2.1 ∧ I_Bits r.2.2.2.2.2.2.1 ∧ (r.1.toInt = 0 ∨ r.1.toInt = 1)) := by
  unfold Law_write
  refine So.bd (t_X_write (Nat.le_trans (by decide) hf) I_sTab I_sProg I_sWalk I_sFld I_sLps I_sWB) fun q1 h_1 => ?_
  obtain ⟨p_2, p_3, p_4, p_5, p_6, p_7⟩ := h_1
  refine So.ite (fun c_8 => ?_) (fun c_8 => ?_)
  · rw [i_eq] at c_8
    have k_9 : (0 : Int32).toInt = 0 := by decide
    refine So.gd (i_in.mpr (by omega)) ?_
    refine So.lt2 fun sRW_3 e_10 => ?_
    exact So.one ⟨p_2, p_3, p_4, p_5, p_6, (by show (0 : Int32).toInt = 0 ∨ (0 : Int32).toInt = 1; omega)⟩
  · rw [i_eq] at c_8
    have k_11 : (0 : Int32).toInt = 0 := by decide
    refine So.ite (fun c_12 => ?_) (fun c_12 => ?_)
    · rw [i_eq] at c_12
      have k_13 : (1 : Int32).toInt = 1 := by decide
      exact So.one ⟨p_2, p_3, p_4, p_5, p_6, (by show (1 : Int32).toInt = 0 ∨ (1 : Int32).toInt = 1; omega)⟩
    · rw [i_eq] at c_12
      have k_14 : (1 : Int32).toInt = 1 := by decide
      exact (by omega : False).elim
theorem t_Law_read {fu : Nat} {nRW : Nat} {sTab : S_Tab} {sX : S_X} {sVAL : (Nat → Nat → Int64)} {sProg : S_Prog} {sWalk : S_Walk} {sFld : S_Fld} {sLps : S_Lps} {sRea : S_Rea} {sRR : (Nat → Nat → Int64)} {sTP : S_Bits} {sRW : (Nat → Int64)} (hf : 45000 ≤ fu) (I_sTab : I_Tab sTab) (I_sProg : I_Prog sProg) (I_sWalk : I_Walk sWalk) (I_sFld : I_Fld sFld) (I_sLps : I_Lps sLps) (I_sTP : I_Bits sTP) (g_0 : (nRW : Int) = 1) (g_1 : (Bits_length sTP).toInt ≤ 8000) : So (Law_read fu nRW sTab sX sVAL sProg sWalk sFld sLps sRea sRR sTP sRW) (fun r => I_Prog r.2.2.2.1 ∧ I_Walk r.2.2.2.2.1 ∧ I_Fld r.2.2.2.2.2.1 ∧ I_Lps r.2.2.2.2.2.2.1 ∧ I_Bits r.2.2.2.2.2.2.2.2.2.1 ∧ (r.1.toInt = 0 ∨ r.1.toInt = 1) ∧ ((Bits_length r.2.2.2.2.2.2.2.2.2.1).toInt ≤ 8000)) := by
  unfold Law_read
  have f_1 := I_Bits_length I_sTP
  refine So.bd (t_X_read (Nat.le_trans (by decide) hf) I_sTab I_sProg I_sWalk I_sFld I_sLps I_sTP (by show (Bits_length sTP).toInt ≤ 8000; omega)) fun q1 h_2 => ?_
  obtain ⟨p_3, p_4, p_5, p_6, p_7, p_8, p_9⟩ := h_2
  refine So.ite (fun c_10 => ?_) (fun c_10 => ?_)
  · rw [i_eq] at c_10
    have k_11 : (0 : Int32).toInt = 0 := by decide
    refine So.gd (i_in.mpr (by omega)) ?_
    refine So.lt2 fun sRW_3 e_12 => ?_
    exact So.one ⟨p_3, p_4, p_5, p_6, p_7, (by show (0 : Int32).toInt = 0 ∨ (0 : Int32).toInt = 1; omega), (by show (Bits_length q1.2.2.2.2.2.2.2.2.2.2).toInt ≤ 8000; omega)⟩
  · rw [i_eq] at c_10
    have k_13 : (0 : Int32).toInt = 0 := by decide
    refine So.ite (fun c_14 => ?_) (fun c_14 => ?_)
    · rw [i_eq] at c_14
      have k_15 : (1 : Int32).toInt = 1 := by decide
      exact So.one ⟨p_3, p_4, p_5, p_6, p_7, (by show (1 : Int32).toInt = 0 ∨ (1 : Int32).toInt = 1; omega), (by show (Bits_length q1.2.2.2.2.2.2.2.2.2.2).toInt ≤ 8000; omega)⟩
    · rw [i_eq] at c_14
      have k_16 : (1 : Int32).toInt = 1 := by decide
      exact (by omega : False).elim
theorem t_Law_point {sX : S_X} {a1 : Int32} {a2 : Int64} {sGrd : S_Grd} (I_sGrd : I_Grd sGrd) : So (Law_point sX a1 a2 sGrd) (fun r => I_Grd r.2 ∧ ((r.1.toInt = 1 ∧ ¬ (0 ≤ a1.toInt ∧ a1.toInt < 64)) ∨ (r.1.toInt = 2 ∧ (0 ≤ a1.toInt ∧ a1.toInt < 64) ∧ ¬ (a2.toInt = -9000000000000000000 ∨ (-2000000000 ≤ a2.toInt ∧ a2.toInt ≤ 2000000000))) ∨ (r.1.toInt = 0 ∧ (0 ≤ a1.toInt ∧ a1.toInt < 64) ∧ (a2.toInt = -9000000000000000000 ∨ (-2000000000 ≤ a2.toInt ∧ a2.toInt ≤ 2000000000))))) := by
  unfold Law_point
  refine So.bd (t_X_point I_sGrd) fun q1 h_1 => ?_
  obtain ⟨p_2, p_3⟩ := h_1
  refine So.ite (fun c_4 => ?_) (fun c_4 => ?_)
  · rw [i_eq] at c_4
    have k_5 : (0 : Int32).toInt = 0 := by decide
    exact So.one ⟨p_2, (by show ((0 : Int32).toInt = 1 ∧ ¬ (0 ≤ a1.toInt ∧ a1.toInt < 64)) ∨ ((0 : Int32).toInt = 2 ∧ (0 ≤ a1.toInt ∧ a1.toInt < 64) ∧ ¬ (a2.toInt = -9000000000000000000 ∨ (-2000000000 ≤ a2.toInt ∧ a2.toInt ≤ 2000000000))) ∨ ((0 : Int32).toInt = 0 ∧ (0 ≤ a1.toInt ∧ a1.toInt < 64) ∧ (a2.toInt = -9000000000000000000 ∨ (-2000000000 ≤ a2.toInt ∧ a2.toInt ≤ 2000000000))); omega)⟩
  · rw [i_eq] at c_4
    have k_6 : (0 : Int32).toInt = 0 := by decide
    refine So.ite (fun c_7 => ?_) (fun c_7 => ?_)
    · rw [i_eq] at c_7
      have k_8 : (3 : Int32).toInt = 3 := by decide
      have k_9 : (1 : Int32).toInt = 1 := by decide
      exact So.one ⟨p_2, (by show ((1 : Int32).toInt = 1 ∧ ¬ (0 ≤ a1.toInt ∧ a1.toInt < 64)) ∨ ((1 : Int32).toInt = 2 ∧ (0 ≤ a1.toInt ∧ a1.toInt < 64) ∧ ¬ (a2.toInt = -9000000000000000000 ∨ (-2000000000 ≤ a2.toInt ∧ a2.toInt ≤ 2000000000))) ∨ ((1 : Int32).toInt = 0 ∧ (0 ≤ a1.toInt ∧ a1.toInt < 64) ∧ (a2.toInt = -9000000000000000000 ∨ (-2000000000 ≤ a2.toInt ∧ a2.toInt ≤ 2000000000))); omega)⟩
    · rw [i_eq] at c_7
      have k_10 : (3 : Int32).toInt = 3 := by decide
      refine So.ite (fun c_11 => ?_) (fun c_11 => ?_)
      · rw [i_eq] at c_11
        have k_12 : (1 : Int32).toInt = 1 := by decide
        have k_13 : (2 : Int32).toInt = 2 := by decide
        exact So.one ⟨p_2, (by show ((2 : Int32).toInt = 1 ∧ ¬ (0 ≤ a1.toInt ∧ a1.toInt < 64)) ∨ ((2 : Int32).toInt = 2 ∧ (0 ≤ a1.toInt ∧ a1.toInt < 64) ∧ ¬ (a2.toInt = -9000000000000000000 ∨ (-2000000000 ≤ a2.toInt ∧ a2.toInt ≤ 2000000000))) ∨ ((2 : Int32).toInt = 0 ∧ (0 ≤ a1.toInt ∧ a1.toInt < 64) ∧ (a2.toInt = -9000000000000000000 ∨ (-2000000000 ≤ a2.toInt ∧ a2.toInt ≤ 2000000000))); omega)⟩
      · rw [i_eq] at c_11
        have k_14 : (1 : Int32).toInt = 1 := by decide
        exact (by omega : False).elim
theorem t_Law_pack {fu : Nat} {nRW : Nat} {sX : S_X} {a1 : Int32} {sGrd : S_Grd} {sRW : (Nat → Int64)} (hf : 45000 ≤ fu) (I_sGrd : I_Grd sGrd) (g_0 : (nRW : Int) = 1) : So (Law_pack fu nRW sX a1 sGrd sRW) (fun r => I_Grd r.2.1 ∧ (r.1.toInt = 0 ∨ r.1.toInt = 1 ∨ r.1.toInt = 2)) := by
  unfold Law_pack
  refine So.bd (t_X_pack (Nat.le_trans (by decide) hf) I_sGrd) fun q1 h_1 => ?_
  obtain ⟨p_2, p_3⟩ := h_1
  refine So.ite (fun c_4 => ?_) (fun c_4 => ?_)
  · rw [i_eq] at c_4
    have k_5 : (0 : Int32).toInt = 0 := by decide
    refine So.gd (i_in.mpr (by omega)) ?_
    refine So.lt2 fun sRW_3 e_6 => ?_
    exact So.one ⟨p_2, (by show (0 : Int32).toInt = 0 ∨ (0 : Int32).toInt = 1 ∨ (0 : Int32).toInt = 2; omega)⟩
  · rw [i_eq] at c_4
    have k_7 : (0 : Int32).toInt = 0 := by decide
    refine So.ite (fun c_8 => ?_) (fun c_8 => ?_)
    · rw [i_eq] at c_8
      have k_9 : (1 : Int32).toInt = 1 := by decide
      exact So.one ⟨p_2, (by show (1 : Int32).toInt = 0 ∨ (1 : Int32).toInt = 1 ∨ (1 : Int32).toInt = 2; omega)⟩
    · rw [i_eq] at c_8
      have k_10 : (1 : Int32).toInt = 1 := by decide
      refine So.ite (fun c_11 => ?_) (fun c_11 => ?_)
      · rw [i_eq] at c_11
        have k_12 : (2 : Int32).toInt = 2 := by decide
        exact So.one ⟨p_2, (by show (2 : Int32).toInt = 0 ∨ (2 : Int32).toInt = 1 ∨ (2 : Int32).toInt = 2; omega)⟩
      · rw [i_eq] at c_11
        have k_13 : (2 : Int32).toInt = 2 := by decide
        exact (by omega : False).elim

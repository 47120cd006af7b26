def I_Lps (s : S_Lps) : Prop := (∀ j : Nat, 0 ≤ (Lps_starts s j).toInt ∧ (Lps_starts s j).toInt ≤ 1000) ∧ (0 ≤ (Lps_open s).toInt ∧ (Lps_open s).toInt ≤ 64)
theorem I_Lps_starts {s : S_Lps} (h : I_Lps s) (j : Nat) : 0 ≤ (Lps_starts s j).toInt ∧ (Lps_starts s j).toInt ≤ 1000 := h.1 j
theorem I_Lps_open {s : S_Lps} (h : I_Lps s) : 0 ≤ (Lps_open s).toInt ∧ (Lps_open s).toInt ≤ 64 := h.2
theorem I_Lps_set_starts {s : S_Lps} {v : Nat → Int32} (h : I_Lps s) (h0 : ∀ j : Nat, 0 ≤ (v j).toInt ∧ (v j).toInt ≤ 1000) : I_Lps (Lps_set_starts s v) := ⟨h0, h.2⟩
theorem I_Lps_put_starts {s : S_Lps} {k : Nat} {v : Int32} (h : I_Lps s) (h0 : 0 ≤ v.toInt ∧ v.toInt ≤ 1000) : I_Lps (Lps_put_starts s k v) := ⟨i_arp (P := fun j x => 0 ≤ x.toInt ∧ x.toInt ≤ 1000) h.1 h0, h.2⟩
theorem I_Lps_set_ends {s : S_Lps} {v : Nat → Int32} (h : I_Lps s) : I_Lps (Lps_set_ends s v) := h
theorem I_Lps_put_ends {s : S_Lps} {k : Nat} {v : Int32} (h : I_Lps s) : I_Lps (Lps_put_ends s k v) := h
theorem I_Lps_set_times {s : S_Lps} {v : Nat → Int32} (h : I_Lps s) : I_Lps (Lps_set_times s v) := h
theorem I_Lps_put_times {s : S_Lps} {k : Nat} {v : Int32} (h : I_Lps s) : I_Lps (Lps_put_times s k v) := h
theorem I_Lps_set_done {s : S_Lps} {v : Nat → Int32} (h : I_Lps s) : I_Lps (Lps_set_done s v) := h
theorem I_Lps_put_done {s : S_Lps} {k : Nat} {v : Int32} (h : I_Lps s) : I_Lps (Lps_put_done s k v) := h
theorem I_Lps_set_open {s : S_Lps} {v : Int32} (h : I_Lps s) (h0 : 0 ≤ v.toInt ∧ v.toInt ≤ 64) : I_Lps (Lps_set_open s v) := ⟨h.1, h0⟩
def I_Bits (s : S_Bits) : Prop := (0 ≤ (Bits_length s).toInt ∧ (Bits_length s).toInt ≤ 29432)
theorem I_Bits_length {s : S_Bits} (h : I_Bits s) : 0 ≤ (Bits_length s).toInt ∧ (Bits_length s).toInt ≤ 29432 := h
theorem I_Bits_set_bytes {s : S_Bits} {v : Nat → Int32} (h : I_Bits s) : I_Bits (Bits_set_bytes s v) := h
theorem I_Bits_put_bytes {s : S_Bits} {k : Nat} {v : Int32} (h : I_Bits s) : I_Bits (Bits_put_bytes s k v) := h
theorem I_Bits_set_length {s : S_Bits} {v : Int32} (h : I_Bits s) (h0 : 0 ≤ v.toInt ∧ v.toInt ≤ 29432) : I_Bits (Bits_set_length s v) := h0
def I_Fld (s : S_Fld) : Prop := (∀ j : Nat, -100 ≤ (Fld_widths s j).toInt ∧ (Fld_widths s j).toInt ≤ 120) ∧ (∀ j : Nat, -1 ≤ (Fld_targets s j).toInt ∧ (Fld_targets s j).toInt ≤ 101) ∧ (0 ≤ (Fld_count s).toInt ∧ (Fld_count s).toInt ≤ 100)
theorem I_Fld_widths {s : S_Fld} (h : I_Fld s) (j : Nat) : -100 ≤ (Fld_widths s j).toInt ∧ (Fld_widths s j).toInt ≤ 120 := h.1 j
theorem I_Fld_targets {s : S_Fld} (h : I_Fld s) (j : Nat) : -1 ≤ (Fld_targets s j).toInt ∧ (Fld_targets s j).toInt ≤ 101 := h.2.1 j
theorem I_Fld_count {s : S_Fld} (h : I_Fld s) : 0 ≤ (Fld_count s).toInt ∧ (Fld_count s).toInt ≤ 100 := h.2.2
theorem I_Fld_set_kinds {s : S_Fld} {v : Nat → Int32} (h : I_Fld s) : I_Fld (Fld_set_kinds s v) := h
theorem I_Fld_put_kinds {s : S_Fld} {k : Nat} {v : Int32} (h : I_Fld s) : I_Fld (Fld_put_kinds s k v) := h
theorem I_Fld_set_codes {s : S_Fld} {v : Nat → Int32} (h : I_Fld s) : I_Fld (Fld_set_codes s v) := h
theorem I_Fld_put_codes {s : S_Fld} {k : Nat} {v : Int32} (h : I_Fld s) : I_Fld (Fld_put_codes s k v) := h
theorem I_Fld_set_widths {s : S_Fld} {v : Nat → Int32} (h : I_Fld s) (h0 : ∀ j : Nat, -100 ≤ (v j).toInt ∧ (v j).toInt ≤ 120) : I_Fld (Fld_set_widths s v) := ⟨h0, h.2.1, h.2.2⟩
theorem I_Fld_put_widths {s : S_Fld} {k : Nat} {v : Int32} (h : I_Fld s) (h0 : -100 ≤ v.toInt ∧ v.toInt ≤ 120) : I_Fld (Fld_put_widths s k v) := ⟨i_arp (P := fun j x => -100 ≤ x.toInt ∧ x.toInt ≤ 120) h.1 h0, h.2.1, h.2.2⟩
theorem I_Fld_set_scales {s : S_Fld} {v : Nat → Int32} (h : I_Fld s) : I_Fld (Fld_set_scales s v) := h
theorem I_Fld_put_scales {s : S_Fld} {k : Nat} {v : Int32} (h : I_Fld s) : I_Fld (Fld_put_scales s k v) := h
theorem I_Fld_set_references {s : S_Fld} {v : Nat → Int64} (h : I_Fld s) : I_Fld (Fld_set_references s v) := h
theorem I_Fld_put_references {s : S_Fld} {k : Nat} {v : Int64} (h : I_Fld s) : I_Fld (Fld_put_references s k v) := h
theorem I_Fld_set_targets {s : S_Fld} {v : Nat → Int32} (h : I_Fld s) (h0 : ∀ j : Nat, -1 ≤ (v j).toInt ∧ (v j).toInt ≤ 101) : I_Fld (Fld_set_targets s v) := ⟨h.1, h0, h.2.2⟩
theorem I_Fld_put_targets {s : S_Fld} {k : Nat} {v : Int32} (h : I_Fld s) (h0 : -1 ≤ v.toInt ∧ v.toInt ≤ 101) : I_Fld (Fld_put_targets s k v) := ⟨h.1, i_arp (P := fun j x => -1 ≤ x.toInt ∧ x.toInt ≤ 101) h.2.1 h0, h.2.2⟩
theorem I_Fld_set_repetitions {s : S_Fld} {v : Nat → Int32} (h : I_Fld s) : I_Fld (Fld_set_repetitions s v) := h
theorem I_Fld_put_repetitions {s : S_Fld} {k : Nat} {v : Int32} (h : I_Fld s) : I_Fld (Fld_put_repetitions s k v) := h
theorem I_Fld_set_count {s : S_Fld} {v : Int32} (h : I_Fld s) (h0 : 0 ≤ v.toInt ∧ v.toInt ≤ 100) : I_Fld (Fld_set_count s v) := ⟨h.1, h.2.1, h0⟩
theorem t_Lps_leaveAll {sLps : S_Lps} (I_sLps : I_Lps sLps) : So (Lps_leaveAll sLps) (fun r => I_Lps r) := by
  unfold Lps_leaveAll
  have k_2 : (0 : Int32).toInt = 0 := by decide
  refine So.lt2 fun sLps_1 e_1 => ?_
  have I_3 : I_Lps sLps_1 := by rw [e_1]; exact (I_Lps_set_open I_sLps (by show 0 ≤ (0 : Int32).toInt ∧ (0 : Int32).toInt ≤ 64; omega))
  exact So.one I_3
theorem t_Lps_enter {a0 : Int32} {a1 : Int32} {a2 : Int32} {sLps : S_Lps} (I_sLps : I_Lps sLps) (g_0 : 0 ≤ a0.toInt) (g_1 : a0.toInt ≤ 1000) : So (Lps_enter a0 a1 a2 sLps) (fun r => I_Lps r) := by
  unfold Lps_enter
  refine So.ite (fun c_1 => ?_) (fun c_1 => ?_)
  · rw [i_le] at c_1
    have k_2 : (64 : Int32).toInt = 64 := by decide
    have f_3 := I_Lps_open I_sLps
    exact So.one I_sLps
  · rw [i_le] at c_1
    have k_4 : (64 : Int32).toInt = 64 := by decide
    have f_5 := I_Lps_open I_sLps
    refine So.gd (i_in.mpr (by omega)) ?_
    refine So.lt2 fun sLps_2 e_6 => ?_
    have I_7 : I_Lps sLps_2 := by rw [e_6]; exact (I_Lps_put_starts I_sLps (by show 0 ≤ (a0 : Int32).toInt ∧ (a0 : Int32).toInt ≤ 1000; omega))
    have f_8 : (Lps_open sLps_2).toInt = (Lps_open sLps).toInt := by subst e_6; rfl
    have f_9 := I_Lps_open I_7
    refine So.gd (i_in.mpr (by omega)) ?_
    refine So.lt2 fun sLps_4 e_10 => ?_
    have I_11 : I_Lps sLps_4 := by rw [e_10]; exact (I_Lps_put_ends I_7)
    have f_12 : (Lps_open sLps_4).toInt = (Lps_open sLps_2).toInt := by subst e_10; rfl
    have f_13 := I_Lps_open I_11
    refine So.gd (i_in.mpr (by omega)) ?_
    refine So.lt2 fun sLps_6 e_14 => ?_
    have I_15 : I_Lps sLps_6 := by rw [e_14]; exact (I_Lps_put_times I_11)
    have f_16 : (Lps_open sLps_6).toInt = (Lps_open sLps_4).toInt := by subst e_14; rfl
    have f_17 := I_Lps_open I_15
    refine So.gd (i_in.mpr (by omega)) ?_
    refine So.lt2 fun sLps_8 e_18 => ?_
    have I_19 : I_Lps sLps_8 := by rw [e_18]; exact (I_Lps_put_done I_15)
    have f_20 : (Lps_open sLps_8).toInt = (Lps_open sLps_6).toInt := by subst e_18; rfl
    have f_22 := I_Lps_open I_19
    have k_23 : (1 : Int32).toInt = 1 := by decide
    first | have f_24 := i_add (a := (Lps_open sLps_8)) (b := 1) (by omega) (by omega) | have f_24 := i_addm (Lps_open sLps_8) 1
    refine So.lt2 fun sLps_9 e_21 => ?_
    have I_25 : I_Lps sLps_9 := by rw [e_21]; exact (I_Lps_set_open I_19 (by show 0 ≤ (((Lps_open sLps_8) + 1) : Int32).toInt ∧ (((Lps_open sLps_8) + 1) : Int32).toInt ≤ 64; omega))
    have f_26 : (Lps_open sLps_9).toInt = (((Lps_open sLps_8) + 1) : Int32).toInt := by subst e_21; rfl
    exact So.one I_25
theorem t_Lps_repetition {sLps : S_Lps} (I_sLps : I_Lps sLps) : So (Lps_repetition sLps) (fun r => True) := by
  unfold Lps_repetition
  refine So.ite (fun c_1 => ?_) (fun c_1 => ?_)
  · rw [i_eq] at c_1
    have f_2 := I_Lps_open I_sLps
    have k_3 : (0 : Int32).toInt = 0 := by decide
    exact So.one trivial
  · rw [i_eq] at c_1
    have f_4 := I_Lps_open I_sLps
    have k_5 : (0 : Int32).toInt = 0 := by decide
    have k_6 : (1 : Int32).toInt = 1 := by decide
    first | have f_7 := i_sub (a := (Lps_open sLps)) (b := 1) (by omega) (by omega) | have f_7 := i_subm (Lps_open sLps) 1
    refine So.gd (i_in.mpr (by omega)) ?_
    exact So.one trivial
theorem t_Lps_onFrom_L0 {fu : Nat} {x1_L0 : Int32} (hf : 12000 ≤ fu) (g_0 : 0 ≤ x1_L0.toInt) (g_1 : x1_L0.toInt ≤ 1000) : ∀ (n : Nat) (sLps_L0 : S_Lps), I_Lps sLps_L0 → (0 ≤ (Lps_open sLps_L0).toInt) → ((Lps_open sLps_L0).toInt < (n : Nat)) → So (Lps_onFrom_L0 fu x1_L0 n sLps_L0) (fun r => I_Lps r.2 ∧ (0 ≤ r.1.toInt) ∧ (r.1.toInt ≤ 1000))
  | 0, sLps_L0, I_sLps_L0, l_0, l_1 => absurd l_1 (by omega)
  | n + 1, sLps_L0, I_sLps_L0, l_0, l_1 => by
    rw [Lps_onFrom_L0]
    refine So.ite (fun c_1 => ?_) (fun c_1 => ?_)
    · rw [i_le] at c_1
      have f_2 := I_Lps_open I_sLps_L0
      have k_3 : (0 : Int32).toInt = 0 := by decide
      exact So.one ⟨I_sLps_L0, (by show 0 ≤ (x1_L0 : Int32).toInt; omega), (by show (x1_L0 : Int32).toInt ≤ 1000; omega)⟩
    · rw [i_le] at c_1
      have f_4 := I_Lps_open I_sLps_L0
      have k_5 : (0 : Int32).toInt = 0 := by decide
      have k_6 : (1 : Int32).toInt = 1 := by decide
      first | have f_7 := i_sub (a := (Lps_open sLps_L0)) (b := 1) (by omega) (by omega) | have f_7 := i_subm (Lps_open sLps_L0) 1
      refine So.gd (i_in.mpr (by omega)) ?_
      refine So.ite (fun c_8 => ?_) (fun c_8 => ?_)
      · rw [i_eq] at c_8
        refine So.gd (i_in.mpr (by omega)) ?_
        refine So.gd (i_in.mpr (by omega)) ?_
        refine So.lt2 fun sLps_4 e_9 => ?_
        have I_10 : I_Lps sLps_4 := by rw [e_9]; exact (I_Lps_put_done I_sLps_L0)
        have f_11 : (Lps_open sLps_4).toInt = (Lps_open sLps_L0).toInt := by subst e_9; rfl
        refine So.gd (i_in.mpr (by omega)) ?_
        refine So.gd (i_in.mpr (by omega)) ?_
        refine So.ite (fun c_12 => ?_) (fun c_12 => ?_)
        · rw [i_le] at c_12
          have f_13 : (Lps_times sLps_4 (((Lps_open sLps_L0) - 1).toNatClampNeg)).toInt = (Lps_times sLps_L0 (((Lps_open sLps_L0) - 1).toNatClampNeg)).toInt := by subst e_9; rfl
          have f_15 := I_Lps_open I_10
          first | have f_16 := i_sub (a := (Lps_open sLps_4)) (b := 1) (by omega) (by omega) | have f_16 := i_subm (Lps_open sLps_4) 1
          refine So.lt2 fun sLps_7 e_14 => ?_
          have I_17 : I_Lps sLps_7 := by rw [e_14]; exact (I_Lps_set_open I_10 (by show 0 ≤ (((Lps_open sLps_4) - 1) : Int32).toInt ∧ (((Lps_open sLps_4) - 1) : Int32).toInt ≤ 64; omega))
          have f_18 : (Lps_open sLps_7).toInt = (((Lps_open sLps_4) - 1) : Int32).toInt := by subst e_14; rfl
          have f_19 := I_Lps_open I_17
          exact t_Lps_onFrom_L0 hf (by show 0 ≤ x1_L0.toInt; omega) (by show x1_L0.toInt ≤ 1000; omega)   n _ I_17 (by show 0 ≤ (Lps_open sLps_7).toInt; omega) (by show (Lps_open sLps_7).toInt < (n : Nat); omega)
        · rw [i_le] at c_12
          have f_20 : (Lps_times sLps_4 (((Lps_open sLps_L0) - 1).toNatClampNeg)).toInt = (Lps_times sLps_L0 (((Lps_open sLps_L0) - 1).toNatClampNeg)).toInt := by subst e_9; rfl
          refine So.gd (i_in.mpr (by omega)) ?_
          have f_21 : (Lps_starts sLps_4 (((Lps_open sLps_L0) - 1).toNatClampNeg)).toInt = (Lps_starts sLps_L0 (((Lps_open sLps_L0) - 1).toNatClampNeg)).toInt := by subst e_9; rfl
          have f_22 := I_Lps_starts I_sLps_L0 (((Lps_open sLps_L0) - 1).toNatClampNeg)
          have f_23 := I_Lps_starts I_10 (((Lps_open sLps_L0) - 1).toNatClampNeg)
          exact So.one ⟨I_10, (by show 0 ≤ ((Lps_starts sLps_4 (((Lps_open sLps_L0) - 1).toNatClampNeg)) : Int32).toInt; omega), (by show ((Lps_starts sLps_4 (((Lps_open sLps_L0) - 1).toNatClampNeg)) : Int32).toInt ≤ 1000; omega)⟩
      · rw [i_eq] at c_8
        exact So.one ⟨I_sLps_L0, (by show 0 ≤ (x1_L0 : Int32).toInt; omega), (by show (x1_L0 : Int32).toInt ≤ 1000; omega)⟩
theorem t_Lps_onFrom {fu : Nat} {a0 : Int32} {sLps : S_Lps} (hf : 12000 ≤ fu) (I_sLps : I_Lps sLps) (g_0 : 0 ≤ a0.toInt) (g_1 : a0.toInt ≤ 1000) : So (Lps_onFrom fu a0 sLps) (fun r => I_Lps r.2 ∧ (0 ≤ r.1.toInt) ∧ (r.1.toInt ≤ 1000)) := by
  unfold Lps_onFrom
  have f_1 := I_Lps_open I_sLps
  have f_2 := I_Lps_open I_sLps
  refine So.imp (t_Lps_onFrom_L0 hf (by show 0 ≤ a0.toInt; omega) (by show a0.toInt ≤ 1000; omega) fu _ I_sLps (by show 0 ≤ (Lps_open sLps).toInt; omega) (by show (Lps_open sLps).toInt < (fu : Nat); omega)) fun q_z h_z => ?_
  obtain ⟨p_3, p_4, p_5⟩ := h_z
  exact ⟨p_3, (by show 0 ≤ q_z.1.toInt; omega), (by show q_z.1.toInt ≤ 1000; omega)⟩
theorem t_Bits_byteCount {nBt : Nat} {sBt : S_Bits} (I_sBt : I_Bits sBt) (g_0 : (nBt : Int) ≤ 3679) (g_1 : (Bits_length sBt).toInt ≤ 8 * (nBt : Int)) : So (Bits_byteCount nBt sBt) (fun r => (0 ≤ r.toInt) ∧ (r.toInt ≤ (nBt : Int)) ∧ (r.toInt = ((Bits_length sBt).toInt + 7) / 8)) := by
  unfold Bits_byteCount
  have f_1 := I_Bits_length I_sBt
  have k_2 : (7 : Int32).toInt = 7 := by decide
  first | have f_3 := i_add (a := (Bits_length sBt)) (b := 7) (by omega) (by omega) | have f_3 := i_addm (Bits_length sBt) 7
  have k_4 : (8 : Int32).toInt = 8 := by decide
  first | have f_5 := i_divk ((Bits_length sBt) + 7) 8 8 (by decide) (by decide) (by omega) | have f_5 := i_diva ((Bits_length sBt) + 7) 8 8 (by decide) (by decide)
  exact So.one ⟨(by show 0 ≤ ((((Bits_length sBt) + 7) / 8) : Int32).toInt; omega), (by show ((((Bits_length sBt) + 7) / 8) : Int32).toInt ≤ (nBt : Int); omega), (by show ((((Bits_length sBt) + 7) / 8) : Int32).toInt = ((Bits_length sBt).toInt + 7) / 8; omega)⟩
theorem t_Bits_bitAt {nBt : Nat} {sBt : S_Bits} {a0 : Int32} (I_sBt : I_Bits sBt) (g_0 : (nBt : Int) ≤ 3679) (g_1 : (Bits_length sBt).toInt ≤ 8 * (nBt : Int)) : So (Bits_bitAt nBt sBt a0) (fun r => (0 ≤ r.toInt) ∧ (r.toInt ≤ 1)) := by
  unfold Bits_bitAt
  refine So.ite (fun c_1 => ?_) (fun c_1 => ?_)
  · rw [i_lt] at c_1
    have k_2 : (0 : Int32).toInt = 0 := by decide
    exact So.one ⟨(by show 0 ≤ (0 : Int32).toInt; omega), (by show (0 : Int32).toInt ≤ 1; omega)⟩
  · rw [i_lt] at c_1
    have k_3 : (0 : Int32).toInt = 0 := by decide
    refine So.ite (fun c_4 => ?_) (fun c_4 => ?_)
    · rw [i_le] at c_4
      have f_5 := I_Bits_length I_sBt
      exact So.one ⟨(by show 0 ≤ (0 : Int32).toInt; omega), (by show (0 : Int32).toInt ≤ 1; omega)⟩
    · rw [i_le] at c_4
      have f_6 := I_Bits_length I_sBt
      have k_7 : (8 : Int32).toInt = 8 := by decide
      first | have f_8 := i_divk a0 8 8 (by decide) (by decide) (by omega) | have f_8 := i_diva a0 8 8 (by decide) (by decide)
      refine So.gd (i_in.mpr (by omega)) ?_
      have k_9 : (7 : Int32).toInt = 7 := by decide
      first | have f_10 := i_mulr (a0 / 8) 8 (8) (by decide) (by omega) (by omega) | have f_10 := i_mulrm (a0 / 8) 8 (8) (by decide)
      first | have f_11 := i_sub (a := a0) (b := ((a0 / 8) * 8)) (by omega) (by omega) | have f_11 := i_subm a0 ((a0 / 8) * 8)
      first | have f_12 := i_sub (a := 7) (b := (a0 - ((a0 / 8) * 8))) (by omega) (by omega) | have f_12 := i_subm 7 (a0 - ((a0 / 8) * 8))
      have k_13 : (31 : Int32).toInt = 31 := by decide
      have f_14 := i_andm (7 - (a0 - ((a0 / 8) * 8))) 31 (by decide)
      have k_15 : (1 : Int32).toInt = 1 := by decide
      have f_16 := i_andm ((Bits_bytes sBt ((a0 / 8).toNatClampNeg)) >>> ((7 - (a0 - ((a0 / 8) * 8))) &&& 31)) 1 (by decide)
      exact So.one ⟨(by show 0 ≤ ((((Bits_bytes sBt ((a0 / 8).toNatClampNeg)) >>> ((7 - (a0 - ((a0 / 8) * 8))) &&& 31)) &&& 1) : Int32).toInt; omega), (by show ((((Bits_bytes sBt ((a0 / 8).toNatClampNeg)) >>> ((7 - (a0 - ((a0 / 8) * 8))) &&& 31)) &&& 1) : Int32).toInt ≤ 1; omega)⟩
theorem t_Bits_numberAt_L5 {fu : Nat} {nBt : Nat} {sBt : S_Bits} {x1_L5 : Int32} {x2_L5 : Int32} (hf : 12000 ≤ fu) (I_sBt : I_Bits sBt) (g_0 : (nBt : Int) ≤ 3679) (g_1 : (Bits_length sBt).toInt ≤ 8 * (nBt : Int)) (g_2 : -1000000 ≤ x1_L5.toInt) (g_3 : x1_L5.toInt ≤ 1000000) (g_4 : -100 ≤ x2_L5.toInt) (g_5 : x2_L5.toInt ≤ 120) : ∀ (n : Nat) (x3_L5 : Int64) (x5_L5 : Int32), (x1_L5.toInt ≤ x5_L5.toInt) → (x5_L5.toInt ≤ x1_L5.toInt + 120) → (x1_L5.toInt + 120 - x5_L5.toInt < (n : Nat)) → So (Bits_numberAt_L5 fu nBt sBt x1_L5 x2_L5 n x3_L5 x5_L5) (fun r => True)
  | 0, x3_L5, x5_L5, l_0, l_1, l_2 => absurd l_2 (by omega)
  | n + 1, x3_L5, x5_L5, l_0, l_1, l_2 => by
    rw [Bits_numberAt_L5]
    refine So.ite (fun c_1 => ?_) (fun c_1 => ?_)
    · rw [i_le] at c_1
      first | have f_2 := i_add (a := x1_L5) (b := x2_L5) (by omega) (by omega) | have f_2 := i_addm x1_L5 x2_L5
      exact So.one trivial
    · rw [i_le] at c_1
      first | have f_3 := i_add (a := x1_L5) (b := x2_L5) (by omega) (by omega) | have f_3 := i_addm x1_L5 x2_L5
      have f_4 := I_Bits_length I_sBt
      refine So.bd (t_Bits_bitAt I_sBt (by show (nBt : Int) ≤ 3679; omega) (by show (Bits_length sBt).toInt ≤ 8 * (nBt : Int); omega)) fun q1 h_5 => ?_
      obtain ⟨p_6, p_7⟩ := h_5
      refine So.lt2 fun u2 e_8 => ?_
      have f_9 := i64_or x3_L5 q1
      rw [← e_8] at f_9
      have k_10 : (1 : Int32).toInt = 1 := by decide
      first | have f_11 := i_add (a := x5_L5) (b := 1) (by omega) (by omega) | have f_11 := i_addm x5_L5 1
      exact t_Bits_numberAt_L5 hf I_sBt (by show (nBt : Int) ≤ 3679; omega) (by show (Bits_length sBt).toInt ≤ 8 * (nBt : Int); omega) (by show -1000000 ≤ x1_L5.toInt; omega) (by show x1_L5.toInt ≤ 1000000; omega) (by show -100 ≤ x2_L5.toInt; omega) (by show x2_L5.toInt ≤ 120; omega)   n _ _ (by show x1_L5.toInt ≤ (x5_L5 + 1).toInt; omega) (by show (x5_L5 + 1).toInt ≤ x1_L5.toInt + 120; omega) (by show x1_L5.toInt + 120 - (x5_L5 + 1).toInt < (n : Nat); omega)
theorem v_num6 {fu : Nat} {nBt : Nat} {sBt : S_Bits} {x1 x2 : Int32} (I_sBt : I_Bits sBt) (g_0 : (nBt : Int) ≤ 3679) (g_1 : (Bits_length sBt).toInt ≤ 8 * (nBt : Int)) (h1 : -1000000 ≤ x1.toInt) (h2 : x1.toInt ≤ 1000000) (h3 : x2.toInt = 6) : ∀ (k n : Nat) (x3 : Int64) (x5 : Int32), k < n → x5.toInt = x1.toInt + 6 - k → k ≤ 6 → 0 ≤ x3.toInt → (x3.toInt + 1) * 2 ^ k ≤ 64 → So (Bits_numberAt_L5 fu nBt sBt x1 x2 n x3 x5) (fun r => 0 ≤ r.toInt ∧ r.toInt ≤ 63)
  | _, 0, x3, x5, h, _, _, _, _ => absurd h (by omega)
  | 0, n + 1, x3, x5, hn, e5, _, h0, hp => by
    rw [Bits_numberAt_L5]
    have e := i_add (a := x1) (b := x2) (by omega) (by omega)
    refine So.ite (fun c => So.one ⟨h0, by omega⟩) (fun c => ?_)
    rw [i_le] at c
    omega
  | k + 1, n + 1, x3, x5, hn, e5, hk, h0, hp => by
    rw [Bits_numberAt_L5]
    have e := i_add (a := x1) (b := x2) (by omega) (by omega)
    have k1 : (1 : Int32).toInt = 1 := by decide
    have e1 := i_add (a := x5) (b := 1) (by omega) (by omega)
    refine So.ite (fun c => ?_) (fun c => ?_)
    · rw [i_le] at c
      omega
    · refine So.bd (t_Bits_bitAt I_sBt g_0 g_1) fun q hq => ?_
      have hp1 : (1 : Int) ≤ 2 ^ k := by exact_mod_cast (Nat.one_le_two_pow : 1 ≤ 2 ^ k)
      have hpe : (2 : Int) ^ (k + 1) = 2 * 2 ^ k := by rw [Int.pow_succ, Int.mul_comm]
      rw [hpe, ← Int.mul_assoc] at hp
      have hx : x3.toInt ≤ 63 := by
        have : (x3.toInt + 1) * 2 * 1 ≤ (x3.toInt + 1) * 2 * 2 ^ k := Int.mul_le_mul_of_nonneg_left hp1 (by omega)
        omega
      have f := i64_or x3 q
      refine So.lt2 fun u2 eu => ?_
      rw [← eu] at f
      have hu : u2.toInt = 2 * x3.toInt + q.toInt := by omega
      have hm : (u2.toInt + 1) * 2 ^ k ≤ (x3.toInt + 1) * 2 * 2 ^ k := Int.mul_le_mul_of_nonneg_right (by omega) (by omega)
      exact v_num6 I_sBt g_0 g_1 h1 h2 h3 k n u2 (x5 + 1) (by omega) (by omega) (by omega) (by omega) (by omega)
theorem t_Bits_numberAt {fu : Nat} {nBt : Nat} {sBt : S_Bits} {a0 : Int32} {a1 : Int32} (hf : 12000 ≤ fu) (I_sBt : I_Bits sBt) (g_0 : (nBt : Int) ≤ 3679) (g_1 : (Bits_length sBt).toInt ≤ 8 * (nBt : Int)) (g_2 : -1000000 ≤ a0.toInt) (g_3 : a0.toInt ≤ 1000000) (g_4 : -100 ≤ a1.toInt) (g_5 : a1.toInt ≤ 120) : So (Bits_numberAt fu nBt sBt a0 a1) (fun r => a1.toInt ≠ 6 ∨ (0 ≤ r.toInt ∧ r.toInt ≤ 63)) := by
  unfold Bits_numberAt
  by_cases h : a1.toInt = 6
  · refine So.imp (v_num6 I_sBt g_0 g_1 g_2 g_3 h 6 fu 0 a0 (by omega) (by omega) (by omega) (by decide) (by decide)) fun r hr => Or.inr hr
  · refine So.imp (t_Bits_numberAt_L5 hf I_sBt g_0 g_1 g_2 g_3 g_4 g_5 fu 0 a0 (by omega) (by omega) (by omega)) fun r hr => Or.inl h
theorem t_Bits_add_L5 {fu : Nat} {nBt : Nat} {x1_L5 : Int64} (hf : 12000 ≤ fu) (g_0 : (nBt : Int) ≤ 3679) : ∀ (n : Nat) (x4_L5 : Int32) (sBt_L5 : S_Bits), I_Bits sBt_L5 → ((Bits_length sBt_L5).toInt ≤ 8 * (nBt : Int)) → (-200 ≤ x4_L5.toInt) → (x4_L5.toInt ≤ 120) → (x4_L5.toInt + 200 < (n : Nat)) → So (Bits_add_L5 fu nBt x1_L5 n x4_L5 sBt_L5) (fun r => I_Bits r ∧ ((Bits_length r).toInt ≤ 8 * (nBt : Int)))
  | 0, x4_L5, sBt_L5, I_sBt_L5, l_0, l_1, l_2, l_3 => absurd l_3 (by omega)
  | n + 1, x4_L5, sBt_L5, I_sBt_L5, l_0, l_1, l_2, l_3 => by
    rw [Bits_add_L5]
    refine So.ite (fun c_1 => ?_) (fun c_1 => ?_)
    · rw [i_lt] at c_1
      have k_2 : (0 : Int32).toInt = 0 := by decide
      exact So.one ⟨I_sBt_L5, (by show (Bits_length sBt_L5).toInt ≤ 8 * (nBt : Int); omega)⟩
    · rw [i_lt] at c_1
      have k_3 : (0 : Int32).toInt = 0 := by decide
      refine So.ite (fun c_4 => ?_) (fun c_4 => ?_)
      · rw [i_le] at c_4
        have f_5 := i_of (n := nBt) (by omega)
        have f_6 := I_Bits_length I_sBt_L5
        have k_7 : (8 : Int32).toInt = 8 := by decide
        first | have f_8 := i_divk (Bits_length sBt_L5) 8 8 (by decide) (by decide) (by omega) | have f_8 := i_diva (Bits_length sBt_L5) 8 8 (by decide) (by decide)
        exact So.one ⟨I_sBt_L5, (by show (Bits_length sBt_L5).toInt ≤ 8 * (nBt : Int); omega)⟩
      · rw [i_le] at c_4
        have f_9 := i_of (n := nBt) (by omega)
        have f_10 := I_Bits_length I_sBt_L5
        have k_11 : (8 : Int32).toInt = 8 := by decide
        first | have f_12 := i_divk (Bits_length sBt_L5) 8 8 (by decide) (by decide) (by omega) | have f_12 := i_diva (Bits_length sBt_L5) 8 8 (by decide) (by decide)
        refine So.ite (fun c_13 => ?_) (fun c_13 => ?_)
        · unfold Bits_add_j62
          have k_15 : (1 : Int32).toInt = 1 := by decide
          first | have f_16 := i_add (a := (Bits_length sBt_L5)) (b := 1) (by omega) (by omega) | have f_16 := i_addm (Bits_length sBt_L5) 1
          refine So.lt2 fun sBt_7 e_14 => ?_
          have I_17 : I_Bits sBt_7 := by rw [e_14]; exact (I_Bits_set_length I_sBt_L5 (by show 0 ≤ (((Bits_length sBt_L5) + 1) : Int32).toInt ∧ (((Bits_length sBt_L5) + 1) : Int32).toInt ≤ 29432; omega))
          have f_18 : (Bits_length sBt_7).toInt = (((Bits_length sBt_L5) + 1) : Int32).toInt := by subst e_14; rfl
          have f_19 := I_Bits_length I_17
          have k_20 : ((-1) : Int32).toInt = -1 := by decide
          first | have f_21 := i_add (a := x4_L5) (b := (-1)) (by omega) (by omega) | have f_21 := i_addm x4_L5 (-1)
          exact t_Bits_add_L5 hf (by show (nBt : Int) ≤ 3679; ((try generalize (x4_L5 + (-1)).toInt = gv0 at *); omega))   n _ _ I_17 (by show (Bits_length sBt_7).toInt ≤ 8 * (nBt : Int); ((try generalize (x4_L5 + (-1)).toInt = gv0 at *); omega)) (by show -200 ≤ (x4_L5 + (-1)).toInt; ((try generalize (x4_L5 + (-1)).toInt = gv0 at *); omega)) (by show (x4_L5 + (-1)).toInt ≤ 120; ((try generalize (x4_L5 + (-1)).toInt = gv0 at *); omega)) (by show (x4_L5 + (-1)).toInt + 200 < (n : Nat); ((try generalize (x4_L5 + (-1)).toInt = gv0 at *); omega))
        · refine So.gd (i_in.mpr (by omega)) ?_
          refine So.gd (i_in.mpr (by omega)) ?_
          refine So.lt2 fun sBt_3 e_22 => ?_
          have I_23 : I_Bits sBt_3 := by rw [e_22]; exact (I_Bits_put_bytes I_sBt_L5)
          have f_24 : (Bits_length sBt_3).toInt = (Bits_length sBt_L5).toInt := by subst e_22; rfl
          unfold Bits_add_j62
          have f_26 := I_Bits_length I_23
          have k_27 : (1 : Int32).toInt = 1 := by decide
          first | have f_28 := i_add (a := (Bits_length sBt_3)) (b := 1) (by omega) (by omega) | have f_28 := i_addm (Bits_length sBt_3) 1
          refine So.lt2 fun sBt_7 e_25 => ?_
          have I_29 : I_Bits sBt_7 := by rw [e_25]; exact (I_Bits_set_length I_23 (by show 0 ≤ (((Bits_length sBt_3) + 1) : Int32).toInt ∧ (((Bits_length sBt_3) + 1) : Int32).toInt ≤ 29432; omega))
          have f_30 : (Bits_length sBt_7).toInt = (((Bits_length sBt_3) + 1) : Int32).toInt := by subst e_25; rfl
          have f_31 := I_Bits_length I_29
          have k_32 : ((-1) : Int32).toInt = -1 := by decide
          first | have f_33 := i_add (a := x4_L5) (b := (-1)) (by omega) (by omega) | have f_33 := i_addm x4_L5 (-1)
          exact t_Bits_add_L5 hf (by show (nBt : Int) ≤ 3679; ((try generalize (x4_L5 + (-1)).toInt = gv0 at *); omega))   n _ _ I_29 (by show (Bits_length sBt_7).toInt ≤ 8 * (nBt : Int); ((try generalize (x4_L5 + (-1)).toInt = gv0 at *); omega)) (by show -200 ≤ (x4_L5 + (-1)).toInt; ((try generalize (x4_L5 + (-1)).toInt = gv0 at *); omega)) (by show (x4_L5 + (-1)).toInt ≤ 120; ((try generalize (x4_L5 + (-1)).toInt = gv0 at *); omega)) (by show (x4_L5 + (-1)).toInt + 200 < (n : Nat); ((try generalize (x4_L5 + (-1)).toInt = gv0 at *); omega))
theorem t_Bits_add {fu : Nat} {nBt : Nat} {a0 : Int64} {a1 : Int32} {sBt : S_Bits} (hf : 12000 ≤ fu) (I_sBt : I_Bits sBt) (g_0 : (nBt : Int) ≤ 3679) (g_1 : (Bits_length sBt).toInt ≤ 8 * (nBt : Int)) (g_2 : -100 ≤ a1.toInt) (g_3 : a1.toInt ≤ 120) : So (Bits_add fu nBt a0 a1 sBt) (fun r => I_Bits r ∧ ((Bits_length r).toInt ≤ 8 * (nBt : Int))) := by
  unfold Bits_add
  have f_1 := I_Bits_length I_sBt
  have k_2 : (1 : Int32).toInt = 1 := by decide
  first | have f_3 := i_sub (a := a1) (b := 1) (by omega) (by omega) | have f_3 := i_subm a1 1
  refine So.imp (t_Bits_add_L5 hf (by show (nBt : Int) ≤ 3679; omega) fu _ _ I_sBt (by show (Bits_length sBt).toInt ≤ 8 * (nBt : Int); omega) (by show -200 ≤ (a1 - 1).toInt; omega) (by show (a1 - 1).toInt ≤ 120; omega) (by show (a1 - 1).toInt + 200 < (fu : Nat); omega)) fun q_z h_z => ?_
  obtain ⟨p_4, p_5⟩ := h_z
  exact ⟨p_4, (by show (Bits_length q_z).toInt ≤ 8 * (nBt : Int); omega)⟩
theorem t_Bits_empty {fu : Nat} {nBt : Nat} {sBt : S_Bits} (hf : 12000 ≤ fu) (I_sBt : I_Bits sBt) (g_0 : (nBt : Int) ≤ 3679) : So (Bits_empty fu nBt sBt) (fun r => I_Bits r ∧ ((Bits_length r).toInt ≤ 8 * (nBt : Int))) := by
  unfold Bits_empty
  refine So.bd (t_fillI (fun _ _ => True) (by omega) hf (fun _ => trivial) (fun _ => trivial)) fun q1 h_1 => ?_
  have k_3 : (0 : Int32).toInt = 0 := by decide
  refine So.lt2 fun sBt_2 e_2 => ?_
  have I_4 : I_Bits sBt_2 := by rw [e_2]; exact (I_Bits_set_length (I_Bits_set_bytes I_sBt) (by show 0 ≤ (0 : Int32).toInt ∧ (0 : Int32).toInt ≤ 29432; omega))
  have f_5 : (Bits_length sBt_2).toInt = (0 : Int32).toInt := by subst e_2; rfl
  exact So.one ⟨I_4, (by show (Bits_length sBt_2).toInt ≤ 8 * (nBt : Int); omega)⟩
theorem t_X_isSubset {a0 : Int32}  : So (X_isSubset a0) (fun r => ((r.toInt = 1 ∧ (0 ≤ a0.toInt ∧ a0.toInt < 8)) ∨ (r.toInt = 0 ∧ ¬ (0 ≤ a0.toInt ∧ a0.toInt < 8)))) := by
  unfold X_isSubset
  refine So.ite (fun c_1 => ?_) (fun c_1 => ?_)
  · rw [i_lt] at c_1
    have k_2 : (0 : Int32).toInt = 0 := by decide
    exact So.one (by show ((0 : Int32).toInt = 1 ∧ (0 ≤ a0.toInt ∧ a0.toInt < 8)) ∨ ((0 : Int32).toInt = 0 ∧ ¬ (0 ≤ a0.toInt ∧ a0.toInt < 8)); omega)
  · rw [i_lt] at c_1
    have k_3 : (0 : Int32).toInt = 0 := by decide
    refine So.ite (fun c_4 => ?_) (fun c_4 => ?_)
    · rw [i_le] at c_4
      have k_5 : (8 : Int32).toInt = 8 := by decide
      exact So.one (by show ((0 : Int32).toInt = 1 ∧ (0 ≤ a0.toInt ∧ a0.toInt < 8)) ∨ ((0 : Int32).toInt = 0 ∧ ¬ (0 ≤ a0.toInt ∧ a0.toInt < 8)); omega)
    · rw [i_le] at c_4
      have k_6 : (8 : Int32).toInt = 8 := by decide
      have k_7 : (1 : Int32).toInt = 1 := by decide
      exact So.one (by show ((1 : Int32).toInt = 1 ∧ (0 ≤ a0.toInt ∧ a0.toInt < 8)) ∨ ((1 : Int32).toInt = 0 ∧ ¬ (0 ≤ a0.toInt ∧ a0.toInt < 8)); omega)
theorem t_X_isValue {a0 : Int32} {a1 : Int32}  : So (X_isValue a0 a1) (fun r => ((r.toInt = 1 ∧ (0 ≤ a0.toInt ∧ a0.toInt < 8 ∧ 0 ≤ a1.toInt ∧ a1.toInt < 100)) ∨ (r.toInt = 0 ∧ ¬ (0 ≤ a0.toInt ∧ a0.toInt < 8 ∧ 0 ≤ a1.toInt ∧ a1.toInt < 100)))) := by
  unfold X_isValue
  refine So.bd (t_X_isSubset ) fun q1 h_1 => ?_
  have p_2 := h_1
  refine So.ite (fun c_3 => ?_) (fun c_3 => ?_)
  · rw [i_eq] at c_3
    have k_4 : (0 : Int32).toInt = 0 := by decide
    exact So.one (by show ((0 : Int32).toInt = 1 ∧ (0 ≤ a0.toInt ∧ a0.toInt < 8 ∧ 0 ≤ a1.toInt ∧ a1.toInt < 100)) ∨ ((0 : Int32).toInt = 0 ∧ ¬ (0 ≤ a0.toInt ∧ a0.toInt < 8 ∧ 0 ≤ a1.toInt ∧ a1.toInt < 100)); omega)
  · rw [i_eq] at c_3
    have k_5 : (0 : Int32).toInt = 0 := by decide
    refine So.ite (fun c_6 => ?_) (fun c_6 => ?_)
    · rw [i_lt] at c_6
      exact So.one (by show ((0 : Int32).toInt = 1 ∧ (0 ≤ a0.toInt ∧ a0.toInt < 8 ∧ 0 ≤ a1.toInt ∧ a1.toInt < 100)) ∨ ((0 : Int32).toInt = 0 ∧ ¬ (0 ≤ a0.toInt ∧ a0.toInt < 8 ∧ 0 ≤ a1.toInt ∧ a1.toInt < 100)); omega)
    · rw [i_lt] at c_6
      refine So.ite (fun c_7 => ?_) (fun c_7 => ?_)
      · rw [i_le] at c_7
        have k_8 : (100 : Int32).toInt = 100 := by decide
        exact So.one (by show ((0 : Int32).toInt = 1 ∧ (0 ≤ a0.toInt ∧ a0.toInt < 8 ∧ 0 ≤ a1.toInt ∧ a1.toInt < 100)) ∨ ((0 : Int32).toInt = 0 ∧ ¬ (0 ≤ a0.toInt ∧ a0.toInt < 8 ∧ 0 ≤ a1.toInt ∧ a1.toInt < 100)); omega)
      · rw [i_le] at c_7
        have k_9 : (100 : Int32).toInt = 100 := by decide
        have k_10 : (1 : Int32).toInt = 1 := by decide
        exact So.one (by show ((1 : Int32).toInt = 1 ∧ (0 ≤ a0.toInt ∧ a0.toInt < 8 ∧ 0 ≤ a1.toInt ∧ a1.toInt < 100)) ∨ ((1 : Int32).toInt = 0 ∧ ¬ (0 ≤ a0.toInt ∧ a0.toInt < 8 ∧ 0 ≤ a1.toInt ∧ a1.toInt < 100)); omega)
theorem t_X_placeOf {a0 : Int32} {a1 : Int32}  : So (X_placeOf a0 a1) (fun r => True) := by
  unfold X_placeOf
  exact So.one trivial
theorem t_X_bitLength_L2 {fu : Nat} {x0_L2 : Int64} (hf : 12000 ≤ fu) : ∀ (n : Nat) (x2_L2 : Int32), (0 ≤ x2_L2.toInt) → (x2_L2.toInt ≤ 63) → (63 - x2_L2.toInt < (n : Nat)) → So (X_bitLength_L2 fu x0_L2 n x2_L2) (fun r => (0 ≤ r.toInt) ∧ (r.toInt ≤ 63))
  | 0, x2_L2, l_0, l_1, l_2 => absurd l_2 (by omega)
  | n + 1, x2_L2, l_0, l_1, l_2 => by
    rw [X_bitLength_L2]
    refine So.ite (fun c_1 => ?_) (fun c_1 => ?_)
    · rw [i_le] at c_1
      have k_2 : (63 : Int32).toInt = 63 := by decide
      exact So.one ⟨(by show 0 ≤ (x2_L2 : Int32).toInt; omega), (by show (x2_L2 : Int32).toInt ≤ 63; omega)⟩
    · rw [i_le] at c_1
      have k_3 : (63 : Int32).toInt = 63 := by decide
      refine So.ite (fun c_4 => ?_) (fun c_4 => ?_)
      · exact So.one ⟨(by show 0 ≤ (x2_L2 : Int32).toInt; omega), (by show (x2_L2 : Int32).toInt ≤ 63; omega)⟩
      · have k_5 : (1 : Int32).toInt = 1 := by decide
        first | have f_6 := i_add (a := x2_L2) (b := 1) (by omega) (by omega) | have f_6 := i_addm x2_L2 1
        exact t_X_bitLength_L2 hf   n _ (by show 0 ≤ (x2_L2 + 1).toInt; omega) (by show (x2_L2 + 1).toInt ≤ 63; omega) (by show 63 - (x2_L2 + 1).toInt < (n : Nat); omega)
theorem t_X_bitLength {fu : Nat} {a0 : Int64} (hf : 12000 ≤ fu) : So (X_bitLength fu a0) (fun r => (0 ≤ r.toInt) ∧ (r.toInt ≤ 63)) := by
  unfold X_bitLength
  have k_1 : (0 : Int32).toInt = 0 := by decide
  refine So.imp (t_X_bitLength_L2 hf fu _ (by show 0 ≤ (0 : Int32).toInt; omega) (by show (0 : Int32).toInt ≤ 63; omega) (by show 63 - (0 : Int32).toInt < (fu : Nat); omega)) fun q_z h_z => ?_
  obtain ⟨p_2, p_3⟩ := h_z
  exact ⟨(by show 0 ≤ q_z.toInt; omega), (by show q_z.toInt ≤ 63; omega)⟩
theorem t_X_allOnes {a0 : Int32}  : So (X_allOnes a0) (fun r => True) := by
  unfold X_allOnes
  exact So.one trivial
theorem t_Fld_has {sFld : S_Fld} {a0 : Int32} (I_sFld : I_Fld sFld) : So (Fld_has sFld a0) (fun r => (r.toInt = 0 ∨ (0 ≤ a0.toInt ∧ a0.toInt < (Fld_count sFld).toInt))) := by
  unfold Fld_has
  have f_1 := I_Fld_count I_sFld
  refine So.ite (fun c_2 => ?_) (fun c_2 => ?_)
  · rw [i_lt] at c_2
    have k_3 : (0 : Int32).toInt = 0 := by decide
    exact So.one (by show (0 : Int32).toInt = 0 ∨ (0 ≤ a0.toInt ∧ a0.toInt < (Fld_count sFld).toInt); omega)
  · rw [i_lt] at c_2
    have k_4 : (0 : Int32).toInt = 0 := by decide
    refine So.ite (fun c_5 => ?_) (fun c_5 => ?_)
    · rw [i_le] at c_5
      have f_6 := I_Fld_count I_sFld
      exact So.one (by show (0 : Int32).toInt = 0 ∨ (0 ≤ a0.toInt ∧ a0.toInt < (Fld_count sFld).toInt); omega)
    · rw [i_le] at c_5
      have f_7 := I_Fld_count I_sFld
      have k_8 : (1 : Int32).toInt = 1 := by decide
      exact So.one (by show (1 : Int32).toInt = 0 ∨ (0 ≤ a0.toInt ∧ a0.toInt < (Fld_count sFld).toInt); omega)
theorem t_Fld_isElementOf {sFld : S_Fld} {a0 : Int32} {a1 : Int32} {a2 : Int32} (I_sFld : I_Fld sFld) (g_0 : 0 ≤ a0.toInt) (g_1 : a0.toInt < 100) : So (Fld_isElementOf sFld a0 a1 a2) (fun r => True) := by
  unfold Fld_isElementOf
  refine So.gd (i_in.mpr (by omega)) ?_
  refine So.ite (fun c_1 => ?_) (fun c_1 => ?_)
  · rw [i_eq] at c_1
    have k_2 : (0 : Int32).toInt = 0 := by decide
    refine So.gd (i_in.mpr (by omega)) ?_
    refine So.ite (fun c_3 => ?_) (fun c_3 => ?_)
    · rw [i_eq] at c_3
      refine So.ite (fun c_4 => ?_) (fun c_4 => ?_)
      · rw [i_eq] at c_4
        have k_5 : ((-1) : Int32).toInt = -1 := by decide
        exact So.one trivial
      · rw [i_eq] at c_4
        have k_6 : ((-1) : Int32).toInt = -1 := by decide
        refine So.gd (i_in.mpr (by omega)) ?_
        refine So.ite (fun c_7 => ?_) (fun c_7 => ?_)
        · rw [i_eq] at c_7
          exact So.one trivial
        · rw [i_eq] at c_7
          exact So.one trivial
    · rw [i_eq] at c_3
      exact So.one trivial
  · rw [i_eq] at c_1
    have k_8 : (0 : Int32).toInt = 0 := by decide
    exact So.one trivial
theorem t_Fld_isCountOrBit {sFld : S_Fld} {a0 : Int32} (I_sFld : I_Fld sFld) (g_0 : 0 ≤ a0.toInt) (g_1 : a0.toInt < 100) : So (Fld_isCountOrBit sFld a0) (fun r => (r.toInt = 0 ∨ (Fld_kinds sFld a0.toNatClampNeg).toInt = 2 ∨ (Fld_kinds sFld a0.toNatClampNeg).toInt = 3)) := by
  unfold Fld_isCountOrBit
  refine So.gd (i_in.mpr (by omega)) ?_
  refine So.ite (fun c_1 => ?_) (fun c_1 => ?_)
  · rw [i_eq] at c_1
    have k_2 : (2 : Int32).toInt = 2 := by decide
    have k_3 : (1 : Int32).toInt = 1 := by decide
    exact So.one (by show (1 : Int32).toInt = 0 ∨ (Fld_kinds sFld a0.toNatClampNeg).toInt = 2 ∨ (Fld_kinds sFld a0.toNatClampNeg).toInt = 3; omega)
  · rw [i_eq] at c_1
    have k_4 : (2 : Int32).toInt = 2 := by decide
    refine So.gd (i_in.mpr (by omega)) ?_
    refine So.ite (fun c_5 => ?_) (fun c_5 => ?_)
    · rw [i_eq] at c_5
      have k_6 : (3 : Int32).toInt = 3 := by decide
      have k_7 : (1 : Int32).toInt = 1 := by decide
      exact So.one (by show (1 : Int32).toInt = 0 ∨ (Fld_kinds sFld a0.toNatClampNeg).toInt = 2 ∨ (Fld_kinds sFld a0.toNatClampNeg).toInt = 3; omega)
    · rw [i_eq] at c_5
      have k_8 : (3 : Int32).toInt = 3 := by decide
      have k_9 : (0 : Int32).toInt = 0 := by decide
      exact So.one (by show (0 : Int32).toInt = 0 ∨ (Fld_kinds sFld a0.toNatClampNeg).toInt = 2 ∨ (Fld_kinds sFld a0.toNatClampNeg).toInt = 3; omega)
theorem t_Fld_firstOther_L2 {fu : Nat} {nRW : Nat} {nRW2 : Nat} {sFld : S_Fld} {sRW : (Nat → Int64)} {sRW2 : (Nat → Int64)} (hf : 12000 ≤ fu) (I_sFld : I_Fld sFld) (g_0 : (nRW : Int) = 100) (g_1 : (nRW2 : Int) = 100) : ∀ (n : Nat) (x3_L2 : Int32), (0 ≤ x3_L2.toInt) → (x3_L2.toInt ≤ 100) → (100 - x3_L2.toInt < (n : Nat)) → So (Fld_firstOther_L2 fu nRW nRW2 sFld sRW sRW2 n x3_L2) (fun r => True)
  | 0, x3_L2, l_0, l_1, l_2 => absurd l_2 (by omega)
  | n + 1, x3_L2, l_0, l_1, l_2 => by
    rw [Fld_firstOther_L2]
    refine So.ite (fun c_1 => ?_) (fun c_1 => ?_)
    · rw [i_le] at c_1
      have f_2 := I_Fld_count I_sFld
      exact So.one trivial
    · rw [i_le] at c_1
      have f_3 := I_Fld_count I_sFld
      refine So.bd (t_Fld_isCountOrBit I_sFld (by show 0 ≤ x3_L2.toInt; omega) (by show x3_L2.toInt < 100; omega)) fun q1 h_4 => ?_
      have p_5 := h_4
      refine So.ite (fun c_6 => ?_) (fun c_6 => ?_)
      · rw [i_eq] at c_6
        have k_7 : (0 : Int32).toInt = 0 := by decide
        unfold Fld_firstOther_j30
        have k_8 : (1 : Int32).toInt = 1 := by decide
        first | have f_9 := i_add (a := x3_L2) (b := 1) (by omega) (by omega) | have f_9 := i_addm x3_L2 1
        exact t_Fld_firstOther_L2 hf I_sFld (by show (nRW : Int) = 100; omega) (by show (nRW2 : Int) = 100; omega)   n _ (by show 0 ≤ (x3_L2 + 1).toInt; omega) (by show (x3_L2 + 1).toInt ≤ 100; omega) (by show 100 - (x3_L2 + 1).toInt < (n : Nat); omega)
      · rw [i_eq] at c_6
        have k_10 : (0 : Int32).toInt = 0 := by decide
        refine So.gd (i_in.mpr (by omega)) ?_
        refine So.gd (i_in.mpr (by omega)) ?_
        refine So.ite (fun c_11 => ?_) (fun c_11 => ?_)
        · unfold Fld_firstOther_j30
          have k_12 : (1 : Int32).toInt = 1 := by decide
          first | have f_13 := i_add (a := x3_L2) (b := 1) (by omega) (by omega) | have f_13 := i_addm x3_L2 1
          exact t_Fld_firstOther_L2 hf I_sFld (by show (nRW : Int) = 100; omega) (by show (nRW2 : Int) = 100; omega)   n _ (by show 0 ≤ (x3_L2 + 1).toInt; omega) (by show (x3_L2 + 1).toInt ≤ 100; omega) (by show 100 - (x3_L2 + 1).toInt < (n : Nat); omega)
        · exact So.one trivial
theorem t_Fld_firstOther {fu : Nat} {nRW : Nat} {nRW2 : Nat} {sFld : S_Fld} {sRW : (Nat → Int64)} {sRW2 : (Nat → Int64)} (hf : 12000 ≤ fu) (I_sFld : I_Fld sFld) (g_0 : (nRW : Int) = 100) (g_1 : (nRW2 : Int) = 100) : So (Fld_firstOther fu nRW nRW2 sFld sRW sRW2) (fun r => True) := by
  unfold Fld_firstOther
  have k_1 : (0 : Int32).toInt = 0 := by decide
  refine So.imp (t_Fld_firstOther_L2 hf I_sFld (by show (nRW : Int) = 100; omega) (by show (nRW2 : Int) = 100; omega) fu _ (by show 0 ≤ (0 : Int32).toInt; omega) (by show (0 : Int32).toInt ≤ 100; omega) (by show 100 - (0 : Int32).toInt < (fu : Nat); omega)) fun q_z h_z => ?_
  exact trivial
theorem t_Fld_hasRaw {sFld : S_Fld} {a0 : Int32} {a1 : Int64} (I_sFld : I_Fld sFld) (g_0 : 0 ≤ a0.toInt) (g_1 : a0.toInt < 100) : So (Fld_hasRaw sFld a0 a1) (fun r => True) := by
  unfold Fld_hasRaw
  refine So.gd (i_in.mpr (by omega)) ?_
  refine So.ite (fun c_1 => ?_) (fun c_1 => ?_)
  · rw [i_eq] at c_1
    have k_2 : (3 : Int32).toInt = 3 := by decide
    exact So.one trivial
  · rw [i_eq] at c_1
    have k_3 : (3 : Int32).toInt = 3 := by decide
    refine So.ite (fun c_4 => ?_) (fun c_4 => ?_)
    · exact So.one trivial
    · refine So.gd (i_in.mpr (by omega)) ?_
      refine So.ite (fun c_5 => ?_) (fun c_5 => ?_)
      · exact So.one trivial
      · refine So.gd (i_in.mpr (by omega)) ?_
        refine So.gd (i_in.mpr (by omega)) ?_
        refine So.bd (t_X_allOnes ) fun q5 h_6 => ?_
        refine So.ite (fun c_7 => ?_) (fun c_7 => ?_)
        · exact So.one trivial
        · exact So.one trivial
theorem t_Fld_rawOf {sFld : S_Fld} {a0 : Int32} {a1 : Int64} (I_sFld : I_Fld sFld) (g_0 : 0 ≤ a0.toInt) (g_1 : a0.toInt < 100) : So (Fld_rawOf sFld a0 a1) (fun r => True) := by
  unfold Fld_rawOf
  refine So.ite (fun c_1 => ?_) (fun c_1 => ?_)
  · refine So.gd (i_in.mpr (by omega)) ?_
    refine So.bd (t_X_allOnes ) fun q3 h_2 => ?_
    exact So.one trivial
  · refine So.gd (i_in.mpr (by omega)) ?_
    exact So.one trivial
theorem t_Fld_isMissing {sFld : S_Fld} {a0 : Int32} {a1 : Int64} (I_sFld : I_Fld sFld) (g_0 : 0 ≤ a0.toInt) (g_1 : a0.toInt < 100) : So (Fld_isMissing sFld a0 a1) (fun r => True) := by
  unfold Fld_isMissing
  refine So.gd (i_in.mpr (by omega)) ?_
  refine So.ite (fun c_1 => ?_) (fun c_1 => ?_)
  · rw [i_eq] at c_1
    have k_2 : (3 : Int32).toInt = 3 := by decide
    exact So.one trivial
  · rw [i_eq] at c_1
    have k_3 : (3 : Int32).toInt = 3 := by decide
    refine So.gd (i_in.mpr (by omega)) ?_
    refine So.bd (t_X_allOnes ) fun q3 h_4 => ?_
    refine So.ite (fun c_5 => ?_) (fun c_5 => ?_)
    · exact So.one trivial
    · exact So.one trivial
theorem t_Fld_valueOf {sFld : S_Fld} {a0 : Int32} {a1 : Int64} (I_sFld : I_Fld sFld) (g_0 : 0 ≤ a0.toInt) (g_1 : a0.toInt < 100) : So (Fld_valueOf sFld a0 a1) (fun r => True) := by
  unfold Fld_valueOf
  refine So.bd (t_Fld_isMissing I_sFld (by show 0 ≤ a0.toInt; omega) (by show a0.toInt < 100; omega)) fun q1 h_1 => ?_
  refine So.ite (fun c_2 => ?_) (fun c_2 => ?_)
  · rw [i_eq] at c_2
    have k_3 : (0 : Int32).toInt = 0 := by decide
    refine So.gd (i_in.mpr (by omega)) ?_
    exact So.one trivial
  · rw [i_eq] at c_2
    have k_4 : (0 : Int32).toInt = 0 := by decide
    exact So.one trivial
theorem t_Arr_fill_aJJ_L6 {fu : Nat} {nRW : Nat} {x1_L6 : Int64} {x4_L6 : Int32} (hf : 12000 ≤ fu) (g_0 : (nRW : Int) ≤ 10000) (g_1 : x4_L6.toInt = (nRW : Int)) : ∀ (n : Nat) (x3_L6 : Int32) (sRW_L6 : Nat → Int64), (0 ≤ x3_L6.toInt) → (x3_L6.toInt ≤ (nRW : Int)) → (x4_L6.toInt - x3_L6.toInt < (n : Nat)) → So (Arr_fill_aJJ_L6 fu nRW x1_L6 x4_L6 n x3_L6 sRW_L6) (fun r => True)
  | 0, x3_L6, sRW_L6, l_0, l_1, l_2 => absurd l_2 (by omega)
  | n + 1, x3_L6, sRW_L6, l_0, l_1, l_2 => by
    rw [Arr_fill_aJJ_L6]
    refine So.ite (fun c_1 => ?_) (fun c_1 => ?_)
    · rw [i_le] at c_1
      exact So.one trivial
    · rw [i_le] at c_1
      refine So.gd (i_in.mpr (by omega)) ?_
      refine So.lt2 fun sRW_2 e_2 => ?_
      have k_3 : (1 : Int32).toInt = 1 := by decide
      first | have f_4 := i_add (a := x3_L6) (b := 1) (by omega) (by omega) | have f_4 := i_addm x3_L6 1
      exact t_Arr_fill_aJJ_L6 hf (by show (nRW : Int) ≤ 10000; omega) (by show x4_L6.toInt = (nRW : Int); omega)   n _ _ (by show 0 ≤ (x3_L6 + 1).toInt; omega) (by show (x3_L6 + 1).toInt ≤ (nRW : Int); omega) (by show x4_L6.toInt - (x3_L6 + 1).toInt < (n : Nat); omega)
theorem t_Arr_fill_aJJ {fu : Nat} {nRW : Nat} {a1 : Int64} {sRW : (Nat → Int64)} (hf : 12000 ≤ fu) (g_0 : (nRW : Int) ≤ 10000) : So (Arr_fill_aJJ fu nRW a1 sRW) (fun r => True) := by
  unfold Arr_fill_aJJ
  have f_1 := i_of (n := nRW) (by omega)
  have k_2 : (0 : Int32).toInt = 0 := by decide
  refine So.imp (t_Arr_fill_aJJ_L6 hf (by show (nRW : Int) ≤ 10000; omega) (by show ((Int32.ofNat) nRW).toInt = (nRW : Int); omega) fu _ _ (by show 0 ≤ (0 : Int32).toInt; omega) (by show (0 : Int32).toInt ≤ (nRW : Int); omega) (by show ((Int32.ofNat) nRW).toInt - (0 : Int32).toInt < (fu : Nat); omega)) fun q_z h_z => ?_
  exact trivial

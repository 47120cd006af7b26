def I_Tab (s : S_Tab) : Prop := (∀ j : Nat, 0 ≤ (Tab_widths s j).toInt ∧ (Tab_widths s j).toInt ≤ 32) ∧ (∀ j : Nat, 0 ≤ (Tab_sizes s j).toInt ∧ (Tab_sizes s j).toInt ≤ 24 ∧ (j < 16 → (Tab_sizes s j).toInt ≤ 8)) ∧ (0 ≤ (Tab_versionInUse s).toInt ∧ (Tab_versionInUse s).toInt ≤ 3)
theorem I_Tab_widths {s : S_Tab} (h : I_Tab s) (j : Nat) : 0 ≤ (Tab_widths s j).toInt ∧ (Tab_widths s j).toInt ≤ 32 := h.1 j
theorem I_Tab_sizes {s : S_Tab} (h : I_Tab s) (j : Nat) : 0 ≤ (Tab_sizes s j).toInt ∧ (Tab_sizes s j).toInt ≤ 24 ∧ (j < 16 → (Tab_sizes s j).toInt ≤ 8) := h.2.1 j
theorem I_Tab_versionInUse {s : S_Tab} (h : I_Tab s) : 0 ≤ (Tab_versionInUse s).toInt ∧ (Tab_versionInUse s).toInt ≤ 3 := h.2.2
theorem I_Tab_set_scales {s : S_Tab} {v : Nat → Int32} (h : I_Tab s) : I_Tab (Tab_set_scales s v) := h
theorem I_Tab_put_scales {s : S_Tab} {k : Nat} {v : Int32} (h : I_Tab s) : I_Tab (Tab_put_scales s k v) := h
theorem I_Tab_set_references {s : S_Tab} {v : Nat → Int32} (h : I_Tab s) : I_Tab (Tab_set_references s v) := h
theorem I_Tab_put_references {s : S_Tab} {k : Nat} {v : Int32} (h : I_Tab s) : I_Tab (Tab_put_references s k v) := h
theorem I_Tab_set_widths {s : S_Tab} {v : Nat → Int32} (h : I_Tab s) (h0 : ∀ j : Nat, 0 ≤ (v j).toInt ∧ (v j).toInt ≤ 32) : I_Tab (Tab_set_widths s v) := ⟨h0, h.2.1, h.2.2⟩
theorem I_Tab_put_widths {s : S_Tab} {k : Nat} {v : Int32} (h : I_Tab s) (h0 : 0 ≤ v.toInt ∧ v.toInt ≤ 32) : I_Tab (Tab_put_widths s k v) := ⟨i_arp (P := fun j x => 0 ≤ x.toInt ∧ x.toInt ≤ 32) h.1 h0, h.2.1, h.2.2⟩
theorem I_Tab_set_listed {s : S_Tab} {v : Nat → Int32} (h : I_Tab s) : I_Tab (Tab_set_listed s v) := h
theorem I_Tab_put_listed {s : S_Tab} {k : Nat} {v : Int32} (h : I_Tab s) : I_Tab (Tab_put_listed s k v) := h
theorem I_Tab_set_sizes {s : S_Tab} {v : Nat → Int32} (h : I_Tab s) (h0 : ∀ j : Nat, 0 ≤ (v j).toInt ∧ (v j).toInt ≤ 24 ∧ (j < 16 → (v j).toInt ≤ 8)) : I_Tab (Tab_set_sizes s v) := ⟨h.1, h0, h.2.2⟩
theorem I_Tab_put_sizes {s : S_Tab} {k : Nat} {v : Int32} (h : I_Tab s) (h0 : 0 ≤ v.toInt ∧ v.toInt ≤ 24 ∧ (k < 16 → v.toInt ≤ 8)) : I_Tab (Tab_put_sizes s k v) := ⟨h.1, i_arp (P := fun j x => 0 ≤ x.toInt ∧ x.toInt ≤ 24 ∧ (j < 16 → x.toInt ≤ 8)) h.2.1 h0, h.2.2⟩
theorem I_Tab_set_versionInUse {s : S_Tab} {v : Int32} (h : I_Tab s) (h0 : 0 ≤ v.toInt ∧ v.toInt ≤ 3) : I_Tab (Tab_set_versionInUse s v) := ⟨h.1, h.2.1, h0⟩
def I_Prog (s : S_Prog) : Prop := (0 ≤ (Prog_size s).toInt ∧ (Prog_size s).toInt ≤ 1000) ∧ (∀ j : Nat, 0 ≤ (Prog_openAts s j).toInt ∧ (Prog_openAts s j).toInt ≤ 152) ∧ (∀ j : Nat, 0 ≤ (Prog_openEnds s j).toInt ∧ (Prog_openEnds s j).toInt ≤ 152) ∧ (∀ j : Nat, -1 ≤ (Prog_openRepeats s j).toInt ∧ (Prog_openRepeats s j).toInt ≤ 999) ∧ (0 ≤ (Prog_open s).toInt ∧ (Prog_open s).toInt ≤ 64)
theorem I_Prog_size {s : S_Prog} (h : I_Prog s) : 0 ≤ (Prog_size s).toInt ∧ (Prog_size s).toInt ≤ 1000 := h.1
theorem I_Prog_openAts {s : S_Prog} (h : I_Prog s) (j : Nat) : 0 ≤ (Prog_openAts s j).toInt ∧ (Prog_openAts s j).toInt ≤ 152 := h.2.1 j
theorem I_Prog_openEnds {s : S_Prog} (h : I_Prog s) (j : Nat) : 0 ≤ (Prog_openEnds s j).toInt ∧ (Prog_openEnds s j).toInt ≤ 152 := h.2.2.1 j
theorem I_Prog_openRepeats {s : S_Prog} (h : I_Prog s) (j : Nat) : -1 ≤ (Prog_openRepeats s j).toInt ∧ (Prog_openRepeats s j).toInt ≤ 999 := h.2.2.2.1 j
theorem I_Prog_open {s : S_Prog} (h : I_Prog s) : 0 ≤ (Prog_open s).toInt ∧ (Prog_open s).toInt ≤ 64 := h.2.2.2.2
theorem I_Prog_set_descriptors {s : S_Prog} {v : Nat → Int32} (h : I_Prog s) : I_Prog (Prog_set_descriptors s v) := h
theorem I_Prog_put_descriptors {s : S_Prog} {k : Nat} {v : Int32} (h : I_Prog s) : I_Prog (Prog_put_descriptors s k v) := h
theorem I_Prog_set_bodyEnds {s : S_Prog} {v : Nat → Int32} (h : I_Prog s) : I_Prog (Prog_set_bodyEnds s v) := h
theorem I_Prog_put_bodyEnds {s : S_Prog} {k : Nat} {v : Int32} (h : I_Prog s) : I_Prog (Prog_put_bodyEnds s k v) := h
theorem I_Prog_set_size {s : S_Prog} {v : Int32} (h : I_Prog s) (h0 : 0 ≤ v.toInt ∧ v.toInt ≤ 1000) : I_Prog (Prog_set_size s v) := ⟨h0, h.2.1, h.2.2.1, h.2.2.2.1, h.2.2.2.2⟩
theorem I_Prog_set_fault {s : S_Prog} {v : Int32} (h : I_Prog s) : I_Prog (Prog_set_fault s v) := h
theorem I_Prog_set_place {s : S_Prog} {v : Int32} (h : I_Prog s) : I_Prog (Prog_set_place s v) := h
theorem I_Prog_set_settings {s : S_Prog} {v : Nat → Int32} (h : I_Prog s) : I_Prog (Prog_set_settings s v) := h
theorem I_Prog_put_settings {s : S_Prog} {k : Nat} {v : Int32} (h : I_Prog s) : I_Prog (Prog_put_settings s k v) := h
theorem I_Prog_set_openAts {s : S_Prog} {v : Nat → Int32} (h : I_Prog s) (h0 : ∀ j : Nat, 0 ≤ (v j).toInt ∧ (v j).toInt ≤ 152) : I_Prog (Prog_set_openAts s v) := ⟨h.1, h0, h.2.2.1, h.2.2.2.1, h.2.2.2.2⟩
theorem I_Prog_put_openAts {s : S_Prog} {k : Nat} {v : Int32} (h : I_Prog s) (h0 : 0 ≤ v.toInt ∧ v.toInt ≤ 152) : I_Prog (Prog_put_openAts s k v) := ⟨h.1, i_arp (P := fun j x => 0 ≤ x.toInt ∧ x.toInt ≤ 152) h.2.1 h0, h.2.2.1, h.2.2.2.1, h.2.2.2.2⟩
theorem I_Prog_set_openEnds {s : S_Prog} {v : Nat → Int32} (h : I_Prog s) (h0 : ∀ j : Nat, 0 ≤ (v j).toInt ∧ (v j).toInt ≤ 152) : I_Prog (Prog_set_openEnds s v) := ⟨h.1, h.2.1, h0, h.2.2.2.1, h.2.2.2.2⟩
theorem I_Prog_put_openEnds {s : S_Prog} {k : Nat} {v : Int32} (h : I_Prog s) (h0 : 0 ≤ v.toInt ∧ v.toInt ≤ 152) : I_Prog (Prog_put_openEnds s k v) := ⟨h.1, h.2.1, i_arp (P := fun j x => 0 ≤ x.toInt ∧ x.toInt ≤ 152) h.2.2.1 h0, h.2.2.2.1, h.2.2.2.2⟩
theorem I_Prog_set_openSequences {s : S_Prog} {v : Nat → Int32} (h : I_Prog s) : I_Prog (Prog_set_openSequences s v) := h
theorem I_Prog_put_openSequences {s : S_Prog} {k : Nat} {v : Int32} (h : I_Prog s) : I_Prog (Prog_put_openSequences s k v) := h
theorem I_Prog_set_openRepeats {s : S_Prog} {v : Nat → Int32} (h : I_Prog s) (h0 : ∀ j : Nat, -1 ≤ (v j).toInt ∧ (v j).toInt ≤ 999) : I_Prog (Prog_set_openRepeats s v) := ⟨h.1, h.2.1, h.2.2.1, h0, h.2.2.2.2⟩
theorem I_Prog_put_openRepeats {s : S_Prog} {k : Nat} {v : Int32} (h : I_Prog s) (h0 : -1 ≤ v.toInt ∧ v.toInt ≤ 999) : I_Prog (Prog_put_openRepeats s k v) := ⟨h.1, h.2.1, h.2.2.1, i_arp (P := fun j x => -1 ≤ x.toInt ∧ x.toInt ≤ 999) h.2.2.2.1 h0, h.2.2.2.2⟩
theorem I_Prog_set_foundSettings {s : S_Prog} {v : Nat → Int32} (h : I_Prog s) : I_Prog (Prog_set_foundSettings s v) := h
theorem I_Prog_put_foundSettings {s : S_Prog} {k : Nat} {v : Int32} (h : I_Prog s) : I_Prog (Prog_put_foundSettings s k v) := h
theorem I_Prog_set_open {s : S_Prog} {v : Int32} (h : I_Prog s) (h0 : 0 ≤ v.toInt ∧ v.toInt ≤ 64) : I_Prog (Prog_set_open s v) := ⟨h.1, h.2.1, h.2.2.1, h.2.2.2.1, h0⟩
theorem I_Prog_set_templatePlace {s : S_Prog} {v : Int32} (h : I_Prog s) : I_Prog (Prog_set_templatePlace s v) := h
theorem t_Tab_isScale {a0 : Int32}  : So (Tab_isScale a0) (fun r => ((r.toInt = 1 ∧ (-8 ≤ a0.toInt ∧ a0.toInt ≤ 8)) ∨ (r.toInt = 0 ∧ ¬ (-8 ≤ a0.toInt ∧ a0.toInt ≤ 8)))) := by
  unfold Tab_isScale
  refine So.ite (fun c_1 => ?_) (fun c_1 => ?_)
  · rw [i_lt] at c_1
    have k_2 : ((-8) : Int32).toInt = -8 := by decide
    have k_3 : (0 : Int32).toInt = 0 := by decide
    exact So.one (by show ((0 : Int32).toInt = 1 ∧ (-8 ≤ a0.toInt ∧ a0.toInt ≤ 8)) ∨ ((0 : Int32).toInt = 0 ∧ ¬ (-8 ≤ a0.toInt ∧ a0.toInt ≤ 8)); omega)
  · rw [i_lt] at c_1
    have k_4 : ((-8) : Int32).toInt = -8 := by decide
    refine So.ite (fun c_5 => ?_) (fun c_5 => ?_)
    · rw [i_lt] at c_5
      have k_6 : (8 : Int32).toInt = 8 := by decide
      have k_7 : (0 : Int32).toInt = 0 := by decide
      exact So.one (by show ((0 : Int32).toInt = 1 ∧ (-8 ≤ a0.toInt ∧ a0.toInt ≤ 8)) ∨ ((0 : Int32).toInt = 0 ∧ ¬ (-8 ≤ a0.toInt ∧ a0.toInt ≤ 8)); omega)
    · rw [i_lt] at c_5
      have k_8 : (8 : Int32).toInt = 8 := by decide
      have k_9 : (1 : Int32).toInt = 1 := by decide
      exact So.one (by show ((1 : Int32).toInt = 1 ∧ (-8 ≤ a0.toInt ∧ a0.toInt ≤ 8)) ∨ ((1 : Int32).toInt = 0 ∧ ¬ (-8 ≤ a0.toInt ∧ a0.toInt ≤ 8)); omega)
theorem t_Tab_isWidth {a0 : Int32}  : So (Tab_isWidth a0) (fun r => ((r.toInt = 1 ∧ (1 ≤ a0.toInt ∧ a0.toInt ≤ 32)) ∨ (r.toInt = 0 ∧ ¬ (1 ≤ a0.toInt ∧ a0.toInt ≤ 32)))) := by
  unfold Tab_isWidth
  refine So.ite (fun c_1 => ?_) (fun c_1 => ?_)
  · rw [i_lt] at c_1
    have k_2 : (1 : Int32).toInt = 1 := by decide
    have k_3 : (0 : Int32).toInt = 0 := by decide
    exact So.one (by show ((0 : Int32).toInt = 1 ∧ (1 ≤ a0.toInt ∧ a0.toInt ≤ 32)) ∨ ((0 : Int32).toInt = 0 ∧ ¬ (1 ≤ a0.toInt ∧ a0.toInt ≤ 32)); omega)
  · rw [i_lt] at c_1
    have k_4 : (1 : Int32).toInt = 1 := by decide
    refine So.ite (fun c_5 => ?_) (fun c_5 => ?_)
    · rw [i_lt] at c_5
      have k_6 : (32 : Int32).toInt = 32 := by decide
      have k_7 : (0 : Int32).toInt = 0 := by decide
      exact So.one (by show ((0 : Int32).toInt = 1 ∧ (1 ≤ a0.toInt ∧ a0.toInt ≤ 32)) ∨ ((0 : Int32).toInt = 0 ∧ ¬ (1 ≤ a0.toInt ∧ a0.toInt ≤ 32)); omega)
    · rw [i_lt] at c_5
      have k_8 : (32 : Int32).toInt = 32 := by decide
      exact So.one (by show ((1 : Int32).toInt = 1 ∧ (1 ≤ a0.toInt ∧ a0.toInt ≤ 32)) ∨ ((1 : Int32).toInt = 0 ∧ ¬ (1 ≤ a0.toInt ∧ a0.toInt ≤ 32)); omega)
theorem t_Tab_isEntry {a0 : Int32} {a1 : Int32} {a2 : Int32}  : So (Tab_isEntry a0 a1 a2) (fun r => ((r.toInt = 1 ∧ (-8 ≤ a0.toInt ∧ a0.toInt ≤ 8 ∧ 1 ≤ a2.toInt ∧ a2.toInt ≤ 32 ∧ -1000000000 ≤ a1.toInt ∧ a1.toInt ≤ 1000000000)) ∨ (r.toInt = 0 ∧ ¬ (-8 ≤ a0.toInt ∧ a0.toInt ≤ 8 ∧ 1 ≤ a2.toInt ∧ a2.toInt ≤ 32 ∧ -1000000000 ≤ a1.toInt ∧ a1.toInt ≤ 1000000000)))) := by
  unfold Tab_isEntry
  refine So.bd (t_Tab_isScale ) fun q1 h_1 => ?_
  have p_2 := h_1
  refine So.ite (fun c_3 => ?_) (fun c_3 => ?_)
  · rw [i_eq] at c_3
    have k_4 : (0 : Int32).toInt = 0 := by decide
    exact So.one (by show ((0 : Int32).toInt = 1 ∧ (-8 ≤ a0.toInt ∧ a0.toInt ≤ 8 ∧ 1 ≤ a2.toInt ∧ a2.toInt ≤ 32 ∧ -1000000000 ≤ a1.toInt ∧ a1.toInt ≤ 1000000000)) ∨ ((0 : Int32).toInt = 0 ∧ ¬ (-8 ≤ a0.toInt ∧ a0.toInt ≤ 8 ∧ 1 ≤ a2.toInt ∧ a2.toInt ≤ 32 ∧ -1000000000 ≤ a1.toInt ∧ a1.toInt ≤ 1000000000)); omega)
  · rw [i_eq] at c_3
    have k_5 : (0 : Int32).toInt = 0 := by decide
    refine So.bd (t_Tab_isWidth ) fun q2 h_6 => ?_
    have p_7 := h_6
    refine So.ite (fun c_8 => ?_) (fun c_8 => ?_)
    · rw [i_eq] at c_8
      exact So.one (by show ((0 : Int32).toInt = 1 ∧ (-8 ≤ a0.toInt ∧ a0.toInt ≤ 8 ∧ 1 ≤ a2.toInt ∧ a2.toInt ≤ 32 ∧ -1000000000 ≤ a1.toInt ∧ a1.toInt ≤ 1000000000)) ∨ ((0 : Int32).toInt = 0 ∧ ¬ (-8 ≤ a0.toInt ∧ a0.toInt ≤ 8 ∧ 1 ≤ a2.toInt ∧ a2.toInt ≤ 32 ∧ -1000000000 ≤ a1.toInt ∧ a1.toInt ≤ 1000000000)); omega)
    · rw [i_eq] at c_8
      refine So.ite (fun c_9 => ?_) (fun c_9 => ?_)
      · rw [i_lt] at c_9
        have k_10 : ((-1000000000) : Int32).toInt = -1000000000 := by decide
        exact So.one (by show ((0 : Int32).toInt = 1 ∧ (-8 ≤ a0.toInt ∧ a0.toInt ≤ 8 ∧ 1 ≤ a2.toInt ∧ a2.toInt ≤ 32 ∧ -1000000000 ≤ a1.toInt ∧ a1.toInt ≤ 1000000000)) ∨ ((0 : Int32).toInt = 0 ∧ ¬ (-8 ≤ a0.toInt ∧ a0.toInt ≤ 8 ∧ 1 ≤ a2.toInt ∧ a2.toInt ≤ 32 ∧ -1000000000 ≤ a1.toInt ∧ a1.toInt ≤ 1000000000)); omega)
      · rw [i_lt] at c_9
        have k_11 : ((-1000000000) : Int32).toInt = -1000000000 := by decide
        refine So.ite (fun c_12 => ?_) (fun c_12 => ?_)
        · rw [i_lt] at c_12
          have k_13 : (1000000000 : Int32).toInt = 1000000000 := by decide
          exact So.one (by show ((0 : Int32).toInt = 1 ∧ (-8 ≤ a0.toInt ∧ a0.toInt ≤ 8 ∧ 1 ≤ a2.toInt ∧ a2.toInt ≤ 32 ∧ -1000000000 ≤ a1.toInt ∧ a1.toInt ≤ 1000000000)) ∨ ((0 : Int32).toInt = 0 ∧ ¬ (-8 ≤ a0.toInt ∧ a0.toInt ≤ 8 ∧ 1 ≤ a2.toInt ∧ a2.toInt ≤ 32 ∧ -1000000000 ≤ a1.toInt ∧ a1.toInt ≤ 1000000000)); omega)
        · rw [i_lt] at c_12
          have k_14 : (1000000000 : Int32).toInt = 1000000000 := by decide
          have k_15 : (1 : Int32).toInt = 1 := by decide
          exact So.one (by show ((1 : Int32).toInt = 1 ∧ (-8 ≤ a0.toInt ∧ a0.toInt ≤ 8 ∧ 1 ≤ a2.toInt ∧ a2.toInt ≤ 32 ∧ -1000000000 ≤ a1.toInt ∧ a1.toInt ≤ 1000000000)) ∨ ((1 : Int32).toInt = 0 ∧ ¬ (-8 ≤ a0.toInt ∧ a0.toInt ≤ 8 ∧ 1 ≤ a2.toInt ∧ a2.toInt ≤ 32 ∧ -1000000000 ≤ a1.toInt ∧ a1.toInt ≤ 1000000000)); omega)
theorem t_Tab_startOf {a0 : Int32} (g_0 : 0 ≤ a0.toInt) (g_1 : a0.toInt ≤ 16) : So (Tab_startOf a0) (fun r => (r.toInt = 8 * a0.toInt)) := by
  unfold Tab_startOf
  have k_1 : (8 : Int32).toInt = 8 := by decide
  first | have f_2 := i_mulr a0 8 (8) (by decide) (by omega) (by omega) | have f_2 := i_mulrm a0 8 (8) (by decide)
  exact So.one (by show ((a0 * 8) : Int32).toInt = 8 * a0.toInt; omega)
theorem t_Tab_entryAt {a0 : Int32} {a1 : Int32} (g_0 : 0 ≤ a0.toInt) (g_1 : a0.toInt ≤ 4) (g_2 : 0 ≤ a1.toInt) (g_3 : a1.toInt < 64) : So (Tab_entryAt a0 a1) (fun r => (0 ≤ r.toInt) ∧ (r.toInt < 320)) := by
  unfold Tab_entryAt
  have k_1 : (64 : Int32).toInt = 64 := by decide
  first | have f_2 := i_mulr a0 64 (64) (by decide) (by omega) (by omega) | have f_2 := i_mulrm a0 64 (64) (by decide)
  first | have f_3 := i_add (a := (a0 * 64)) (b := a1) (by omega) (by omega) | have f_3 := i_addm (a0 * 64) a1
  exact So.one ⟨(by show 0 ≤ (((a0 * 64) + a1) : Int32).toInt; omega), (by show (((a0 * 64) + a1) : Int32).toInt < 320; omega)⟩
theorem t_Tab_listOf {a0 : Int32}  : So (Tab_listOf a0) (fun r => ((r.toInt = -1 ∧ ¬ (-1 ≤ a0.toInt ∧ a0.toInt < 16)) ∨ (0 ≤ r.toInt ∧ r.toInt ≤ 16 ∧ -1 ≤ a0.toInt ∧ a0.toInt < 16))) := by
  unfold Tab_listOf
  refine So.ite (fun c_1 => ?_) (fun c_1 => ?_)
  · rw [i_eq] at c_1
    have k_2 : ((-1) : Int32).toInt = -1 := by decide
    have k_3 : (16 : Int32).toInt = 16 := by decide
    exact So.one (by show ((16 : Int32).toInt = -1 ∧ ¬ (-1 ≤ a0.toInt ∧ a0.toInt < 16)) ∨ (0 ≤ (16 : Int32).toInt ∧ (16 : Int32).toInt ≤ 16 ∧ -1 ≤ a0.toInt ∧ a0.toInt < 16); omega)
  · rw [i_eq] at c_1
    have k_4 : ((-1) : Int32).toInt = -1 := by decide
    refine So.ite (fun c_5 => ?_) (fun c_5 => ?_)
    · rw [i_lt] at c_5
      have k_6 : (0 : Int32).toInt = 0 := by decide
      exact So.one (by show (((-1) : Int32).toInt = -1 ∧ ¬ (-1 ≤ a0.toInt ∧ a0.toInt < 16)) ∨ (0 ≤ ((-1) : Int32).toInt ∧ ((-1) : Int32).toInt ≤ 16 ∧ -1 ≤ a0.toInt ∧ a0.toInt < 16); omega)
    · rw [i_lt] at c_5
      have k_7 : (0 : Int32).toInt = 0 := by decide
      refine So.ite (fun c_8 => ?_) (fun c_8 => ?_)
      · rw [i_le] at c_8
        have k_9 : (16 : Int32).toInt = 16 := by decide
        exact So.one (by show (((-1) : Int32).toInt = -1 ∧ ¬ (-1 ≤ a0.toInt ∧ a0.toInt < 16)) ∨ (0 ≤ ((-1) : Int32).toInt ∧ ((-1) : Int32).toInt ≤ 16 ∧ -1 ≤ a0.toInt ∧ a0.toInt < 16); omega)
      · rw [i_le] at c_8
        have k_10 : (16 : Int32).toInt = 16 := by decide
        exact So.one (by show ((a0 : Int32).toInt = -1 ∧ ¬ (-1 ≤ a0.toInt ∧ a0.toInt < 16)) ∨ (0 ≤ (a0 : Int32).toInt ∧ (a0 : Int32).toInt ≤ 16 ∧ -1 ≤ a0.toInt ∧ a0.toInt < 16); omega)
theorem t_Tab_endOf {sTab : S_Tab} {a0 : Int32} (I_sTab : I_Tab sTab) (g_0 : 0 ≤ a0.toInt) (g_1 : a0.toInt ≤ 16) : So (Tab_endOf sTab a0) (fun r => (8 * a0.toInt ≤ r.toInt) ∧ (r.toInt = 8 * a0.toInt + (Tab_sizes sTab a0.toNatClampNeg).toInt) ∧ (r.toInt ≤ 152)) := by
  unfold Tab_endOf
  refine So.bd (t_Tab_startOf (by show 0 ≤ a0.toInt; omega) (by show a0.toInt ≤ 16; omega)) fun q1 h_1 => ?_
  have p_2 := h_1
  refine So.gd (i_in.mpr (by omega)) ?_
  have f_3 := I_Tab_sizes I_sTab (a0.toNatClampNeg)
  have f_4 := i_natm a0
  first | have f_5 := i_add (a := q1) (b := (Tab_sizes sTab (a0.toNatClampNeg))) (by omega) (by omega) | have f_5 := i_addm q1 (Tab_sizes sTab (a0.toNatClampNeg))
  exact So.one ⟨(by show 8 * a0.toInt ≤ ((q1 + (Tab_sizes sTab (a0.toNatClampNeg))) : Int32).toInt; omega), (by show ((q1 + (Tab_sizes sTab (a0.toNatClampNeg))) : Int32).toInt = 8 * a0.toInt + (Tab_sizes sTab a0.toNatClampNeg).toInt; omega), (by show ((q1 + (Tab_sizes sTab (a0.toNatClampNeg))) : Int32).toInt ≤ 152; omega)⟩
theorem t_Tab_isFull {sTab : S_Tab} {a0 : Int32} (I_sTab : I_Tab sTab) (g_0 : 0 ≤ a0.toInt) (g_1 : a0.toInt ≤ 16) : So (Tab_isFull sTab a0) (fun r => (r.toInt ≠ 0 ∨ (a0.toInt = 16 ∧ (Tab_sizes sTab a0.toNatClampNeg).toInt < 24) ∨ (Tab_sizes sTab a0.toNatClampNeg).toInt < 8)) := by
  unfold Tab_isFull
  refine So.gd (i_in.mpr (by omega)) ?_
  refine So.ite (fun c_1 => ?_) (fun c_1 => ?_)
  · rw [i_eq] at c_1
    have k_2 : (16 : Int32).toInt = 16 := by decide
    unfold Tab_isFull_j19
    refine So.ite (fun c_3 => ?_) (fun c_3 => ?_)
    · rw [i_lt] at c_3
      have f_4 := I_Tab_sizes I_sTab (a0.toNatClampNeg)
      have f_5 := i_natm a0
      have k_6 : (24 : Int32).toInt = 24 := by decide
      have k_7 : (0 : Int32).toInt = 0 := by decide
      exact So.one (by show (0 : Int32).toInt ≠ 0 ∨ (a0.toInt = 16 ∧ (Tab_sizes sTab a0.toNatClampNeg).toInt < 24) ∨ (Tab_sizes sTab a0.toNatClampNeg).toInt < 8; omega)
    · rw [i_lt] at c_3
      have f_8 := I_Tab_sizes I_sTab (a0.toNatClampNeg)
      have f_9 := i_natm a0
      have k_10 : (24 : Int32).toInt = 24 := by decide
      have k_11 : (1 : Int32).toInt = 1 := by decide
      exact So.one (by show (1 : Int32).toInt ≠ 0 ∨ (a0.toInt = 16 ∧ (Tab_sizes sTab a0.toNatClampNeg).toInt < 24) ∨ (Tab_sizes sTab a0.toNatClampNeg).toInt < 8; omega)
  · rw [i_eq] at c_1
    have k_12 : (16 : Int32).toInt = 16 := by decide
    unfold Tab_isFull_j19
    refine So.ite (fun c_13 => ?_) (fun c_13 => ?_)
    · rw [i_lt] at c_13
      have f_14 := I_Tab_sizes I_sTab (a0.toNatClampNeg)
      have f_15 := i_natm a0
      have k_16 : (8 : Int32).toInt = 8 := by decide
      have k_17 : (0 : Int32).toInt = 0 := by decide
      exact So.one (by show (0 : Int32).toInt ≠ 0 ∨ (a0.toInt = 16 ∧ (Tab_sizes sTab a0.toNatClampNeg).toInt < 24) ∨ (Tab_sizes sTab a0.toNatClampNeg).toInt < 8; omega)
    · rw [i_lt] at c_13
      have f_18 := I_Tab_sizes I_sTab (a0.toNatClampNeg)
      have f_19 := i_natm a0
      have k_20 : (8 : Int32).toInt = 8 := by decide
      have k_21 : (1 : Int32).toInt = 1 := by decide
      exact So.one (by show (1 : Int32).toInt ≠ 0 ∨ (a0.toInt = 16 ∧ (Tab_sizes sTab a0.toNatClampNeg).toInt < 24) ∨ (Tab_sizes sTab a0.toNatClampNeg).toInt < 8; omega)
theorem t_Desc_isElement {a0 : Int32}  : So (Desc_isElement a0) (fun r => ((r.toInt = 1 ∧ (0 ≤ a0.toInt ∧ a0.toInt < 64)) ∨ (r.toInt = 0 ∧ ¬ (0 ≤ a0.toInt ∧ a0.toInt < 64)))) := by
  unfold Desc_isElement
  refine So.ite (fun c_1 => ?_) (fun c_1 => ?_)
  · rw [i_lt] at c_1
    have k_2 : (0 : Int32).toInt = 0 := by decide
    exact So.one (by show ((0 : Int32).toInt = 1 ∧ (0 ≤ a0.toInt ∧ a0.toInt < 64)) ∨ ((0 : Int32).toInt = 0 ∧ ¬ (0 ≤ a0.toInt ∧ a0.toInt < 64)); omega)
  · rw [i_lt] at c_1
    have k_3 : (0 : Int32).toInt = 0 := by decide
    refine So.ite (fun c_4 => ?_) (fun c_4 => ?_)
    · rw [i_le] at c_4
      have k_5 : (64 : Int32).toInt = 64 := by decide
      exact So.one (by show ((0 : Int32).toInt = 1 ∧ (0 ≤ a0.toInt ∧ a0.toInt < 64)) ∨ ((0 : Int32).toInt = 0 ∧ ¬ (0 ≤ a0.toInt ∧ a0.toInt < 64)); omega)
    · rw [i_le] at c_4
      have k_6 : (64 : Int32).toInt = 64 := by decide
      have k_7 : (1 : Int32).toInt = 1 := by decide
      exact So.one (by show ((1 : Int32).toInt = 1 ∧ (0 ≤ a0.toInt ∧ a0.toInt < 64)) ∨ ((1 : Int32).toInt = 0 ∧ ¬ (0 ≤ a0.toInt ∧ a0.toInt < 64)); omega)
theorem t_Desc_sequenceOf {a0 : Int32}  : So (Desc_sequenceOf a0) (fun r => ((r.toInt = -1 ∧ ¬ (100 ≤ a0.toInt ∧ a0.toInt < 116)) ∨ (r.toInt = a0.toInt - 100 ∧ 100 ≤ a0.toInt ∧ a0.toInt < 116))) := by
  unfold Desc_sequenceOf
  refine So.ite (fun c_1 => ?_) (fun c_1 => ?_)
  · rw [i_lt] at c_1
    have k_2 : (100 : Int32).toInt = 100 := by decide
    have k_3 : ((-1) : Int32).toInt = -1 := by decide
    exact So.one (by show (((-1) : Int32).toInt = -1 ∧ ¬ (100 ≤ a0.toInt ∧ a0.toInt < 116)) ∨ (((-1) : Int32).toInt = a0.toInt - 100 ∧ 100 ≤ a0.toInt ∧ a0.toInt < 116); omega)
  · rw [i_lt] at c_1
    have k_4 : (100 : Int32).toInt = 100 := by decide
    refine So.ite (fun c_5 => ?_) (fun c_5 => ?_)
    · rw [i_le] at c_5
      have k_6 : (116 : Int32).toInt = 116 := by decide
      have k_7 : ((-1) : Int32).toInt = -1 := by decide
      exact So.one (by show (((-1) : Int32).toInt = -1 ∧ ¬ (100 ≤ a0.toInt ∧ a0.toInt < 116)) ∨ (((-1) : Int32).toInt = a0.toInt - 100 ∧ 100 ≤ a0.toInt ∧ a0.toInt < 116); omega)
    · rw [i_le] at c_5
      have k_8 : (116 : Int32).toInt = 116 := by decide
      first | have f_9 := i_sub (a := a0) (b := 100) (by omega) (by omega) | have f_9 := i_subm a0 100
      exact So.one (by show (((a0 - 100) : Int32).toInt = -1 ∧ ¬ (100 ≤ a0.toInt ∧ a0.toInt < 116)) ∨ (((a0 - 100) : Int32).toInt = a0.toInt - 100 ∧ 100 ≤ a0.toInt ∧ a0.toInt < 116); omega)
theorem t_Desc_isRepeat {a0 : Int32}  : So (Desc_isRepeat a0) (fun r => ((r.toInt = 1 ∧ (216 ≤ a0.toInt ∧ a0.toInt ≤ 343)) ∨ (r.toInt = 0 ∧ ¬ (216 ≤ a0.toInt ∧ a0.toInt ≤ 343)))) := by
  unfold Desc_isRepeat
  refine So.ite (fun c_1 => ?_) (fun c_1 => ?_)
  · rw [i_lt] at c_1
    have k_2 : (216 : Int32).toInt = 216 := by decide
    have k_3 : (0 : Int32).toInt = 0 := by decide
    exact So.one (by show ((0 : Int32).toInt = 1 ∧ (216 ≤ a0.toInt ∧ a0.toInt ≤ 343)) ∨ ((0 : Int32).toInt = 0 ∧ ¬ (216 ≤ a0.toInt ∧ a0.toInt ≤ 343)); omega)
  · rw [i_lt] at c_1
    have k_4 : (216 : Int32).toInt = 216 := by decide
    refine So.ite (fun c_5 => ?_) (fun c_5 => ?_)
    · rw [i_lt] at c_5
      have k_6 : (343 : Int32).toInt = 343 := by decide
      have k_7 : (0 : Int32).toInt = 0 := by decide
      exact So.one (by show ((0 : Int32).toInt = 1 ∧ (216 ≤ a0.toInt ∧ a0.toInt ≤ 343)) ∨ ((0 : Int32).toInt = 0 ∧ ¬ (216 ≤ a0.toInt ∧ a0.toInt ≤ 343)); omega)
    · rw [i_lt] at c_5
      have k_8 : (343 : Int32).toInt = 343 := by decide
      have k_9 : (1 : Int32).toInt = 1 := by decide
      exact So.one (by show ((1 : Int32).toInt = 1 ∧ (216 ≤ a0.toInt ∧ a0.toInt ≤ 343)) ∨ ((1 : Int32).toInt = 0 ∧ ¬ (216 ≤ a0.toInt ∧ a0.toInt ≤ 343)); omega)
theorem t_Desc_lengthOf {a0 : Int32} (g_0 : 216 ≤ a0.toInt) (g_1 : a0.toInt ≤ 343) : So (Desc_lengthOf a0) (fun r => (1 ≤ r.toInt) ∧ (r.toInt ≤ 8)) := by
  unfold Desc_lengthOf
  have k_1 : (200 : Int32).toInt = 200 := by decide
  first | have f_2 := i_sub (a := a0) (b := 200) (by omega) (by omega) | have f_2 := i_subm a0 200
  have k_3 : (16 : Int32).toInt = 16 := by decide
  first | have f_4 := i_divk (a0 - 200) 16 16 (by decide) (by decide) (by omega) | have f_4 := i_diva (a0 - 200) 16 16 (by decide) (by decide)
  exact So.one ⟨(by show 1 ≤ (((a0 - 200) / 16) : Int32).toInt; omega), (by show (((a0 - 200) / 16) : Int32).toInt ≤ 8; omega)⟩
theorem t_Desc_timesOf {a0 : Int32} (g_0 : 216 ≤ a0.toInt) (g_1 : a0.toInt ≤ 343) : So (Desc_timesOf a0) (fun r => (0 ≤ r.toInt) ∧ (r.toInt ≤ 15)) := by
  unfold Desc_timesOf
  have k_1 : (200 : Int32).toInt = 200 := by decide
  first | have f_2 := i_sub (a := a0) (b := 200) (by omega) (by omega) | have f_2 := i_subm a0 200
  have k_3 : (16 : Int32).toInt = 16 := by decide
  first | have f_4 := i_divk (a0 - 200) 16 16 (by decide) (by decide) (by omega) | have f_4 := i_diva (a0 - 200) 16 16 (by decide) (by decide)
  first | have f_5 := i_mulr ((a0 - 200) / 16) 16 (16) (by decide) (by omega) (by omega) | have f_5 := i_mulrm ((a0 - 200) / 16) 16 (16) (by decide)
  first | have f_6 := i_sub (a := (a0 - 200)) (b := (((a0 - 200) / 16) * 16)) (by omega) (by omega) | have f_6 := i_subm (a0 - 200) (((a0 - 200) / 16) * 16)
  exact So.one ⟨(by show 0 ≤ (((a0 - 200) - (((a0 - 200) / 16) * 16)) : Int32).toInt; omega), (by show (((a0 - 200) - (((a0 - 200) / 16) * 16)) : Int32).toInt ≤ 15; omega)⟩
theorem t_Desc_operatorOf_L2 {fu : Nat} {x0_L2 : Int32} (hf : 12000 ≤ fu) : ∀ (n : Nat) (x1_L2 : Int32), (0 ≤ x1_L2.toInt) → (x1_L2.toInt ≤ 4) → (x1_L2.toInt ≤ 0 ∨ x0_L2.toInt < 400 ∨ 431 < x0_L2.toInt) → (x1_L2.toInt ≤ 1 ∨ x0_L2.toInt < 440 ∨ 455 < x0_L2.toInt) → (x1_L2.toInt ≤ 2 ∨ x0_L2.toInt < 460 ∨ 468 < x0_L2.toInt) → (x1_L2.toInt ≤ 3 ∨ x0_L2.toInt < 480 ∨ 487 < x0_L2.toInt) → (4 - x1_L2.toInt < (n : Nat)) → So (Desc_operatorOf_L2 fu x0_L2 n x1_L2) (fun r => ((r.toInt = -1 ∧ ¬ ((400 ≤ x0_L2.toInt ∧ x0_L2.toInt ≤ 431) ∨ (440 ≤ x0_L2.toInt ∧ x0_L2.toInt ≤ 455) ∨ (460 ≤ x0_L2.toInt ∧ x0_L2.toInt ≤ 468) ∨ (480 ≤ x0_L2.toInt ∧ x0_L2.toInt ≤ 487))) ∨ (0 ≤ r.toInt ∧ r.toInt < 4 ∧ 400 ≤ x0_L2.toInt ∧ x0_L2.toInt ≤ 487 ∧ ((400 ≤ x0_L2.toInt ∧ x0_L2.toInt ≤ 431) ∨ (440 ≤ x0_L2.toInt ∧ x0_L2.toInt ≤ 455) ∨ (460 ≤ x0_L2.toInt ∧ x0_L2.toInt ≤ 468) ∨ (480 ≤ x0_L2.toInt ∧ x0_L2.toInt ≤ 487)))))
  | 0, x1_L2, l_0, l_1, l_2, l_3, l_4, l_5, l_6 => absurd l_6 (by omega)
  | n + 1, x1_L2, l_0, l_1, l_2, l_3, l_4, l_5, l_6 => by
    rw [Desc_operatorOf_L2]
    refine So.ite (fun c_1 => ?_) (fun c_1 => ?_)
    · rw [i_le] at c_1
      have k_2 : (4 : Int32).toInt = 4 := by decide
      have k_3 : ((-1) : Int32).toInt = -1 := by decide
      exact So.one (by show (((-1) : Int32).toInt = -1 ∧ ¬ ((400 ≤ x0_L2.toInt ∧ x0_L2.toInt ≤ 431) ∨ (440 ≤ x0_L2.toInt ∧ x0_L2.toInt ≤ 455) ∨ (460 ≤ x0_L2.toInt ∧ x0_L2.toInt ≤ 468) ∨ (480 ≤ x0_L2.toInt ∧ x0_L2.toInt ≤ 487))) ∨ (0 ≤ ((-1) : Int32).toInt ∧ ((-1) : Int32).toInt < 4 ∧ 400 ≤ x0_L2.toInt ∧ x0_L2.toInt ≤ 487 ∧ ((400 ≤ x0_L2.toInt ∧ x0_L2.toInt ≤ 431) ∨ (440 ≤ x0_L2.toInt ∧ x0_L2.toInt ≤ 455) ∨ (460 ≤ x0_L2.toInt ∧ x0_L2.toInt ≤ 468) ∨ (480 ≤ x0_L2.toInt ∧ x0_L2.toInt ≤ 487))); omega)
    · rw [i_le] at c_1
      have k_4 : (4 : Int32).toInt = 4 := by decide
      refine So.gd (i_in.mpr (by omega)) ?_
      refine So.ite (fun c_5 => ?_) (fun c_5 => ?_)
      · rw [i_lt] at c_5
        have f_6 := cE_r (x1_L2.toNatClampNeg)
        have f_7 := i_natm x1_L2
        unfold Desc_operatorOf_j27
        have k_8 : (1 : Int32).toInt = 1 := by decide
        first | have f_9 := i_add (a := x1_L2) (b := 1) (by omega) (by omega) | have f_9 := i_addm x1_L2 1
        exact t_Desc_operatorOf_L2 hf   n _ (by show 0 ≤ (x1_L2 + 1).toInt; omega) (by show (x1_L2 + 1).toInt ≤ 4; omega) (by show (x1_L2 + 1).toInt ≤ 0 ∨ x0_L2.toInt < 400 ∨ 431 < x0_L2.toInt; omega) (by show (x1_L2 + 1).toInt ≤ 1 ∨ x0_L2.toInt < 440 ∨ 455 < x0_L2.toInt; omega) (by show (x1_L2 + 1).toInt ≤ 2 ∨ x0_L2.toInt < 460 ∨ 468 < x0_L2.toInt; omega) (by show (x1_L2 + 1).toInt ≤ 3 ∨ x0_L2.toInt < 480 ∨ 487 < x0_L2.toInt; omega) (by show 4 - (x1_L2 + 1).toInt < (n : Nat); omega)
      · rw [i_lt] at c_5
        have f_10 := cE_r (x1_L2.toNatClampNeg)
        have f_11 := i_natm x1_L2
        refine So.gd (i_in.mpr (by omega)) ?_
        refine So.ite (fun c_12 => ?_) (fun c_12 => ?_)
        · rw [i_lt] at c_12
          have f_13 := cL_r (x1_L2.toNatClampNeg)
          unfold Desc_operatorOf_j27
          have k_14 : (1 : Int32).toInt = 1 := by decide
          first | have f_15 := i_add (a := x1_L2) (b := 1) (by omega) (by omega) | have f_15 := i_addm x1_L2 1
          exact t_Desc_operatorOf_L2 hf   n _ (by show 0 ≤ (x1_L2 + 1).toInt; omega) (by show (x1_L2 + 1).toInt ≤ 4; omega) (by show (x1_L2 + 1).toInt ≤ 0 ∨ x0_L2.toInt < 400 ∨ 431 < x0_L2.toInt; omega) (by show (x1_L2 + 1).toInt ≤ 1 ∨ x0_L2.toInt < 440 ∨ 455 < x0_L2.toInt; omega) (by show (x1_L2 + 1).toInt ≤ 2 ∨ x0_L2.toInt < 460 ∨ 468 < x0_L2.toInt; omega) (by show (x1_L2 + 1).toInt ≤ 3 ∨ x0_L2.toInt < 480 ∨ 487 < x0_L2.toInt; omega) (by show 4 - (x1_L2 + 1).toInt < (n : Nat); omega)
        · rw [i_lt] at c_12
          have f_16 := cL_r (x1_L2.toNatClampNeg)
          exact So.one (by show ((x1_L2 : Int32).toInt = -1 ∧ ¬ ((400 ≤ x0_L2.toInt ∧ x0_L2.toInt ≤ 431) ∨ (440 ≤ x0_L2.toInt ∧ x0_L2.toInt ≤ 455) ∨ (460 ≤ x0_L2.toInt ∧ x0_L2.toInt ≤ 468) ∨ (480 ≤ x0_L2.toInt ∧ x0_L2.toInt ≤ 487))) ∨ (0 ≤ (x1_L2 : Int32).toInt ∧ (x1_L2 : Int32).toInt < 4 ∧ 400 ≤ x0_L2.toInt ∧ x0_L2.toInt ≤ 487 ∧ ((400 ≤ x0_L2.toInt ∧ x0_L2.toInt ≤ 431) ∨ (440 ≤ x0_L2.toInt ∧ x0_L2.toInt ≤ 455) ∨ (460 ≤ x0_L2.toInt ∧ x0_L2.toInt ≤ 468) ∨ (480 ≤ x0_L2.toInt ∧ x0_L2.toInt ≤ 487))); omega)
theorem t_Desc_operatorOf {fu : Nat} {a0 : Int32} (hf : 12000 ≤ fu) : So (Desc_operatorOf fu a0) (fun r => ((r.toInt = -1 ∧ ¬ ((400 ≤ a0.toInt ∧ a0.toInt ≤ 431) ∨ (440 ≤ a0.toInt ∧ a0.toInt ≤ 455) ∨ (460 ≤ a0.toInt ∧ a0.toInt ≤ 468) ∨ (480 ≤ a0.toInt ∧ a0.toInt ≤ 487))) ∨ (0 ≤ r.toInt ∧ r.toInt < 4 ∧ 400 ≤ a0.toInt ∧ a0.toInt ≤ 487 ∧ ((400 ≤ a0.toInt ∧ a0.toInt ≤ 431) ∨ (440 ≤ a0.toInt ∧ a0.toInt ≤ 455) ∨ (460 ≤ a0.toInt ∧ a0.toInt ≤ 468) ∨ (480 ≤ a0.toInt ∧ a0.toInt ≤ 487))))) := by
  unfold Desc_operatorOf
  have k_1 : (0 : Int32).toInt = 0 := by decide
  refine So.imp (t_Desc_operatorOf_L2 hf fu _ (by show 0 ≤ (0 : Int32).toInt; omega) (by show (0 : Int32).toInt ≤ 4; omega) (by show (0 : Int32).toInt ≤ 0 ∨ a0.toInt < 400 ∨ 431 < a0.toInt; omega) (by show (0 : Int32).toInt ≤ 1 ∨ a0.toInt < 440 ∨ 455 < a0.toInt; omega) (by show (0 : Int32).toInt ≤ 2 ∨ a0.toInt < 460 ∨ 468 < a0.toInt; omega) (by show (0 : Int32).toInt ≤ 3 ∨ a0.toInt < 480 ∨ 487 < a0.toInt; omega) (by show 4 - (0 : Int32).toInt < (fu : Nat); omega)) fun q_z h_z => ?_
  have p_2 := h_z
  exact (by show (q_z.toInt = -1 ∧ ¬ ((400 ≤ a0.toInt ∧ a0.toInt ≤ 431) ∨ (440 ≤ a0.toInt ∧ a0.toInt ≤ 455) ∨ (460 ≤ a0.toInt ∧ a0.toInt ≤ 468) ∨ (480 ≤ a0.toInt ∧ a0.toInt ≤ 487))) ∨ (0 ≤ q_z.toInt ∧ q_z.toInt < 4 ∧ 400 ≤ a0.toInt ∧ a0.toInt ≤ 487 ∧ ((400 ≤ a0.toInt ∧ a0.toInt ≤ 431) ∨ (440 ≤ a0.toInt ∧ a0.toInt ≤ 455) ∨ (460 ≤ a0.toInt ∧ a0.toInt ≤ 468) ∨ (480 ≤ a0.toInt ∧ a0.toInt ≤ 487))); omega)
theorem t_Desc_settingOf {a0 : Int32} {a1 : Int32} (g_0 : 0 ≤ a1.toInt) (g_1 : a1.toInt < 4) : So (Desc_settingOf a0 a1) (fun r => (a0.toInt < 400 ∨ 487 < a0.toInt ∨ (-80 ≤ r.toInt ∧ r.toInt ≤ 87))) := by
  unfold Desc_settingOf
  refine So.gd (i_in.mpr (by omega)) ?_
  have f_1 := cE_r (a1.toNatClampNeg)
  have f_2 := i_natm a1
  first | have f_3 := i_sub (a := a0) (b := (cE (a1.toNatClampNeg))) (by omega) (by omega) | have f_3 := i_subm a0 (cE (a1.toNatClampNeg))
  exact So.one (by show a0.toInt < 400 ∨ 487 < a0.toInt ∨ (-80 ≤ ((a0 - (cE (a1.toNatClampNeg))) : Int32).toInt ∧ ((a0 - (cE (a1.toNatClampNeg))) : Int32).toInt ≤ 87); omega)
theorem t_Desc_addedWidth {a0 : Int32}  : So (Desc_addedWidth a0) (fun r => (a0.toInt < -80 ∨ 87 < a0.toInt ∨ (-96 ≤ r.toInt ∧ r.toInt ≤ 87))) := by
  unfold Desc_addedWidth
  refine So.ite (fun c_1 => ?_) (fun c_1 => ?_)
  · rw [i_eq] at c_1
    have k_2 : (0 : Int32).toInt = 0 := by decide
    exact So.one (by show a0.toInt < -80 ∨ 87 < a0.toInt ∨ (-96 ≤ (0 : Int32).toInt ∧ (0 : Int32).toInt ≤ 87); omega)
  · rw [i_eq] at c_1
    have k_3 : (0 : Int32).toInt = 0 := by decide
    have k_4 : (16 : Int32).toInt = 16 := by decide
    first | have f_5 := i_sub (a := a0) (b := 16) (by omega) (by omega) | have f_5 := i_subm a0 16
    exact So.one (by show a0.toInt < -80 ∨ 87 < a0.toInt ∨ (-96 ≤ ((a0 - 16) : Int32).toInt ∧ ((a0 - 16) : Int32).toInt ≤ 87); omega)
theorem t_Desc_addedScale {a0 : Int32}  : So (Desc_addedScale a0) (fun r => True) := by
  unfold Desc_addedScale
  refine So.ite (fun c_1 => ?_) (fun c_1 => ?_)
  · rw [i_eq] at c_1
    have k_2 : (0 : Int32).toInt = 0 := by decide
    exact So.one trivial
  · rw [i_eq] at c_1
    have k_3 : (0 : Int32).toInt = 0 := by decide
    exact So.one trivial
theorem t_Desc_bitsOf {a0 : Int32}  : So (Desc_bitsOf a0) (fun r => ((r.toInt = -1 ∧ ¬ (500 < a0.toInt ∧ a0.toInt ≤ 516)) ∨ (r.toInt = a0.toInt - 500 ∧ 500 < a0.toInt ∧ a0.toInt ≤ 516))) := by
  unfold Desc_bitsOf
  refine So.ite (fun c_1 => ?_) (fun c_1 => ?_)
  · rw [i_le] at c_1
    have k_2 : (500 : Int32).toInt = 500 := by decide
    have k_3 : ((-1) : Int32).toInt = -1 := by decide
    exact So.one (by show (((-1) : Int32).toInt = -1 ∧ ¬ (500 < a0.toInt ∧ a0.toInt ≤ 516)) ∨ (((-1) : Int32).toInt = a0.toInt - 500 ∧ 500 < a0.toInt ∧ a0.toInt ≤ 516); omega)
  · rw [i_le] at c_1
    have k_4 : (500 : Int32).toInt = 500 := by decide
    refine So.ite (fun c_5 => ?_) (fun c_5 => ?_)
    · rw [i_lt] at c_5
      have k_6 : (516 : Int32).toInt = 516 := by decide
      have k_7 : ((-1) : Int32).toInt = -1 := by decide
      exact So.one (by show (((-1) : Int32).toInt = -1 ∧ ¬ (500 < a0.toInt ∧ a0.toInt ≤ 516)) ∨ (((-1) : Int32).toInt = a0.toInt - 500 ∧ 500 < a0.toInt ∧ a0.toInt ≤ 516); omega)
    · rw [i_lt] at c_5
      have k_8 : (516 : Int32).toInt = 516 := by decide
      first | have f_9 := i_sub (a := a0) (b := 500) (by omega) (by omega) | have f_9 := i_subm a0 500
      exact So.one (by show (((a0 - 500) : Int32).toInt = -1 ∧ ¬ (500 < a0.toInt ∧ a0.toInt ≤ 516)) ∨ (((a0 - 500) : Int32).toInt = a0.toInt - 500 ∧ 500 < a0.toInt ∧ a0.toInt ≤ 516); omega)
theorem t_Desc_isMark {a0 : Int32}  : So (Desc_isMark a0) (fun r => ((r.toInt = 1 ∧ (a0.toInt = 520)) ∨ (r.toInt = 0 ∧ ¬ (a0.toInt = 520)))) := by
  unfold Desc_isMark
  refine So.ite (fun c_1 => ?_) (fun c_1 => ?_)
  · rw [i_eq] at c_1
    have k_2 : (520 : Int32).toInt = 520 := by decide
    have k_3 : (1 : Int32).toInt = 1 := by decide
    exact So.one (by show ((1 : Int32).toInt = 1 ∧ (a0.toInt = 520)) ∨ ((1 : Int32).toInt = 0 ∧ ¬ (a0.toInt = 520)); omega)
  · rw [i_eq] at c_1
    have k_4 : (520 : Int32).toInt = 520 := by decide
    have k_5 : (0 : Int32).toInt = 0 := by decide
    exact So.one (by show ((0 : Int32).toInt = 1 ∧ (a0.toInt = 520)) ∨ ((0 : Int32).toInt = 0 ∧ ¬ (a0.toInt = 520)); omega)
theorem t_Desc_isKnown {fu : Nat} {a0 : Int32} (hf : 12000 ≤ fu) : So (Desc_isKnown fu a0) (fun r => ((r.toInt = 1 ∧ (((0 ≤ a0.toInt ∧ a0.toInt ≤ 63) ∨ (100 ≤ a0.toInt ∧ a0.toInt ≤ 115) ∨ (216 ≤ a0.toInt ∧ a0.toInt ≤ 343) ∨ ((400 ≤ a0.toInt ∧ a0.toInt ≤ 431) ∨ (440 ≤ a0.toInt ∧ a0.toInt ≤ 455) ∨ (460 ≤ a0.toInt ∧ a0.toInt ≤ 468) ∨ (480 ≤ a0.toInt ∧ a0.toInt ≤ 487)) ∨ (501 ≤ a0.toInt ∧ a0.toInt ≤ 516) ∨ a0.toInt = 520))) ∨ (r.toInt = 0 ∧ ¬ (((0 ≤ a0.toInt ∧ a0.toInt ≤ 63) ∨ (100 ≤ a0.toInt ∧ a0.toInt ≤ 115) ∨ (216 ≤ a0.toInt ∧ a0.toInt ≤ 343) ∨ ((400 ≤ a0.toInt ∧ a0.toInt ≤ 431) ∨ (440 ≤ a0.toInt ∧ a0.toInt ≤ 455) ∨ (460 ≤ a0.toInt ∧ a0.toInt ≤ 468) ∨ (480 ≤ a0.toInt ∧ a0.toInt ≤ 487)) ∨ (501 ≤ a0.toInt ∧ a0.toInt ≤ 516) ∨ a0.toInt = 520))))) := by
  unfold Desc_isKnown
  refine So.bd (t_Desc_isElement ) fun q1 h_1 => ?_
  have p_2 := h_1
  refine So.ite (fun c_3 => ?_) (fun c_3 => ?_)
  · rw [i_eq] at c_3
    have k_4 : (0 : Int32).toInt = 0 := by decide
    refine So.bd (t_Desc_sequenceOf ) fun q2 h_5 => ?_
    have p_6 := h_5
    refine So.ite (fun c_7 => ?_) (fun c_7 => ?_)
    · rw [i_eq] at c_7
      have k_8 : ((-1) : Int32).toInt = -1 := by decide
      refine So.bd (t_Desc_isRepeat ) fun q3 h_9 => ?_
      have p_10 := h_9
      refine So.ite (fun c_11 => ?_) (fun c_11 => ?_)
      · rw [i_eq] at c_11
        refine So.bd (t_Desc_operatorOf hf) fun q4 h_12 => ?_
        have p_13 := h_12
        refine So.ite (fun c_14 => ?_) (fun c_14 => ?_)
        · rw [i_eq] at c_14
          refine So.bd (t_Desc_bitsOf ) fun q5 h_15 => ?_
          have p_16 := h_15
          refine So.ite (fun c_17 => ?_) (fun c_17 => ?_)
          · rw [i_eq] at c_17
            refine So.bd (t_Desc_isMark ) fun q6 h_18 => ?_
            have p_19 := h_18
            refine So.ite (fun c_20 => ?_) (fun c_20 => ?_)
            · rw [i_eq] at c_20
              exact So.one (by show ((0 : Int32).toInt = 1 ∧ (((0 ≤ a0.toInt ∧ a0.toInt ≤ 63) ∨ (100 ≤ a0.toInt ∧ a0.toInt ≤ 115) ∨ (216 ≤ a0.toInt ∧ a0.toInt ≤ 343) ∨ ((400 ≤ a0.toInt ∧ a0.toInt ≤ 431) ∨ (440 ≤ a0.toInt ∧ a0.toInt ≤ 455) ∨ (460 ≤ a0.toInt ∧ a0.toInt ≤ 468) ∨ (480 ≤ a0.toInt ∧ a0.toInt ≤ 487)) ∨ (501 ≤ a0.toInt ∧ a0.toInt ≤ 516) ∨ a0.toInt = 520))) ∨ ((0 : Int32).toInt = 0 ∧ ¬ (((0 ≤ a0.toInt ∧ a0.toInt ≤ 63) ∨ (100 ≤ a0.toInt ∧ a0.toInt ≤ 115) ∨ (216 ≤ a0.toInt ∧ a0.toInt ≤ 343) ∨ ((400 ≤ a0.toInt ∧ a0.toInt ≤ 431) ∨ (440 ≤ a0.toInt ∧ a0.toInt ≤ 455) ∨ (460 ≤ a0.toInt ∧ a0.toInt ≤ 468) ∨ (480 ≤ a0.toInt ∧ a0.toInt ≤ 487)) ∨ (501 ≤ a0.toInt ∧ a0.toInt ≤ 516) ∨ a0.toInt = 520))); omega)
            · rw [i_eq] at c_20
              have k_21 : (1 : Int32).toInt = 1 := by decide
              exact So.one (by show ((1 : Int32).toInt = 1 ∧ (((0 ≤ a0.toInt ∧ a0.toInt ≤ 63) ∨ (100 ≤ a0.toInt ∧ a0.toInt ≤ 115) ∨ (216 ≤ a0.toInt ∧ a0.toInt ≤ 343) ∨ ((400 ≤ a0.toInt ∧ a0.toInt ≤ 431) ∨ (440 ≤ a0.toInt ∧ a0.toInt ≤ 455) ∨ (460 ≤ a0.toInt ∧ a0.toInt ≤ 468) ∨ (480 ≤ a0.toInt ∧ a0.toInt ≤ 487)) ∨ (501 ≤ a0.toInt ∧ a0.toInt ≤ 516) ∨ a0.toInt = 520))) ∨ ((1 : Int32).toInt = 0 ∧ ¬ (((0 ≤ a0.toInt ∧ a0.toInt ≤ 63) ∨ (100 ≤ a0.toInt ∧ a0.toInt ≤ 115) ∨ (216 ≤ a0.toInt ∧ a0.toInt ≤ 343) ∨ ((400 ≤ a0.toInt ∧ a0.toInt ≤ 431) ∨ (440 ≤ a0.toInt ∧ a0.toInt ≤ 455) ∨ (460 ≤ a0.toInt ∧ a0.toInt ≤ 468) ∨ (480 ≤ a0.toInt ∧ a0.toInt ≤ 487)) ∨ (501 ≤ a0.toInt ∧ a0.toInt ≤ 516) ∨ a0.toInt = 520))); omega)
          · rw [i_eq] at c_17
            have k_22 : (1 : Int32).toInt = 1 := by decide
            exact So.one (by show ((1 : Int32).toInt = 1 ∧ (((0 ≤ a0.toInt ∧ a0.toInt ≤ 63) ∨ (100 ≤ a0.toInt ∧ a0.toInt ≤ 115) ∨ (216 ≤ a0.toInt ∧ a0.toInt ≤ 343) ∨ ((400 ≤ a0.toInt ∧ a0.toInt ≤ 431) ∨ (440 ≤ a0.toInt ∧ a0.toInt ≤ 455) ∨ (460 ≤ a0.toInt ∧ a0.toInt ≤ 468) ∨ (480 ≤ a0.toInt ∧ a0.toInt ≤ 487)) ∨ (501 ≤ a0.toInt ∧ a0.toInt ≤ 516) ∨ a0.toInt = 520))) ∨ ((1 : Int32).toInt = 0 ∧ ¬ (((0 ≤ a0.toInt ∧ a0.toInt ≤ 63) ∨ (100 ≤ a0.toInt ∧ a0.toInt ≤ 115) ∨ (216 ≤ a0.toInt ∧ a0.toInt ≤ 343) ∨ ((400 ≤ a0.toInt ∧ a0.toInt ≤ 431) ∨ (440 ≤ a0.toInt ∧ a0.toInt ≤ 455) ∨ (460 ≤ a0.toInt ∧ a0.toInt ≤ 468) ∨ (480 ≤ a0.toInt ∧ a0.toInt ≤ 487)) ∨ (501 ≤ a0.toInt ∧ a0.toInt ≤ 516) ∨ a0.toInt = 520))); omega)
        · rw [i_eq] at c_14
          have k_23 : (1 : Int32).toInt = 1 := by decide
          exact So.one (by show ((1 : Int32).toInt = 1 ∧ (((0 ≤ a0.toInt ∧ a0.toInt ≤ 63) ∨ (100 ≤ a0.toInt ∧ a0.toInt ≤ 115) ∨ (216 ≤ a0.toInt ∧ a0.toInt ≤ 343) ∨ ((400 ≤ a0.toInt ∧ a0.toInt ≤ 431) ∨ (440 ≤ a0.toInt ∧ a0.toInt ≤ 455) ∨ (460 ≤ a0.toInt ∧ a0.toInt ≤ 468) ∨ (480 ≤ a0.toInt ∧ a0.toInt ≤ 487)) ∨ (501 ≤ a0.toInt ∧ a0.toInt ≤ 516) ∨ a0.toInt = 520))) ∨ ((1 : Int32).toInt = 0 ∧ ¬ (((0 ≤ a0.toInt ∧ a0.toInt ≤ 63) ∨ (100 ≤ a0.toInt ∧ a0.toInt ≤ 115) ∨ (216 ≤ a0.toInt ∧ a0.toInt ≤ 343) ∨ ((400 ≤ a0.toInt ∧ a0.toInt ≤ 431) ∨ (440 ≤ a0.toInt ∧ a0.toInt ≤ 455) ∨ (460 ≤ a0.toInt ∧ a0.toInt ≤ 468) ∨ (480 ≤ a0.toInt ∧ a0.toInt ≤ 487)) ∨ (501 ≤ a0.toInt ∧ a0.toInt ≤ 516) ∨ a0.toInt = 520))); omega)
      · rw [i_eq] at c_11
        have k_24 : (1 : Int32).toInt = 1 := by decide
        exact So.one (by show ((1 : Int32).toInt = 1 ∧ (((0 ≤ a0.toInt ∧ a0.toInt ≤ 63) ∨ (100 ≤ a0.toInt ∧ a0.toInt ≤ 115) ∨ (216 ≤ a0.toInt ∧ a0.toInt ≤ 343) ∨ ((400 ≤ a0.toInt ∧ a0.toInt ≤ 431) ∨ (440 ≤ a0.toInt ∧ a0.toInt ≤ 455) ∨ (460 ≤ a0.toInt ∧ a0.toInt ≤ 468) ∨ (480 ≤ a0.toInt ∧ a0.toInt ≤ 487)) ∨ (501 ≤ a0.toInt ∧ a0.toInt ≤ 516) ∨ a0.toInt = 520))) ∨ ((1 : Int32).toInt = 0 ∧ ¬ (((0 ≤ a0.toInt ∧ a0.toInt ≤ 63) ∨ (100 ≤ a0.toInt ∧ a0.toInt ≤ 115) ∨ (216 ≤ a0.toInt ∧ a0.toInt ≤ 343) ∨ ((400 ≤ a0.toInt ∧ a0.toInt ≤ 431) ∨ (440 ≤ a0.toInt ∧ a0.toInt ≤ 455) ∨ (460 ≤ a0.toInt ∧ a0.toInt ≤ 468) ∨ (480 ≤ a0.toInt ∧ a0.toInt ≤ 487)) ∨ (501 ≤ a0.toInt ∧ a0.toInt ≤ 516) ∨ a0.toInt = 520))); omega)
    · rw [i_eq] at c_7
      have k_25 : ((-1) : Int32).toInt = -1 := by decide
      have k_26 : (1 : Int32).toInt = 1 := by decide
      exact So.one (by show ((1 : Int32).toInt = 1 ∧ (((0 ≤ a0.toInt ∧ a0.toInt ≤ 63) ∨ (100 ≤ a0.toInt ∧ a0.toInt ≤ 115) ∨ (216 ≤ a0.toInt ∧ a0.toInt ≤ 343) ∨ ((400 ≤ a0.toInt ∧ a0.toInt ≤ 431) ∨ (440 ≤ a0.toInt ∧ a0.toInt ≤ 455) ∨ (460 ≤ a0.toInt ∧ a0.toInt ≤ 468) ∨ (480 ≤ a0.toInt ∧ a0.toInt ≤ 487)) ∨ (501 ≤ a0.toInt ∧ a0.toInt ≤ 516) ∨ a0.toInt = 520))) ∨ ((1 : Int32).toInt = 0 ∧ ¬ (((0 ≤ a0.toInt ∧ a0.toInt ≤ 63) ∨ (100 ≤ a0.toInt ∧ a0.toInt ≤ 115) ∨ (216 ≤ a0.toInt ∧ a0.toInt ≤ 343) ∨ ((400 ≤ a0.toInt ∧ a0.toInt ≤ 431) ∨ (440 ≤ a0.toInt ∧ a0.toInt ≤ 455) ∨ (460 ≤ a0.toInt ∧ a0.toInt ≤ 468) ∨ (480 ≤ a0.toInt ∧ a0.toInt ≤ 487)) ∨ (501 ≤ a0.toInt ∧ a0.toInt ≤ 516) ∨ a0.toInt = 520))); omega)
  · rw [i_eq] at c_3
    have k_27 : (0 : Int32).toInt = 0 := by decide
    have k_28 : (1 : Int32).toInt = 1 := by decide
    exact So.one (by show ((1 : Int32).toInt = 1 ∧ (((0 ≤ a0.toInt ∧ a0.toInt ≤ 63) ∨ (100 ≤ a0.toInt ∧ a0.toInt ≤ 115) ∨ (216 ≤ a0.toInt ∧ a0.toInt ≤ 343) ∨ ((400 ≤ a0.toInt ∧ a0.toInt ≤ 431) ∨ (440 ≤ a0.toInt ∧ a0.toInt ≤ 455) ∨ (460 ≤ a0.toInt ∧ a0.toInt ≤ 468) ∨ (480 ≤ a0.toInt ∧ a0.toInt ≤ 487)) ∨ (501 ≤ a0.toInt ∧ a0.toInt ≤ 516) ∨ a0.toInt = 520))) ∨ ((1 : Int32).toInt = 0 ∧ ¬ (((0 ≤ a0.toInt ∧ a0.toInt ≤ 63) ∨ (100 ≤ a0.toInt ∧ a0.toInt ≤ 115) ∨ (216 ≤ a0.toInt ∧ a0.toInt ≤ 343) ∨ ((400 ≤ a0.toInt ∧ a0.toInt ≤ 431) ∨ (440 ≤ a0.toInt ∧ a0.toInt ≤ 455) ∨ (460 ≤ a0.toInt ∧ a0.toInt ≤ 468) ∨ (480 ≤ a0.toInt ∧ a0.toInt ≤ 487)) ∨ (501 ≤ a0.toInt ∧ a0.toInt ≤ 516) ∨ a0.toInt = 520))); omega)
theorem t_Tab_entryOf {a0 : Int32} {a1 : Int32}  : So (Tab_entryOf a0 a1) (fun r => ((r.toInt = -1 ∧ ¬ (-1 ≤ a0.toInt ∧ a0.toInt < 4 ∧ 0 ≤ a1.toInt ∧ a1.toInt < 64)) ∨ (0 ≤ r.toInt ∧ r.toInt < 320 ∧ -1 ≤ a0.toInt ∧ a0.toInt < 4 ∧ 0 ≤ a1.toInt ∧ a1.toInt < 64))) := by
  unfold Tab_entryOf
  refine So.ite (fun c_1 => ?_) (fun c_1 => ?_)
  · rw [i_lt] at c_1
    have k_2 : ((-1) : Int32).toInt = -1 := by decide
    exact So.one (by show (((-1) : Int32).toInt = -1 ∧ ¬ (-1 ≤ a0.toInt ∧ a0.toInt < 4 ∧ 0 ≤ a1.toInt ∧ a1.toInt < 64)) ∨ (0 ≤ ((-1) : Int32).toInt ∧ ((-1) : Int32).toInt < 320 ∧ -1 ≤ a0.toInt ∧ a0.toInt < 4 ∧ 0 ≤ a1.toInt ∧ a1.toInt < 64); omega)
  · rw [i_lt] at c_1
    have k_3 : ((-1) : Int32).toInt = -1 := by decide
    refine So.ite (fun c_4 => ?_) (fun c_4 => ?_)
    · rw [i_le] at c_4
      have k_5 : (4 : Int32).toInt = 4 := by decide
      exact So.one (by show (((-1) : Int32).toInt = -1 ∧ ¬ (-1 ≤ a0.toInt ∧ a0.toInt < 4 ∧ 0 ≤ a1.toInt ∧ a1.toInt < 64)) ∨ (0 ≤ ((-1) : Int32).toInt ∧ ((-1) : Int32).toInt < 320 ∧ -1 ≤ a0.toInt ∧ a0.toInt < 4 ∧ 0 ≤ a1.toInt ∧ a1.toInt < 64); omega)
    · rw [i_le] at c_4
      have k_6 : (4 : Int32).toInt = 4 := by decide
      refine So.bd (t_Desc_isElement ) fun q1 h_7 => ?_
      have p_8 := h_7
      refine So.ite (fun c_9 => ?_) (fun c_9 => ?_)
      · rw [i_eq] at c_9
        have k_10 : (0 : Int32).toInt = 0 := by decide
        exact So.one (by show (((-1) : Int32).toInt = -1 ∧ ¬ (-1 ≤ a0.toInt ∧ a0.toInt < 4 ∧ 0 ≤ a1.toInt ∧ a1.toInt < 64)) ∨ (0 ≤ ((-1) : Int32).toInt ∧ ((-1) : Int32).toInt < 320 ∧ -1 ≤ a0.toInt ∧ a0.toInt < 4 ∧ 0 ≤ a1.toInt ∧ a1.toInt < 64); omega)
      · rw [i_eq] at c_9
        have k_11 : (0 : Int32).toInt = 0 := by decide
        refine So.ite (fun c_12 => ?_) (fun c_12 => ?_)
        · rw [i_eq] at c_12
          refine So.bd (t_Tab_entryAt (by show 0 ≤ (4 : Int32).toInt; omega) (by show (4 : Int32).toInt ≤ 4; omega) (by show 0 ≤ a1.toInt; omega) (by show a1.toInt < 64; omega)) fun q3 h_13 => ?_
          obtain ⟨p_14, p_15⟩ := h_13
          exact So.one (by show ((q3 : Int32).toInt = -1 ∧ ¬ (-1 ≤ a0.toInt ∧ a0.toInt < 4 ∧ 0 ≤ a1.toInt ∧ a1.toInt < 64)) ∨ (0 ≤ (q3 : Int32).toInt ∧ (q3 : Int32).toInt < 320 ∧ -1 ≤ a0.toInt ∧ a0.toInt < 4 ∧ 0 ≤ a1.toInt ∧ a1.toInt < 64); omega)
        · rw [i_eq] at c_12
          refine So.bd (t_Tab_entryAt (by show 0 ≤ a0.toInt; omega) (by show a0.toInt ≤ 4; omega) (by show 0 ≤ a1.toInt; omega) (by show a1.toInt < 64; omega)) fun q2 h_16 => ?_
          obtain ⟨p_17, p_18⟩ := h_16
          exact So.one (by show ((q2 : Int32).toInt = -1 ∧ ¬ (-1 ≤ a0.toInt ∧ a0.toInt < 4 ∧ 0 ≤ a1.toInt ∧ a1.toInt < 64)) ∨ (0 ≤ (q2 : Int32).toInt ∧ (q2 : Int32).toInt < 320 ∧ -1 ≤ a0.toInt ∧ a0.toInt < 4 ∧ 0 ≤ a1.toInt ∧ a1.toInt < 64); omega)
theorem t_Tab_inForce_L24 {fu : Nat} {sTab : S_Tab} {x1_L24 : Int32} (hf : 12000 ≤ fu) (I_sTab : I_Tab sTab) (g_0 : 0 ≤ x1_L24.toInt) (g_1 : x1_L24.toInt < 64) : ∀ (n : Nat) (x2_L24 : Int32), (-1 ≤ x2_L24.toInt) → (x2_L24.toInt ≤ 3) → (x2_L24.toInt + 1 < (n : Nat)) → So (Tab_inForce_L24 fu sTab x1_L24 n x2_L24) (fun r => (r.toInt = -1 ∨ (0 ≤ r.toInt ∧ r.toInt < 320)))
  | 0, x2_L24, l_0, l_1, l_2 => absurd l_2 (by omega)
  | n + 1, x2_L24, l_0, l_1, l_2 => by
    rw [Tab_inForce_L24]
    refine So.ite (fun c_1 => ?_) (fun c_1 => ?_)
    · rw [i_lt] at c_1
      have k_2 : (0 : Int32).toInt = 0 := by decide
      have k_3 : ((-1) : Int32).toInt = -1 := by decide
      exact So.one (by show ((-1) : Int32).toInt = -1 ∨ (0 ≤ ((-1) : Int32).toInt ∧ ((-1) : Int32).toInt < 320); omega)
    · rw [i_lt] at c_1
      have k_4 : (0 : Int32).toInt = 0 := by decide
      refine So.bd (t_Tab_entryAt (by show 0 ≤ x2_L24.toInt; omega) (by show x2_L24.toInt ≤ 4; omega) (by show 0 ≤ x1_L24.toInt; omega) (by show x1_L24.toInt < 64; omega)) fun q3 h_5 => ?_
      obtain ⟨p_6, p_7⟩ := h_5
      refine So.gd (i_in.mpr (by omega)) ?_
      refine So.ite (fun c_8 => ?_) (fun c_8 => ?_)
      · rw [i_le] at c_8
        have f_9 := I_Tab_widths I_sTab (q3.toNatClampNeg)
        have k_10 : ((-1) : Int32).toInt = -1 := by decide
        first | have f_11 := i_add (a := x2_L24) (b := (-1)) (by omega) (by omega) | have f_11 := i_addm x2_L24 (-1)
        exact t_Tab_inForce_L24 hf I_sTab (by show 0 ≤ x1_L24.toInt; ((try generalize (x2_L24 + (-1)).toInt = gv0 at *); omega)) (by show x1_L24.toInt < 64; ((try generalize (x2_L24 + (-1)).toInt = gv0 at *); omega))   n _ (by show -1 ≤ (x2_L24 + (-1)).toInt; ((try generalize (x2_L24 + (-1)).toInt = gv0 at *); omega)) (by show (x2_L24 + (-1)).toInt ≤ 3; ((try generalize (x2_L24 + (-1)).toInt = gv0 at *); omega)) (by show (x2_L24 + (-1)).toInt + 1 < (n : Nat); ((try generalize (x2_L24 + (-1)).toInt = gv0 at *); omega))
      · rw [i_le] at c_8
        have f_12 := I_Tab_widths I_sTab (q3.toNatClampNeg)
        refine So.bd (t_Tab_entryAt (by show 0 ≤ x2_L24.toInt; omega) (by show x2_L24.toInt ≤ 4; omega) (by show 0 ≤ x1_L24.toInt; omega) (by show x1_L24.toInt < 64; omega)) fun q5 h_13 => ?_
        obtain ⟨p_14, p_15⟩ := h_13
        exact So.one (by show (q5 : Int32).toInt = -1 ∨ (0 ≤ (q5 : Int32).toInt ∧ (q5 : Int32).toInt < 320); omega)
theorem t_Tab_inForce {fu : Nat} {sTab : S_Tab} {a0 : Int32} (hf : 12000 ≤ fu) (I_sTab : I_Tab sTab) (g_0 : 0 ≤ a0.toInt) (g_1 : a0.toInt < 64) : So (Tab_inForce fu sTab a0) (fun r => (r.toInt = -1 ∨ (0 ≤ r.toInt ∧ r.toInt < 320))) := by
  unfold Tab_inForce
  have k_1 : (4 : Int32).toInt = 4 := by decide
  refine So.bd (t_Tab_entryAt (by show 0 ≤ (4 : Int32).toInt; omega) (by show (4 : Int32).toInt ≤ 4; omega) (by show 0 ≤ a0.toInt; omega) (by show a0.toInt < 64; omega)) fun q1 h_2 => ?_
  obtain ⟨p_3, p_4⟩ := h_2
  refine So.gd (i_in.mpr (by omega)) ?_
  refine So.ite (fun c_5 => ?_) (fun c_5 => ?_)
  · rw [i_le] at c_5
    have f_6 := I_Tab_widths I_sTab (q1.toNatClampNeg)
    have k_7 : (0 : Int32).toInt = 0 := by decide
    have f_8 := I_Tab_versionInUse I_sTab
    refine So.imp (t_Tab_inForce_L24 hf I_sTab (by show 0 ≤ a0.toInt; omega) (by show a0.toInt < 64; omega) fu _ (by show -1 ≤ (Tab_versionInUse sTab).toInt; omega) (by show (Tab_versionInUse sTab).toInt ≤ 3; omega) (by show (Tab_versionInUse sTab).toInt + 1 < (fu : Nat); omega)) fun q_z h_z => ?_
    have p_9 := h_z
    exact (by show q_z.toInt = -1 ∨ (0 ≤ q_z.toInt ∧ q_z.toInt < 320); omega)
  · rw [i_le] at c_5
    have f_10 := I_Tab_widths I_sTab (q1.toNatClampNeg)
    have k_11 : (0 : Int32).toInt = 0 := by decide
    refine So.bd (t_Tab_entryAt (by show 0 ≤ (4 : Int32).toInt; omega) (by show (4 : Int32).toInt ≤ 4; omega) (by show 0 ≤ a0.toInt; omega) (by show a0.toInt < 64; omega)) fun q8 h_12 => ?_
    obtain ⟨p_13, p_14⟩ := h_12
    exact So.one (by show (q8 : Int32).toInt = -1 ∨ (0 ≤ (q8 : Int32).toInt ∧ (q8 : Int32).toInt < 320); omega)
theorem t_Tab_extend {a0 : Int32} {a1 : Int32} {sTab : S_Tab} (I_sTab : I_Tab sTab) (g_0 : 0 ≤ a0.toInt) (g_1 : a0.toInt ≤ 16) (g_2 : (a0.toInt = 16 ∧ (Tab_sizes sTab a0.toNatClampNeg).toInt < 24) ∨ (a0.toInt < 16 ∧ (Tab_sizes sTab a0.toNatClampNeg).toInt < 8)) : So (Tab_extend a0 a1 sTab) (fun r => I_Tab r.2) := by
  unfold Tab_extend
  refine So.bd (t_Tab_endOf I_sTab (by show 0 ≤ a0.toInt; omega) (by show a0.toInt ≤ 16; omega)) fun q1 h_1 => ?_
  obtain ⟨p_2, p_3, p_4⟩ := h_1
  refine So.gd (i_in.mpr (by omega)) ?_
  refine So.lt2 fun sTab_3 e_5 => ?_
  have I_6 : I_Tab sTab_3 := by rw [e_5]; exact (I_Tab_put_listed I_sTab)
  refine So.gd (i_in.mpr (by omega)) ?_
  refine So.gd (i_in.mpr (by omega)) ?_
  have f_8 : (Tab_sizes sTab_3 (a0.toNatClampNeg)).toInt = (Tab_sizes sTab (a0.toNatClampNeg)).toInt := by subst e_5; rfl
  have f_9 := I_Tab_sizes I_sTab (a0.toNatClampNeg)
  have f_10 := i_natm a0
  have f_11 := I_Tab_sizes I_6 (a0.toNatClampNeg)
  have k_12 : (1 : Int32).toInt = 1 := by decide
  first | have f_13 := i_add (a := (Tab_sizes sTab_3 (a0.toNatClampNeg))) (b := 1) (by omega) (by omega) | have f_13 := i_addm (Tab_sizes sTab_3 (a0.toNatClampNeg)) 1
  refine So.lt2 fun sTab_6 e_7 => ?_
  have I_14 : I_Tab sTab_6 := by rw [e_7]; exact (I_Tab_put_sizes I_6 (by show 0 ≤ (((Tab_sizes sTab_3 (a0.toNatClampNeg)) + 1) : Int32).toInt ∧ (((Tab_sizes sTab_3 (a0.toNatClampNeg)) + 1) : Int32).toInt ≤ 24 ∧ ((a0.toNatClampNeg) < 16 → (((Tab_sizes sTab_3 (a0.toNatClampNeg)) + 1) : Int32).toInt ≤ 8); omega))
  refine So.gd (i_in.mpr (by omega)) ?_
  exact So.one I_14
theorem t_Prog_fail {a0 : Int32} {sProg : S_Prog} (I_sProg : I_Prog sProg) : So (Prog_fail a0 sProg) (fun r => I_Prog r ∧ ((Prog_size r).toInt = (Prog_size sProg).toInt) ∧ ((Prog_open r).toInt = (Prog_open sProg).toInt)) := by
  unfold Prog_fail
  refine So.lt2 fun sProg_1 e_1 => ?_
  have I_2 : I_Prog sProg_1 := by rw [e_1]; exact (I_Prog_set_fault I_sProg)
  have f_3 : (Prog_size sProg_1).toInt = (Prog_size sProg).toInt := by subst e_1; rfl
  have f_4 : (Prog_open sProg_1).toInt = (Prog_open sProg).toInt := by subst e_1; rfl
  have f_5 : (Prog_templatePlace sProg_1).toInt = (Prog_templatePlace sProg).toInt := by subst e_1; rfl
  refine So.lt2 fun sProg_2 e_6 => ?_
  have I_7 : I_Prog sProg_2 := by rw [e_6]; exact (I_Prog_set_place I_2)
  have f_8 : (Prog_size sProg_2).toInt = (Prog_size sProg_1).toInt := by subst e_6; rfl
  have f_9 : (Prog_open sProg_2).toInt = (Prog_open sProg_1).toInt := by subst e_6; rfl
  have f_10 : (Prog_templatePlace sProg_2).toInt = (Prog_templatePlace sProg_1).toInt := by subst e_6; rfl
  exact So.one ⟨I_7, (by show (Prog_size sProg_2).toInt = (Prog_size sProg).toInt; omega), (by show (Prog_open sProg_2).toInt = (Prog_open sProg).toInt; omega)⟩
theorem t_Prog_openList {a0 : Int32} {a1 : Int32} {a2 : Int32} {a3 : Int32} {sProg : S_Prog} (I_sProg : I_Prog sProg) (g_0 : 0 ≤ a0.toInt) (g_1 : a0.toInt ≤ 152) (g_2 : 0 ≤ a1.toInt) (g_3 : a1.toInt ≤ 152) (g_4 : -1 ≤ a3.toInt) (g_5 : a3.toInt ≤ 999) : So (Prog_openList a0 a1 a2 a3 sProg) (fun r => I_Prog r) := by
  unfold Prog_openList
  refine So.ite (fun c_1 => ?_) (fun c_1 => ?_)
  · rw [i_lt] at c_1
    have f_2 := I_Prog_open I_sProg
    have k_3 : (64 : Int32).toInt = 64 := by decide
    refine So.gd (i_in.mpr (by omega)) ?_
    refine So.lt2 fun sProg_2 e_4 => ?_
    have I_5 : I_Prog sProg_2 := by rw [e_4]; exact (I_Prog_put_openAts I_sProg (by show 0 ≤ (a0 : Int32).toInt ∧ (a0 : Int32).toInt ≤ 152; omega))
    have f_6 : (Prog_open sProg_2).toInt = (Prog_open sProg).toInt := by subst e_4; rfl
    have f_7 := I_Prog_open I_5
    refine So.gd (i_in.mpr (by omega)) ?_
    refine So.lt2 fun sProg_4 e_8 => ?_
    have I_9 : I_Prog sProg_4 := by rw [e_8]; exact (I_Prog_put_openEnds I_5 (by show 0 ≤ (a1 : Int32).toInt ∧ (a1 : Int32).toInt ≤ 152; omega))
    have f_10 : (Prog_open sProg_4).toInt = (Prog_open sProg_2).toInt := by subst e_8; rfl
    have f_11 := I_Prog_open I_9
    refine So.gd (i_in.mpr (by omega)) ?_
    refine So.lt2 fun sProg_6 e_12 => ?_
    have I_13 : I_Prog sProg_6 := by rw [e_12]; exact (I_Prog_put_openSequences I_9)
    have f_14 : (Prog_open sProg_6).toInt = (Prog_open sProg_4).toInt := by subst e_12; rfl
    have f_15 := I_Prog_open I_13
    refine So.gd (i_in.mpr (by omega)) ?_
    refine So.lt2 fun sProg_8 e_16 => ?_
    have I_17 : I_Prog sProg_8 := by rw [e_16]; exact (I_Prog_put_openRepeats I_13 (by show -1 ≤ (a3 : Int32).toInt ∧ (a3 : Int32).toInt ≤ 999; omega))
    have f_18 : (Prog_open sProg_8).toInt = (Prog_open sProg_6).toInt := by subst e_16; rfl
    have k_19 : (0 : Int32).toInt = 0 := by decide
    have f_20 := I_Prog_open I_17
    have k_21 : (4 : Int32).toInt = 4 := by decide
    first | have f_22 := i_mulr (Prog_open sProg_8) 4 (4) (by decide) (by omega) (by omega) | have f_22 := i_mulrm (Prog_open sProg_8) 4 (4) (by decide)
    refine So.gd (i_cp (by omega) (by omega) (by omega) (by omega) (by omega)) ?_
    refine So.lt2 fun sProg_9 e_23 => ?_
    have I_24 : I_Prog sProg_9 := by rw [e_23]; exact (I_Prog_set_foundSettings I_17)
    have f_25 : (Prog_open sProg_9).toInt = (Prog_open sProg_8).toInt := by subst e_23; rfl
    have f_27 := I_Prog_open I_24
    have k_28 : (1 : Int32).toInt = 1 := by decide
    first | have f_29 := i_add (a := (Prog_open sProg_9)) (b := 1) (by omega) (by omega) | have f_29 := i_addm (Prog_open sProg_9) 1
    refine So.lt2 fun sProg_10 e_26 => ?_
    have I_30 : I_Prog sProg_10 := by rw [e_26]; exact (I_Prog_set_open I_24 (by show 0 ≤ (((Prog_open sProg_9) + 1) : Int32).toInt ∧ (((Prog_open sProg_9) + 1) : Int32).toInt ≤ 64; omega))
    have f_31 : (Prog_open sProg_10).toInt = (((Prog_open sProg_9) + 1) : Int32).toInt := by subst e_26; rfl
    exact So.one I_30
  · rw [i_lt] at c_1
    have f_32 := I_Prog_open I_sProg
    have k_33 : (64 : Int32).toInt = 64 := by decide
    have f_34 := I_Prog_size I_sProg
    refine So.bd (t_Prog_fail I_sProg) fun q11 h_35 => ?_
    obtain ⟨p_36, p_37, p_38⟩ := h_35
    exact So.one p_36
theorem t_Prog_closeList_L12 {fu : Nat} {sProg_L12 : S_Prog} {ke_12 : Option (S_Prog)} {P : S_Prog → Prop} (hf : 12000 ≤ fu) (I_sProg_L12 : I_Prog sProg_L12) (g_0 : (Prog_open sProg_L12).toInt < 64) (hke_12 : So (ke_12 ) P) (hP : ∀ r, I_Prog r → P r) : ∀ (n : Nat) (x1_L12 : Int32), (0 ≤ x1_L12.toInt) → (x1_L12.toInt ≤ 4) → (4 - x1_L12.toInt < (n : Nat)) → So (Prog_closeList_L12 fu sProg_L12 ke_12 n x1_L12) P
  | 0, x1_L12, l_0, l_1, l_2 => absurd l_2 (by omega)
  | n + 1, x1_L12, l_0, l_1, l_2 => by
    rw [Prog_closeList_L12]
    refine So.ite (fun c_1 => ?_) (fun c_1 => ?_)
    · rw [i_le] at c_1
      have k_2 : (4 : Int32).toInt = 4 := by decide
      exact hke_12  
    · rw [i_le] at c_1
      have k_3 : (4 : Int32).toInt = 4 := by decide
      refine So.gd (i_in.mpr (by omega)) ?_
      have f_4 := I_Prog_open I_sProg_L12
      first | have f_5 := i_mulr (Prog_open sProg_L12) 4 (4) (by decide) (by omega) (by omega) | have f_5 := i_mulrm (Prog_open sProg_L12) 4 (4) (by decide)
      first | have f_6 := i_add (a := ((Prog_open sProg_L12) * 4)) (b := x1_L12) (by omega) (by omega) | have f_6 := i_addm ((Prog_open sProg_L12) * 4) x1_L12
      refine So.gd (i_in.mpr (by omega)) ?_
      refine So.ite (fun c_7 => ?_) (fun c_7 => ?_)
      · rw [i_eq] at c_7
        have k_8 : (1 : Int32).toInt = 1 := by decide
        first | have f_9 := i_add (a := x1_L12) (b := 1) (by omega) (by omega) | have f_9 := i_addm x1_L12 1
        exact t_Prog_closeList_L12 hf I_sProg_L12 (by show (Prog_open sProg_L12).toInt < 64; omega) hke_12 hP n _ (by show 0 ≤ (x1_L12 + 1).toInt; omega) (by show (x1_L12 + 1).toInt ≤ 4; omega) (by show 4 - (x1_L12 + 1).toInt < (n : Nat); omega)
      · rw [i_eq] at c_7
        have f_10 := I_Prog_size I_sProg_L12
        refine So.bd (t_Prog_fail I_sProg_L12) fun q4 h_11 => ?_
        obtain ⟨p_12, p_13, p_14⟩ := h_11
        exact So.one (hP _ p_12)
theorem t_Prog_closeList {fu : Nat} {sProg : S_Prog} (hf : 12000 ≤ fu) (I_sProg : I_Prog sProg) (g_0 : 0 < (Prog_open sProg).toInt) : So (Prog_closeList fu sProg) (fun r => I_Prog r) := by
  unfold Prog_closeList
  have f_2 := I_Prog_open I_sProg
  have k_3 : (1 : Int32).toInt = 1 := by decide
  first | have f_4 := i_sub (a := (Prog_open sProg)) (b := 1) (by omega) (by omega) | have f_4 := i_subm (Prog_open sProg) 1
  refine So.lt2 fun sProg_1 e_1 => ?_
  have I_5 : I_Prog sProg_1 := by rw [e_1]; exact (I_Prog_set_open I_sProg (by show 0 ≤ (((Prog_open sProg) - 1) : Int32).toInt ∧ (((Prog_open sProg) - 1) : Int32).toInt ≤ 64; omega))
  have f_6 : (Prog_size sProg_1).toInt = (Prog_size sProg).toInt := by subst e_1; rfl
  have f_7 : (Prog_open sProg_1).toInt = (((Prog_open sProg) - 1) : Int32).toInt := by subst e_1; rfl
  have f_8 := I_Prog_open I_5
  have k_9 : (0 : Int32).toInt = 0 := by decide
  refine t_Prog_closeList_L12 hf I_5 (by show (Prog_open sProg_1).toInt < 64; omega) ?_ ?_ fu _ (by show 0 ≤ (0 : Int32).toInt; omega) (by show (0 : Int32).toInt ≤ 4; omega) (by show 4 - (0 : Int32).toInt < (fu : Nat); omega)
  · unfold Prog_closeList_j51
    refine So.gd (i_in.mpr (by omega)) ?_
    refine So.ite (fun c_10 => ?_) (fun c_10 => ?_)
    · rw [i_eq] at c_10
      have f_11 : (Prog_openRepeats sProg_1 ((Prog_open sProg_1).toNatClampNeg)).toInt = (Prog_openRepeats sProg ((Prog_open sProg_1).toNatClampNeg)).toInt := by subst e_1; rfl
      have f_12 := I_Prog_openRepeats I_sProg ((Prog_open sProg_1).toNatClampNeg)
      have f_13 := I_Prog_openRepeats I_5 ((Prog_open sProg_1).toNatClampNeg)
      have k_14 : ((-1) : Int32).toInt = -1 := by decide
      exact So.one I_5
    · rw [i_eq] at c_10
      have f_15 : (Prog_openRepeats sProg_1 ((Prog_open sProg_1).toNatClampNeg)).toInt = (Prog_openRepeats sProg ((Prog_open sProg_1).toNatClampNeg)).toInt := by subst e_1; rfl
      have f_16 := I_Prog_openRepeats I_sProg ((Prog_open sProg_1).toNatClampNeg)
      have f_17 := I_Prog_openRepeats I_5 ((Prog_open sProg_1).toNatClampNeg)
      have k_18 : ((-1) : Int32).toInt = -1 := by decide
      refine So.gd (i_in.mpr (by omega)) ?_
      refine So.gd (i_in.mpr (by omega)) ?_
      refine So.lt2 fun sProg_10 e_19 => ?_
      have I_20 : I_Prog sProg_10 := by rw [e_19]; exact (I_Prog_put_bodyEnds I_5)
      have f_21 : (Prog_size sProg_10).toInt = (Prog_size sProg_1).toInt := by subst e_19; rfl
      have f_22 : (Prog_open sProg_10).toInt = (Prog_open sProg_1).toInt := by subst e_19; rfl
      exact So.one I_20
  · intro q_z h_z
    have p_23 := h_z
    exact p_23
theorem t_Prog_takeUp {a0 : Int32} {a1 : Int32} {sProg : S_Prog} (I_sProg : I_Prog sProg) : So (Prog_takeUp a0 a1 sProg) (fun r => I_Prog r.2 ∧ (r.1.toInt = 0 ∨ 0 < (Prog_size r.2).toInt) ∧ ((Prog_open r.2).toInt = (Prog_open sProg).toInt)) := by
  unfold Prog_takeUp
  refine So.ite (fun c_1 => ?_) (fun c_1 => ?_)
  · rw [i_lt] at c_1
    have k_2 : (128 : Int32).toInt = 128 := by decide
    unfold Prog_takeUp_j16
    refine So.ite (fun c_3 => ?_) (fun c_3 => ?_)
    · rw [i_lt] at c_3
      have f_4 := I_Prog_size I_sProg
      have k_5 : (1000 : Int32).toInt = 1000 := by decide
      refine So.gd (i_in.mpr (by omega)) ?_
      refine So.lt2 fun sProg_4 e_6 => ?_
      have I_7 : I_Prog sProg_4 := by rw [e_6]; exact (I_Prog_put_descriptors I_sProg)
      have f_8 : (Prog_size sProg_4).toInt = (Prog_size sProg).toInt := by subst e_6; rfl
      have f_9 : (Prog_open sProg_4).toInt = (Prog_open sProg).toInt := by subst e_6; rfl
      have f_11 := I_Prog_size I_7
      have k_12 : (1 : Int32).toInt = 1 := by decide
      first | have f_13 := i_add (a := (Prog_size sProg_4)) (b := 1) (by omega) (by omega) | have f_13 := i_addm (Prog_size sProg_4) 1
      refine So.lt2 fun sProg_5 e_10 => ?_
      have I_14 : I_Prog sProg_5 := by rw [e_10]; exact (I_Prog_set_size I_7 (by show 0 ≤ (((Prog_size sProg_4) + 1) : Int32).toInt ∧ (((Prog_size sProg_4) + 1) : Int32).toInt ≤ 1000; omega))
      have f_15 : (Prog_size sProg_5).toInt = (((Prog_size sProg_4) + 1) : Int32).toInt := by subst e_10; rfl
      have f_16 : (Prog_open sProg_5).toInt = (Prog_open sProg_4).toInt := by subst e_10; rfl
      exact So.one ⟨I_14, (by show (1 : Int32).toInt = 0 ∨ 0 < (Prog_size sProg_5).toInt; omega), (by show (Prog_open sProg_5).toInt = (Prog_open sProg).toInt; omega)⟩
    · rw [i_lt] at c_3
      have f_17 := I_Prog_size I_sProg
      have k_18 : (1000 : Int32).toInt = 1000 := by decide
      have f_19 := I_Prog_open I_sProg
      refine So.bd (t_Prog_fail I_sProg) fun q6 h_20 => ?_
      obtain ⟨p_21, p_22, p_23⟩ := h_20
      have k_24 : (0 : Int32).toInt = 0 := by decide
      exact So.one ⟨p_21, (by show (0 : Int32).toInt = 0 ∨ 0 < (Prog_size q6).toInt; omega), (by show (Prog_open q6).toInt = (Prog_open sProg).toInt; omega)⟩
  · rw [i_lt] at c_1
    have k_25 : (128 : Int32).toInt = 128 := by decide
    refine So.lt2 fun sProg_1 e_26 => ?_
    have I_27 : I_Prog sProg_1 := by rw [e_26]; exact (I_Prog_set_templatePlace I_sProg)
    first | have f_28 := i_sub (a := a0) (b := 128) (by omega) (by omega) | have f_28 := i_subm a0 128
    have f_29 : (Prog_size sProg_1).toInt = (Prog_size sProg).toInt := by subst e_26; rfl
    have f_30 : (Prog_open sProg_1).toInt = (Prog_open sProg).toInt := by subst e_26; rfl
    unfold Prog_takeUp_j16
    refine So.ite (fun c_31 => ?_) (fun c_31 => ?_)
    · rw [i_lt] at c_31
      have f_32 := I_Prog_size I_27
      have k_33 : (1000 : Int32).toInt = 1000 := by decide
      refine So.gd (i_in.mpr (by omega)) ?_
      refine So.lt2 fun sProg_4 e_34 => ?_
      have I_35 : I_Prog sProg_4 := by rw [e_34]; exact (I_Prog_put_descriptors I_27)
      have f_36 : (Prog_size sProg_4).toInt = (Prog_size sProg_1).toInt := by subst e_34; rfl
      have f_37 : (Prog_open sProg_4).toInt = (Prog_open sProg_1).toInt := by subst e_34; rfl
      have f_39 := I_Prog_size I_35
      have k_40 : (1 : Int32).toInt = 1 := by decide
      first | have f_41 := i_add (a := (Prog_size sProg_4)) (b := 1) (by omega) (by omega) | have f_41 := i_addm (Prog_size sProg_4) 1
      refine So.lt2 fun sProg_5 e_38 => ?_
      have I_42 : I_Prog sProg_5 := by rw [e_38]; exact (I_Prog_set_size I_35 (by show 0 ≤ (((Prog_size sProg_4) + 1) : Int32).toInt ∧ (((Prog_size sProg_4) + 1) : Int32).toInt ≤ 1000; omega))
      have f_43 : (Prog_size sProg_5).toInt = (((Prog_size sProg_4) + 1) : Int32).toInt := by subst e_38; rfl
      have f_44 : (Prog_open sProg_5).toInt = (Prog_open sProg_4).toInt := by subst e_38; rfl
      exact So.one ⟨I_42, (by show (1 : Int32).toInt = 0 ∨ 0 < (Prog_size sProg_5).toInt; omega), (by show (Prog_open sProg_5).toInt = (Prog_open sProg).toInt; omega)⟩
    · rw [i_lt] at c_31
      have f_45 := I_Prog_size I_27
      have k_46 : (1000 : Int32).toInt = 1000 := by decide
      have f_47 := I_Prog_open I_27
      refine So.bd (t_Prog_fail I_27) fun q6 h_48 => ?_
      obtain ⟨p_49, p_50, p_51⟩ := h_48
      have k_52 : (0 : Int32).toInt = 0 := by decide
      exact So.one ⟨p_49, (by show (0 : Int32).toInt = 0 ∨ 0 < (Prog_size q6).toInt; omega), (by show (Prog_open q6).toInt = (Prog_open sProg).toInt; omega)⟩
theorem t_Prog_lookAtElement {fu : Nat} {sTab : S_Tab} {a0 : Int32} {sProg : S_Prog} (hf : 12000 ≤ fu) (I_sTab : I_Tab sTab) (I_sProg : I_Prog sProg) (g_0 : 0 ≤ a0.toInt) (g_1 : a0.toInt < 64) : So (Prog_lookAtElement fu sTab a0 sProg) (fun r => I_Prog r) := by
  unfold Prog_lookAtElement
  refine So.bd (t_Tab_inForce hf I_sTab (by show 0 ≤ a0.toInt; omega) (by show a0.toInt < 64; omega)) fun q1 h_1 => ?_
  have p_2 := h_1
  refine So.ite (fun c_3 => ?_) (fun c_3 => ?_)
  · rw [i_eq] at c_3
    have k_4 : ((-1) : Int32).toInt = -1 := by decide
    have f_5 := I_Prog_size I_sProg
    have f_6 := I_Prog_open I_sProg
    refine So.bd (t_Prog_fail I_sProg) fun q16 h_7 => ?_
    obtain ⟨p_8, p_9, p_10⟩ := h_7
    exact So.one p_8
  · rw [i_eq] at c_3
    have k_11 : ((-1) : Int32).toInt = -1 := by decide
    refine So.gd (i_in.mpr (by omega)) ?_
    have k_12 : (0 : Int32).toInt = 0 := by decide
    refine So.gd (i_in.mpr (by omega)) ?_
    refine So.bd (t_Desc_addedWidth ) fun q4 h_13 => ?_
    have p_14 := h_13
    refine So.lt2 fun u5 e_15 => ?_
    have f_16 := I_Tab_widths I_sTab (q1.toNatClampNeg)
    first | have f_17 := i_add (a := (Tab_widths sTab (q1.toNatClampNeg))) (b := q4) (by omega) (by omega) | have f_17 := i_addm (Tab_widths sTab (q1.toNatClampNeg)) q4
    have f_18 : u5.toInt = ((Tab_widths sTab (q1.toNatClampNeg)) + q4).toInt := by rw [e_15]
    refine So.gd (i_in.mpr (by omega)) ?_
    have k_19 : (1 : Int32).toInt = 1 := by decide
    refine So.gd (i_in.mpr (by omega)) ?_
    refine So.bd (t_Desc_addedScale ) fun q8 h_20 => ?_
    refine So.lt2 fun u9 e_21 => ?_
    first | have f_22 := i_add (a := (Tab_scales sTab (q1.toNatClampNeg))) (b := q8) (by omega) (by omega) | have f_22 := i_addm (Tab_scales sTab (q1.toNatClampNeg)) q8
    have f_23 : u9.toInt = ((Tab_scales sTab (q1.toNatClampNeg)) + q8).toInt := by rw [e_21]
    refine So.bd (t_Tab_isWidth ) fun q10 h_24 => ?_
    have p_25 := h_24
    refine So.ite (fun c_26 => ?_) (fun c_26 => ?_)
    · rw [i_eq] at c_26
      have f_27 := I_Prog_size I_sProg
      have f_28 := I_Prog_open I_sProg
      refine So.bd (t_Prog_fail I_sProg) fun q11 h_29 => ?_
      obtain ⟨p_30, p_31, p_32⟩ := h_29
      exact So.one p_30
    · rw [i_eq] at c_26
      refine So.bd (t_Tab_isScale ) fun q12 h_33 => ?_
      have p_34 := h_33
      refine So.ite (fun c_35 => ?_) (fun c_35 => ?_)
      · rw [i_eq] at c_35
        have f_36 := I_Prog_size I_sProg
        have f_37 := I_Prog_open I_sProg
        refine So.bd (t_Prog_fail I_sProg) fun q13 h_38 => ?_
        obtain ⟨p_39, p_40, p_41⟩ := h_38
        exact So.one p_39
      · rw [i_eq] at c_35
        exact So.one I_sProg
theorem t_Prog_isTooDeep_L4 {fu : Nat} {sProg : S_Prog} {x1_L4 : Int32} {ke_4 : Int32 → Option (Int32)} {P : Int32 → Prop} (hf : 12000 ≤ fu) (I_sProg : I_Prog sProg) (hke_4 : ∀ (y0 : Int32), So (ke_4 y0) P) (hP : ∀ r, True → P r) : ∀ (n : Nat) (x2_L4 : Int32) (x3_L4 : Int32), (0 ≤ x3_L4.toInt) → (x3_L4.toInt ≤ 64) → (64 - x3_L4.toInt < (n : Nat)) → So (Prog_isTooDeep_L4 fu sProg x1_L4 ke_4 n x2_L4 x3_L4) P
  | 0, x2_L4, x3_L4, l_0, l_1, l_2 => absurd l_2 (by omega)
  | n + 1, x2_L4, x3_L4, l_0, l_1, l_2 => by
    rw [Prog_isTooDeep_L4]
    refine So.ite (fun c_1 => ?_) (fun c_1 => ?_)
    · rw [i_le] at c_1
      have f_2 := I_Prog_open I_sProg
      exact hke_4 _ 
    · rw [i_le] at c_1
      have f_3 := I_Prog_open I_sProg
      refine So.gd (i_in.mpr (by omega)) ?_
      refine So.ite (fun c_4 => ?_) (fun c_4 => ?_)
      · rw [i_eq] at c_4
        exact So.one (hP _ trivial)
      · rw [i_eq] at c_4
        refine So.gd (i_in.mpr (by omega)) ?_
        refine So.ite (fun c_5 => ?_) (fun c_5 => ?_)
        · rw [i_eq] at c_5
          have k_6 : ((-1) : Int32).toInt = -1 := by decide
          unfold Prog_isTooDeep_j37
          have k_7 : (1 : Int32).toInt = 1 := by decide
          first | have f_8 := i_add (a := x3_L4) (b := 1) (by omega) (by omega) | have f_8 := i_addm x3_L4 1
          exact t_Prog_isTooDeep_L4 hf I_sProg hke_4 hP n _ _ (by show 0 ≤ (x3_L4 + 1).toInt; omega) (by show (x3_L4 + 1).toInt ≤ 64; omega) (by show 64 - (x3_L4 + 1).toInt < (n : Nat); omega)
        · rw [i_eq] at c_5
          have k_9 : ((-1) : Int32).toInt = -1 := by decide
          unfold Prog_isTooDeep_j37
          have k_10 : (1 : Int32).toInt = 1 := by decide
          first | have f_11 := i_add (a := x3_L4) (b := 1) (by omega) (by omega) | have f_11 := i_addm x3_L4 1
          exact t_Prog_isTooDeep_L4 hf I_sProg hke_4 hP n _ _ (by show 0 ≤ (x3_L4 + 1).toInt; omega) (by show (x3_L4 + 1).toInt ≤ 64; omega) (by show 64 - (x3_L4 + 1).toInt < (n : Nat); omega)
theorem t_Prog_isTooDeep {fu : Nat} {sProg : S_Prog} {a0 : Int32} (hf : 12000 ≤ fu) (I_sProg : I_Prog sProg) : So (Prog_isTooDeep fu sProg a0) (fun r => True) := by
  unfold Prog_isTooDeep
  have k_1 : (0 : Int32).toInt = 0 := by decide
  refine t_Prog_isTooDeep_L4 hf I_sProg ?_ ?_ fu _ _ (by show 0 ≤ (0 : Int32).toInt; omega) (by show (0 : Int32).toInt ≤ 64; omega) (by show 64 - (0 : Int32).toInt < (fu : Nat); omega)
  · intro y2
    unfold Prog_isTooDeep_j43
    refine So.ite (fun c_2 => ?_) (fun c_2 => ?_)
    · rw [i_lt] at c_2
      have k_3 : (6 : Int32).toInt = 6 := by decide
      exact So.one trivial
    · rw [i_lt] at c_2
      have k_4 : (6 : Int32).toInt = 6 := by decide
      exact So.one trivial
  · intro q_z h_z
    exact trivial
theorem t_Prog_lookAtSequence {fu : Nat} {sTab : S_Tab} {a0 : Int32} {sProg : S_Prog} (hf : 12000 ≤ fu) (I_sTab : I_Tab sTab) (I_sProg : I_Prog sProg) (g_0 : 0 ≤ a0.toInt) (g_1 : a0.toInt < 16) : So (Prog_lookAtSequence fu sTab a0 sProg) (fun r => I_Prog r) := by
  unfold Prog_lookAtSequence
  refine So.gd (i_in.mpr (by omega)) ?_
  refine So.ite (fun c_1 => ?_) (fun c_1 => ?_)
  · rw [i_eq] at c_1
    have f_2 := I_Tab_sizes I_sTab (a0.toNatClampNeg)
    have f_3 := i_natm a0
    have k_4 : (0 : Int32).toInt = 0 := by decide
    have f_5 := I_Prog_size I_sProg
    have f_6 := I_Prog_open I_sProg
    refine So.bd (t_Prog_fail I_sProg) fun q8 h_7 => ?_
    obtain ⟨p_8, p_9, p_10⟩ := h_7
    exact So.one p_8
  · rw [i_eq] at c_1
    have f_11 := I_Tab_sizes I_sTab (a0.toNatClampNeg)
    have f_12 := i_natm a0
    have k_13 : (0 : Int32).toInt = 0 := by decide
    refine So.bd (t_Prog_isTooDeep hf I_sProg) fun q2 h_14 => ?_
    refine So.ite (fun c_15 => ?_) (fun c_15 => ?_)
    · rw [i_eq] at c_15
      refine So.bd (t_Tab_startOf (by show 0 ≤ a0.toInt; omega) (by show a0.toInt ≤ 16; omega)) fun q3 h_16 => ?_
      have p_17 := h_16
      refine So.bd (t_Tab_endOf I_sTab (by show 0 ≤ a0.toInt; omega) (by show a0.toInt ≤ 16; omega)) fun q4 h_18 => ?_
      obtain ⟨p_19, p_20, p_21⟩ := h_18
      have k_22 : ((-1) : Int32).toInt = -1 := by decide
      refine So.bd (t_Prog_openList I_sProg (by show 0 ≤ q3.toInt; omega) (by show q3.toInt ≤ 152; omega) (by show 0 ≤ q4.toInt; omega) (by show q4.toInt ≤ 152; omega) (by show -1 ≤ ((-1) : Int32).toInt; omega) (by show ((-1) : Int32).toInt ≤ 999; omega)) fun q5 h_23 => ?_
      have p_24 := h_23
      exact So.one p_24
    · rw [i_eq] at c_15
      have f_25 := I_Prog_size I_sProg
      have f_26 := I_Prog_open I_sProg
      refine So.bd (t_Prog_fail I_sProg) fun q6 h_27 => ?_
      obtain ⟨p_28, p_29, p_30⟩ := h_27
      exact So.one p_28
theorem t_Prog_lookAtRepeat_j139 {fu : Nat} {sTab : S_Tab} {x3_j139 : Int32} {x5_j139 : Int32} {x6_j139 : Int32} {x7_j139 : Int32} {sProg_j139 : S_Prog} (hf : 12000 ≤ fu) (I_sTab : I_Tab sTab) (I_sProg_j139 : I_Prog sProg_j139) (g_0 : 0 ≤ x3_j139.toInt) (g_1 : x3_j139.toInt < 64) (g_2 : 0 ≤ x5_j139.toInt) (g_3 : x5_j139.toInt ≤ 152) (g_4 : 0 ≤ x6_j139.toInt) (g_5 : x6_j139.toInt ≤ 152) (g_6 : -1 ≤ x7_j139.toInt) (g_7 : x7_j139.toInt ≤ 999) : So (Prog_lookAtRepeat_j139 fu sTab x3_j139 x5_j139 x6_j139 x7_j139 sProg_j139) (fun r => I_Prog r) := by
  unfold Prog_lookAtRepeat_j139
  refine So.ite (fun c_1 => ?_) (fun c_1 => ?_)
  · rw [i_eq] at c_1
    have k_2 : (0 : Int32).toInt = 0 := by decide
    refine So.gd (i_in.mpr (by omega)) ?_
    refine So.lt2 fun sProg_22 e_3 => ?_
    have I_4 : I_Prog sProg_22 := by rw [e_3]; exact (I_Prog_put_openAts I_sProg_j139 (by show 0 ≤ (x6_j139 : Int32).toInt ∧ (x6_j139 : Int32).toInt ≤ 152; omega))
    have f_5 : (Prog_fault sProg_22).toInt = (Prog_fault sProg_j139).toInt := by subst e_3; rfl
    have f_6 : (Prog_open sProg_22).toInt = (Prog_open sProg_j139).toInt := by subst e_3; rfl
    refine So.bd (t_Prog_openList I_4 (by show 0 ≤ x5_j139.toInt; omega) (by show x5_j139.toInt ≤ 152; omega) (by show 0 ≤ x6_j139.toInt; omega) (by show x6_j139.toInt ≤ 152; omega) (by show -1 ≤ x7_j139.toInt; omega) (by show x7_j139.toInt ≤ 999; omega)) fun q23 h_7 => ?_
    have p_8 := h_7
    exact So.one p_8
  · rw [i_eq] at c_1
    have k_9 : (0 : Int32).toInt = 0 := by decide
    exact So.one I_sProg_j139
theorem t_Prog_lookAtRepeat {fu : Nat} {sTab : S_Tab} {a0 : Int32} {a1 : Int32} {a2 : Int32} {sProg : S_Prog} (hf : 12000 ≤ fu) (I_sTab : I_Tab sTab) (I_sProg : I_Prog sProg) (g_0 : 216 ≤ a0.toInt) (g_1 : a0.toInt ≤ 343) (g_2 : 0 ≤ a1.toInt) (g_3 : a1.toInt < 152) (g_4 : 0 ≤ a2.toInt) (g_5 : a2.toInt < 64) : So (Prog_lookAtRepeat fu sTab a0 a1 a2 sProg) (fun r => I_Prog r) := by
  unfold Prog_lookAtRepeat
  refine So.bd (t_Desc_timesOf (by show 216 ≤ a0.toInt; omega) (by show a0.toInt ≤ 343; omega)) fun q1 h_1 => ?_
  obtain ⟨p_2, p_3⟩ := h_1
  refine So.ite (fun c_4 => ?_) (fun c_4 => ?_)
  · rw [i_eq] at c_4
    have k_5 : (0 : Int32).toInt = 0 := by decide
    unfold Prog_lookAtRepeat_j12
    refine So.neg (by decide) ?_
    unfold Prog_lookAtRepeat_j28
    refine So.bd (t_Desc_lengthOf (by show 216 ≤ a0.toInt; omega) (by show a0.toInt ≤ 343; omega)) fun q4 h_7 => ?_
    obtain ⟨p_8, p_9⟩ := h_7
    refine So.gd (i_in.mpr (by omega)) ?_
    refine So.ite (fun c_10 => ?_) (fun c_10 => ?_)
    · rw [i_lt] at c_10
      have f_11 := I_Prog_openEnds I_sProg (a2.toNatClampNeg)
      have k_12 : (2 : Int32).toInt = 2 := by decide
      first | have f_13 := i_add (a := a1) (b := 2) (by omega) (by omega) | have f_13 := i_addm a1 2
      first | have f_14 := i_add (a := (a1 + 2)) (b := q4) (by omega) (by omega) | have f_14 := i_addm (a1 + 2) q4
      have f_15 := I_Prog_size I_sProg
      have f_16 := I_Prog_open I_sProg
      refine So.bd (t_Prog_fail I_sProg) fun q6 h_17 => ?_
      obtain ⟨p_18, p_19, p_20⟩ := h_17
      exact So.one p_18
    · rw [i_lt] at c_10
      have f_21 := I_Prog_openEnds I_sProg (a2.toNatClampNeg)
      have k_22 : (2 : Int32).toInt = 2 := by decide
      first | have f_23 := i_add (a := a1) (b := 2) (by omega) (by omega) | have f_23 := i_addm a1 2
      first | have f_24 := i_add (a := (a1 + 2)) (b := q4) (by omega) (by omega) | have f_24 := i_addm (a1 + 2) q4
      refine So.neg (by decide) ?_
      have k_26 : (1 : Int32).toInt = 1 := by decide
      first | have f_27 := i_add (a := a1) (b := 1) (by omega) (by omega) | have f_27 := i_addm a1 1
      refine So.gd (i_in.mpr (by omega)) ?_
      refine So.bd (t_Desc_isElement ) fun q8 h_28 => ?_
      have p_29 := h_28
      refine So.ite (fun c_30 => ?_) (fun c_30 => ?_)
      · rw [i_eq] at c_30
        have f_31 := I_Prog_size I_sProg
        have f_32 := I_Prog_open I_sProg
        refine So.bd (t_Prog_fail I_sProg) fun q9 h_33 => ?_
        obtain ⟨p_34, p_35, p_36⟩ := h_33
        exact So.one p_34
      · rw [i_eq] at c_30
        unfold Prog_lookAtRepeat_j78
        refine So.neg (by decide) ?_
        refine So.gd (i_in.mpr (by omega)) ?_
        have f_38 := I_Prog_open I_sProg
        refine So.bd (t_Prog_takeUp I_sProg) fun q14 h_39 => ?_
        obtain ⟨p_40, p_41, p_42⟩ := h_39
        refine So.ite (fun c_43 => ?_) (fun c_43 => ?_)
        · rw [i_eq] at c_43
          have f_44 := I_Prog_size I_sProg
          first | have f_45 := i_sub (a := (Prog_size sProg)) (b := 1) (by omega) (by omega) | have f_45 := i_subm (Prog_size sProg) 1
          refine So.imp (t_Prog_lookAtRepeat_j139 hf I_sTab p_40 (by show 0 ≤ a2.toInt; omega) (by show a2.toInt < 64; omega) (by show 0 ≤ (a1 + 2).toInt; omega) (by show (a1 + 2).toInt ≤ 152; omega) (by show 0 ≤ ((a1 + 2) + q4).toInt; omega) (by show ((a1 + 2) + q4).toInt ≤ 152; omega) (by show -1 ≤ ((Prog_size sProg) - 1).toInt; omega) (by show ((Prog_size sProg) - 1).toInt ≤ 999; omega)) fun q_z h_z => ?_
          have p_46 := h_z
          exact p_46
        · rw [i_eq] at c_43
          refine So.gd (i_in.mpr (by omega)) ?_
          refine So.bd (t_Tab_inForce hf I_sTab (by show 0 ≤ (Tab_listed sTab ((a1 + 1).toNatClampNeg)).toInt; omega) (by show (Tab_listed sTab ((a1 + 1).toNatClampNeg)).toInt < 64; omega)) fun q16 h_47 => ?_
          have p_48 := h_47
          refine So.ite (fun c_49 => ?_) (fun c_49 => ?_)
          · rw [i_eq] at c_49
            have k_50 : ((-1) : Int32).toInt = -1 := by decide
            have f_51 := I_Prog_size p_40
            have f_52 := I_Prog_open p_40
            refine So.bd (t_Prog_fail p_40) fun q17 h_53 => ?_
            obtain ⟨p_54, p_55, p_56⟩ := h_53
            have f_57 := I_Prog_size I_sProg
            first | have f_58 := i_sub (a := (Prog_size sProg)) (b := 1) (by omega) (by omega) | have f_58 := i_subm (Prog_size sProg) 1
            refine So.imp (t_Prog_lookAtRepeat_j139 hf I_sTab p_54 (by show 0 ≤ a2.toInt; omega) (by show a2.toInt < 64; omega) (by show 0 ≤ (a1 + 2).toInt; omega) (by show (a1 + 2).toInt ≤ 152; omega) (by show 0 ≤ ((a1 + 2) + q4).toInt; omega) (by show ((a1 + 2) + q4).toInt ≤ 152; omega) (by show -1 ≤ ((Prog_size sProg) - 1).toInt; omega) (by show ((Prog_size sProg) - 1).toInt ≤ 999; omega)) fun q_z h_z => ?_
            have p_59 := h_z
            exact p_59
          · rw [i_eq] at c_49
            have k_60 : ((-1) : Int32).toInt = -1 := by decide
            have f_61 := I_Prog_size I_sProg
            first | have f_62 := i_sub (a := (Prog_size sProg)) (b := 1) (by omega) (by omega) | have f_62 := i_subm (Prog_size sProg) 1
            refine So.imp (t_Prog_lookAtRepeat_j139 hf I_sTab p_40 (by show 0 ≤ a2.toInt; omega) (by show a2.toInt < 64; omega) (by show 0 ≤ (a1 + 2).toInt; omega) (by show (a1 + 2).toInt ≤ 152; omega) (by show 0 ≤ ((a1 + 2) + q4).toInt; omega) (by show ((a1 + 2) + q4).toInt ≤ 152; omega) (by show -1 ≤ ((Prog_size sProg) - 1).toInt; omega) (by show ((Prog_size sProg) - 1).toInt ≤ 999; omega)) fun q_z h_z => ?_
            have p_63 := h_z
            exact p_63
  · rw [i_eq] at c_4
    have k_64 : (0 : Int32).toInt = 0 := by decide
    unfold Prog_lookAtRepeat_j12
    refine So.pos (by decide) ?_
    unfold Prog_lookAtRepeat_j28
    refine So.bd (t_Desc_lengthOf (by show 216 ≤ a0.toInt; omega) (by show a0.toInt ≤ 343; omega)) fun q4 h_66 => ?_
    obtain ⟨p_67, p_68⟩ := h_66
    refine So.gd (i_in.mpr (by omega)) ?_
    refine So.ite (fun c_69 => ?_) (fun c_69 => ?_)
    · rw [i_lt] at c_69
      have f_70 := I_Prog_openEnds I_sProg (a2.toNatClampNeg)
      have k_71 : (1 : Int32).toInt = 1 := by decide
      first | have f_72 := i_add (a := a1) (b := 1) (by omega) (by omega) | have f_72 := i_addm a1 1
      first | have f_73 := i_add (a := (a1 + 1)) (b := q4) (by omega) (by omega) | have f_73 := i_addm (a1 + 1) q4
      have f_74 := I_Prog_size I_sProg
      have f_75 := I_Prog_open I_sProg
      refine So.bd (t_Prog_fail I_sProg) fun q6 h_76 => ?_
      obtain ⟨p_77, p_78, p_79⟩ := h_76
      exact So.one p_77
    · rw [i_lt] at c_69
      have f_80 := I_Prog_openEnds I_sProg (a2.toNatClampNeg)
      have k_81 : (1 : Int32).toInt = 1 := by decide
      first | have f_82 := i_add (a := a1) (b := 1) (by omega) (by omega) | have f_82 := i_addm a1 1
      first | have f_83 := i_add (a := (a1 + 1)) (b := q4) (by omega) (by omega) | have f_83 := i_addm (a1 + 1) q4
      refine So.pos (by decide) ?_
      unfold Prog_lookAtRepeat_j78
      refine So.pos (by decide) ?_
      have f_86 := I_Prog_size I_sProg
      first | have f_87 := i_sub (a := (Prog_size sProg)) (b := 1) (by omega) (by omega) | have f_87 := i_subm (Prog_size sProg) 1
      refine So.imp (t_Prog_lookAtRepeat_j139 hf I_sTab I_sProg (by show 0 ≤ a2.toInt; omega) (by show a2.toInt < 64; omega) (by show 0 ≤ (a1 + 1).toInt; omega) (by show (a1 + 1).toInt ≤ 152; omega) (by show 0 ≤ ((a1 + 1) + q4).toInt; omega) (by show ((a1 + 1) + q4).toInt ≤ 152; omega) (by show -1 ≤ ((Prog_size sProg) - 1).toInt; omega) (by show ((Prog_size sProg) - 1).toInt ≤ 999; omega)) fun q_z h_z => ?_
      have p_88 := h_z
      exact p_88
theorem t_Prog_lookAtOperator {a0 : Int32} {a1 : Int32} {sProg : S_Prog} (I_sProg : I_Prog sProg) (g_0 : 0 ≤ a0.toInt) (g_1 : a0.toInt < 4) : So (Prog_lookAtOperator a0 a1 sProg) (fun r => I_Prog r) := by
  unfold Prog_lookAtOperator
  refine So.gd (i_in.mpr (by omega)) ?_
  refine So.ite (fun c_1 => ?_) (fun c_1 => ?_)
  · rw [i_eq] at c_1
    have k_2 : (0 : Int32).toInt = 0 := by decide
    unfold Prog_lookAtOperator_j14
    refine So.ite (fun c_3 => ?_) (fun c_3 => ?_)
    · rw [i_eq] at c_3
      unfold Prog_lookAtOperator_j24
      refine So.pos (by decide) ?_
      have f_5 := I_Prog_size I_sProg
      have f_6 := I_Prog_open I_sProg
      refine So.bd (t_Prog_fail I_sProg) fun q6 h_7 => ?_
      obtain ⟨p_8, p_9, p_10⟩ := h_7
      exact So.one p_8
    · rw [i_eq] at c_3
      unfold Prog_lookAtOperator_j24
      refine So.neg (by decide) ?_
      refine So.gd (i_in.mpr (by omega)) ?_
      refine So.lt2 fun sProg_5 e_12 => ?_
      have I_13 : I_Prog sProg_5 := by rw [e_12]; exact (I_Prog_put_settings I_sProg)
      exact So.one I_13
  · rw [i_eq] at c_1
    have k_14 : (0 : Int32).toInt = 0 := by decide
    unfold Prog_lookAtOperator_j14
    refine So.ite (fun c_15 => ?_) (fun c_15 => ?_)
    · rw [i_eq] at c_15
      unfold Prog_lookAtOperator_j24
      refine So.neg (by decide) ?_
      refine So.gd (i_in.mpr (by omega)) ?_
      refine So.lt2 fun sProg_5 e_17 => ?_
      have I_18 : I_Prog sProg_5 := by rw [e_17]; exact (I_Prog_put_settings I_sProg)
      exact So.one I_18
    · rw [i_eq] at c_15
      unfold Prog_lookAtOperator_j24
      refine So.pos (by decide) ?_
      have f_20 := I_Prog_size I_sProg
      have f_21 := I_Prog_open I_sProg
      refine So.bd (t_Prog_fail I_sProg) fun q6 h_22 => ?_
      obtain ⟨p_23, p_24, p_25⟩ := h_22
      exact So.one p_23
theorem t_Prog_lookAtNext {fu : Nat} {sTab : S_Tab} {sProg : S_Prog} (hf : 12000 ≤ fu) (I_sTab : I_Tab sTab) (I_sProg : I_Prog sProg) (g_0 : 0 < (Prog_open sProg).toInt) (g_1 : (Prog_openAts sProg (Prog_open sProg - 1).toNatClampNeg).toInt < (Prog_openEnds sProg (Prog_open sProg - 1).toNatClampNeg).toInt) : So (Prog_lookAtNext fu sTab sProg) (fun r => I_Prog r) := by
  unfold Prog_lookAtNext
  have f_1 := I_Prog_openEnds I_sProg (Prog_open sProg - 1).toNatClampNeg
  have f_2 := I_Prog_open I_sProg
  have k_3 : (1 : Int32).toInt = 1 := by decide
  first | have f_4 := i_sub (a := (Prog_open sProg)) (b := 1) (by omega) (by omega) | have f_4 := i_subm (Prog_open sProg) 1
  refine So.gd (i_in.mpr (by omega)) ?_
  refine So.lt2 fun u2 e_5 => ?_
  have f_6 := I_Prog_openAts I_sProg (((Prog_open sProg) - 1).toNatClampNeg)
  have f_7 : u2.toInt = (Prog_openAts sProg (((Prog_open sProg) - 1).toNatClampNeg)).toInt := by rw [e_5]
  refine So.gd (i_in.mpr (by omega)) ?_
  first | have f_9 := i_add (a := u2) (b := 1) (by omega) (by omega) | have f_9 := i_addm u2 1
  refine So.lt2 fun sProg_4 e_8 => ?_
  have I_10 : I_Prog sProg_4 := by rw [e_8]; exact (I_Prog_put_openAts I_sProg (by show 0 ≤ ((u2 + 1) : Int32).toInt ∧ ((u2 + 1) : Int32).toInt ≤ 152; omega))
  have f_11 : (Prog_open sProg_4).toInt = (Prog_open sProg).toInt := by subst e_8; rfl
  refine So.gd (i_in.mpr (by omega)) ?_
  have f_12 := I_Prog_open I_10
  refine So.bd (t_Prog_takeUp I_10) fun q6 h_13 => ?_
  obtain ⟨p_14, p_15, p_16⟩ := h_13
  refine So.ite (fun c_17 => ?_) (fun c_17 => ?_)
  · rw [i_eq] at c_17
    have k_18 : (0 : Int32).toInt = 0 := by decide
    exact So.one p_14
  · rw [i_eq] at c_17
    have k_19 : (0 : Int32).toInt = 0 := by decide
    refine So.bd (t_Desc_operatorOf hf) fun q7 h_20 => ?_
    have p_21 := h_20
    refine So.bd (t_Desc_isElement ) fun q8 h_22 => ?_
    have p_23 := h_22
    refine So.ite (fun c_24 => ?_) (fun c_24 => ?_)
    · rw [i_eq] at c_24
      refine So.bd (t_Desc_sequenceOf ) fun q9 h_25 => ?_
      have p_26 := h_25
      refine So.ite (fun c_27 => ?_) (fun c_27 => ?_)
      · rw [i_eq] at c_27
        have k_28 : ((-1) : Int32).toInt = -1 := by decide
        refine So.bd (t_Desc_isRepeat ) fun q10 h_29 => ?_
        have p_30 := h_29
        refine So.ite (fun c_31 => ?_) (fun c_31 => ?_)
        · rw [i_eq] at c_31
          refine So.ite (fun c_32 => ?_) (fun c_32 => ?_)
          · rw [i_eq] at c_32
            exact So.one p_14
          · rw [i_eq] at c_32
            refine So.bd (t_Desc_settingOf (by show 0 ≤ q7.toInt; omega) (by show q7.toInt < 4; omega)) fun q11 h_33 => ?_
            have p_34 := h_33
            refine So.bd (t_Prog_lookAtOperator p_14 (by show 0 ≤ q7.toInt; omega) (by show q7.toInt < 4; omega)) fun q12 h_35 => ?_
            have p_36 := h_35
            exact So.one p_36
        · rw [i_eq] at c_31
          refine So.bd (t_Prog_lookAtRepeat hf I_sTab p_14 (by show 216 ≤ (Tab_listed sTab (u2.toNatClampNeg)).toInt; omega) (by show (Tab_listed sTab (u2.toNatClampNeg)).toInt ≤ 343; omega) (by show 0 ≤ u2.toInt; omega) (by show u2.toInt < 152; omega) (by show 0 ≤ ((Prog_open sProg) - 1).toInt; omega) (by show ((Prog_open sProg) - 1).toInt < 64; omega)) fun q14 h_37 => ?_
          have p_38 := h_37
          exact So.one p_38
      · rw [i_eq] at c_27
        have k_39 : ((-1) : Int32).toInt = -1 := by decide
        refine So.bd (t_Desc_sequenceOf ) fun q16 h_40 => ?_
        have p_41 := h_40
        refine So.bd (t_Prog_lookAtSequence hf I_sTab p_14 (by show 0 ≤ q16.toInt; omega) (by show q16.toInt < 16; omega)) fun q17 h_42 => ?_
        have p_43 := h_42
        exact So.one p_43
    · rw [i_eq] at c_24
      refine So.bd (t_Prog_lookAtElement hf I_sTab p_14 (by show 0 ≤ (Tab_listed sTab (u2.toNatClampNeg)).toInt; omega) (by show (Tab_listed sTab (u2.toNatClampNeg)).toInt < 64; omega)) fun q19 h_44 => ?_
      have p_45 := h_44
      exact So.one p_45
theorem t_Prog_build_L53 {fu : Nat} {sTab : S_Tab} (hf : 12000 ≤ fu) (I_sTab : I_Tab sTab) : ∀ (n : Nat) (x1_L53 : Int32) (sProg_L53 : S_Prog), I_Prog sProg_L53 → (0 ≤ x1_L53.toInt) → (x1_L53.toInt ≤ 10000) → (10000 - x1_L53.toInt < (n : Nat)) → So (Prog_build_L53 fu sTab n x1_L53 sProg_L53) (fun r => I_Prog r)
  | 0, x1_L53, sProg_L53, I_sProg_L53, l_0, l_1, l_2 => absurd l_2 (by omega)
  | n + 1, x1_L53, sProg_L53, I_sProg_L53, l_0, l_1, l_2 => by
    rw [Prog_build_L53]
    refine So.ite (fun c_1 => ?_) (fun c_1 => ?_)
    · rw [i_le] at c_1
      have k_2 : (10000 : Int32).toInt = 10000 := by decide
      exact So.one I_sProg_L53
    · rw [i_le] at c_1
      have k_3 : (10000 : Int32).toInt = 10000 := by decide
      refine So.ite (fun c_4 => ?_) (fun c_4 => ?_)
      · rw [i_le] at c_4
        have f_5 := I_Prog_open I_sProg_L53
        have k_6 : (0 : Int32).toInt = 0 := by decide
        exact So.one I_sProg_L53
      · rw [i_le] at c_4
        have f_7 := I_Prog_open I_sProg_L53
        have k_8 : (0 : Int32).toInt = 0 := by decide
        refine So.ite (fun c_9 => ?_) (fun c_9 => ?_)
        · rw [i_eq] at c_9
          have k_10 : (1 : Int32).toInt = 1 := by decide
          first | have f_11 := i_sub (a := (Prog_open sProg_L53)) (b := 1) (by omega) (by omega) | have f_11 := i_subm (Prog_open sProg_L53) 1
          refine So.gd (i_in.mpr (by omega)) ?_
          refine So.gd (i_in.mpr (by omega)) ?_
          refine So.ite (fun c_12 => ?_) (fun c_12 => ?_)
          · rw [i_le] at c_12
            have f_13 := I_Prog_openEnds I_sProg_L53 (((Prog_open sProg_L53) - 1).toNatClampNeg)
            have f_14 := I_Prog_openAts I_sProg_L53 (((Prog_open sProg_L53) - 1).toNatClampNeg)
            refine So.bd (t_Prog_closeList hf I_sProg_L53 (by show 0 < (Prog_open sProg_L53).toInt; omega)) fun q11 h_15 => ?_
            have p_16 := h_15
            unfold Prog_build_j110
            first | have f_17 := i_add (a := x1_L53) (b := 1) (by omega) (by omega) | have f_17 := i_addm x1_L53 1
            exact t_Prog_build_L53 hf I_sTab   n _ _ p_16 (by show 0 ≤ (x1_L53 + 1).toInt; omega) (by show (x1_L53 + 1).toInt ≤ 10000; omega) (by show 10000 - (x1_L53 + 1).toInt < (n : Nat); omega)
          · rw [i_le] at c_12
            have f_18 := I_Prog_openEnds I_sProg_L53 (((Prog_open sProg_L53) - 1).toNatClampNeg)
            have f_19 := I_Prog_openAts I_sProg_L53 (((Prog_open sProg_L53) - 1).toNatClampNeg)
            refine So.bd (t_Prog_lookAtNext hf I_sTab I_sProg_L53 (by show 0 < (Prog_open sProg_L53).toInt; omega) (by show (Prog_openAts sProg_L53 (Prog_open sProg_L53 - 1).toNatClampNeg).toInt < (Prog_openEnds sProg_L53 (Prog_open sProg_L53 - 1).toNatClampNeg).toInt; omega)) fun q12 h_20 => ?_
            have p_21 := h_20
            unfold Prog_build_j110
            first | have f_22 := i_add (a := x1_L53) (b := 1) (by omega) (by omega) | have f_22 := i_addm x1_L53 1
            exact t_Prog_build_L53 hf I_sTab   n _ _ p_21 (by show 0 ≤ (x1_L53 + 1).toInt; omega) (by show (x1_L53 + 1).toInt ≤ 10000; omega) (by show 10000 - (x1_L53 + 1).toInt < (n : Nat); omega)
        · rw [i_eq] at c_9
          exact So.one I_sProg_L53
theorem t_Prog_build {fu : Nat} {sTab : S_Tab} {sProg : S_Prog} (hf : 12000 ≤ fu) (I_sTab : I_Tab sTab) (I_sProg : I_Prog sProg) : So (Prog_build fu sTab sProg) (fun r => I_Prog r) := by
  unfold Prog_build
  have k_2 : (0 : Int32).toInt = 0 := by decide
  refine So.lt2 fun sProg_1 e_1 => ?_
  have I_3 : I_Prog sProg_1 := by rw [e_1]; exact (I_Prog_set_size I_sProg (by show 0 ≤ (0 : Int32).toInt ∧ (0 : Int32).toInt ≤ 1000; omega))
  have f_4 : (Prog_fault sProg_1).toInt = (Prog_fault sProg).toInt := by subst e_1; rfl
  have f_5 : (Prog_open sProg_1).toInt = (Prog_open sProg).toInt := by subst e_1; rfl
  refine So.lt2 fun sProg_2 e_6 => ?_
  have I_7 : I_Prog sProg_2 := by rw [e_6]; exact (I_Prog_set_fault I_3)
  have f_8 : (Prog_fault sProg_2).toInt = (0 : Int32).toInt := by subst e_6; rfl
  have f_9 : (Prog_open sProg_2).toInt = (Prog_open sProg_1).toInt := by subst e_6; rfl
  refine So.lt2 fun sProg_3 e_10 => ?_
  have I_11 : I_Prog sProg_3 := by rw [e_10]; exact (I_Prog_set_place I_7)
  have k_12 : ((-1) : Int32).toInt = -1 := by decide
  have f_13 : (Prog_fault sProg_3).toInt = (Prog_fault sProg_2).toInt := by subst e_10; rfl
  have f_14 : (Prog_open sProg_3).toInt = (Prog_open sProg_2).toInt := by subst e_10; rfl
  refine So.lt2 fun sProg_4 e_15 => ?_
  have I_16 : I_Prog sProg_4 := by rw [e_15]; exact (I_Prog_set_open I_11 (by show 0 ≤ (0 : Int32).toInt ∧ (0 : Int32).toInt ≤ 64; omega))
  have f_17 : (Prog_fault sProg_4).toInt = (Prog_fault sProg_3).toInt := by subst e_15; rfl
  have f_18 : (Prog_open sProg_4).toInt = (0 : Int32).toInt := by subst e_15; rfl
  refine So.lt2 fun sProg_5 e_19 => ?_
  have I_20 : I_Prog sProg_5 := by rw [e_19]; exact (I_Prog_set_templatePlace I_16)
  have f_21 : (Prog_fault sProg_5).toInt = (Prog_fault sProg_4).toInt := by subst e_19; rfl
  have f_22 : (Prog_open sProg_5).toInt = (Prog_open sProg_4).toInt := by subst e_19; rfl
  refine So.bd (t_fillI (fun _ _ => True) (by omega) hf (fun _ => trivial) (fun _ => trivial)) fun q6 h_23 => ?_
  have k_24 : (16 : Int32).toInt = 16 := by decide
  refine So.bd (t_Tab_endOf I_sTab (by show 0 ≤ (16 : Int32).toInt; omega) (by show (16 : Int32).toInt ≤ 16; omega)) fun q7 h_25 => ?_
  obtain ⟨p_26, p_27, p_28⟩ := h_25
  have k_29 : (128 : Int32).toInt = 128 := by decide
  refine So.bd (t_Prog_openList (I_Prog_set_settings I_20) (by show 0 ≤ (128 : Int32).toInt; omega) (by show (128 : Int32).toInt ≤ 152; omega) (by show 0 ≤ q7.toInt; omega) (by show q7.toInt ≤ 152; omega) (by show -1 ≤ ((-1) : Int32).toInt; omega) (by show ((-1) : Int32).toInt ≤ 999; omega)) fun q8 h_30 => ?_
  have p_31 := h_30
  refine So.imp (t_Prog_build_L53 hf I_sTab fu _ _ p_31 (by show 0 ≤ (0 : Int32).toInt; omega) (by show (0 : Int32).toInt ≤ 10000; omega) (by show 10000 - (0 : Int32).toInt < (fu : Nat); omega)) fun q_z h_z => ?_
  have p_32 := h_z
  exact p_32

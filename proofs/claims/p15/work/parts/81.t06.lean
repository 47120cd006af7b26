def I_Mo (s : S_Mo) : Prop := (0 ≤ (Mo_used s).toInt ∧ (Mo_used s).toInt ≤ 3) ∧ (0 ≤ (Mo_open s).toInt ∧ (Mo_open s).toInt ≤ 90) ∧ (0 ≤ (Mo_fields s).toInt ∧ (Mo_fields s).toInt ≤ 100) ∧ (0 ≤ (Mo_elements s).toInt ∧ (Mo_elements s).toInt ≤ 100) ∧ (0 ≤ (Mo_pointed s).toInt ∧ (Mo_pointed s).toInt ≤ 100) ∧ (0 ≤ (Mo_pointer s).toInt ∧ (Mo_pointer s).toInt ≤ 100) ∧ (0 ≤ (Mo_subset s).toInt ∧ (Mo_subset s).toInt ≤ 7) ∧ (0 ≤ (Mo_many s).toInt ∧ (Mo_many s).toInt ≤ 65535) ∧ (0 ≤ (Mo_at s).toInt ∧ (Mo_at s).toInt ≤ 40000) ∧ (0 ≤ (Mo_madeMany s).toInt ∧ (Mo_madeMany s).toInt ≤ 40000) ∧ (0 ≤ (Mo_taped s).toInt ∧ (Mo_taped s).toInt ≤ 1000) ∧ (0 ≤ (Mo_firstFields s).toInt ∧ (Mo_firstFields s).toInt ≤ 100) ∧ (-1 ≤ (Mo_codes s).toInt ∧ (Mo_codes s).toInt ≤ 64) ∧ (0 ≤ (Mo_groups s).toInt ∧ (Mo_groups s).toInt ≤ 64)
theorem I_Mo_used {s : S_Mo} (h : I_Mo s) : 0 ≤ (Mo_used s).toInt ∧ (Mo_used s).toInt ≤ 3 := h.1
theorem I_Mo_open {s : S_Mo} (h : I_Mo s) : 0 ≤ (Mo_open s).toInt ∧ (Mo_open s).toInt ≤ 90 := h.2.1
theorem I_Mo_fields {s : S_Mo} (h : I_Mo s) : 0 ≤ (Mo_fields s).toInt ∧ (Mo_fields s).toInt ≤ 100 := h.2.2.1
theorem I_Mo_elements {s : S_Mo} (h : I_Mo s) : 0 ≤ (Mo_elements s).toInt ∧ (Mo_elements s).toInt ≤ 100 := h.2.2.2.1
theorem I_Mo_pointed {s : S_Mo} (h : I_Mo s) : 0 ≤ (Mo_pointed s).toInt ∧ (Mo_pointed s).toInt ≤ 100 := h.2.2.2.2.1
theorem I_Mo_pointer {s : S_Mo} (h : I_Mo s) : 0 ≤ (Mo_pointer s).toInt ∧ (Mo_pointer s).toInt ≤ 100 := h.2.2.2.2.2.1
theorem I_Mo_subset {s : S_Mo} (h : I_Mo s) : 0 ≤ (Mo_subset s).toInt ∧ (Mo_subset s).toInt ≤ 7 := h.2.2.2.2.2.2.1
theorem I_Mo_many {s : S_Mo} (h : I_Mo s) : 0 ≤ (Mo_many s).toInt ∧ (Mo_many s).toInt ≤ 65535 := h.2.2.2.2.2.2.2.1
theorem I_Mo_at {s : S_Mo} (h : I_Mo s) : 0 ≤ (Mo_at s).toInt ∧ (Mo_at s).toInt ≤ 40000 := h.2.2.2.2.2.2.2.2.1
theorem I_Mo_madeMany {s : S_Mo} (h : I_Mo s) : 0 ≤ (Mo_madeMany s).toInt ∧ (Mo_madeMany s).toInt ≤ 40000 := h.2.2.2.2.2.2.2.2.2.1
theorem I_Mo_taped {s : S_Mo} (h : I_Mo s) : 0 ≤ (Mo_taped s).toInt ∧ (Mo_taped s).toInt ≤ 1000 := h.2.2.2.2.2.2.2.2.2.2.1
theorem I_Mo_firstFields {s : S_Mo} (h : I_Mo s) : 0 ≤ (Mo_firstFields s).toInt ∧ (Mo_firstFields s).toInt ≤ 100 := h.2.2.2.2.2.2.2.2.2.2.2.1
theorem I_Mo_codes {s : S_Mo} (h : I_Mo s) : -1 ≤ (Mo_codes s).toInt ∧ (Mo_codes s).toInt ≤ 64 := h.2.2.2.2.2.2.2.2.2.2.2.2.1
theorem I_Mo_groups {s : S_Mo} (h : I_Mo s) : 0 ≤ (Mo_groups s).toInt ∧ (Mo_groups s).toInt ≤ 64 := h.2.2.2.2.2.2.2.2.2.2.2.2.2
theorem I_Mo_set_thrown {s : S_Mo} {v : Int32} (h : I_Mo s) : I_Mo (Mo_set_thrown s v) := h
theorem I_Mo_set_used {s : S_Mo} {v : Int32} (h : I_Mo s) (h0 : 0 ≤ v.toInt ∧ v.toInt ≤ 3) : I_Mo (Mo_set_used s v) := ⟨h0, h.2.1, h.2.2.1, h.2.2.2.1, h.2.2.2.2.1, h.2.2.2.2.2.1, h.2.2.2.2.2.2.1, h.2.2.2.2.2.2.2.1, h.2.2.2.2.2.2.2.2.1, h.2.2.2.2.2.2.2.2.2.1, h.2.2.2.2.2.2.2.2.2.2.1, h.2.2.2.2.2.2.2.2.2.2.2.1, h.2.2.2.2.2.2.2.2.2.2.2.2.1, h.2.2.2.2.2.2.2.2.2.2.2.2.2⟩
theorem I_Mo_set_fault {s : S_Mo} {v : Int32} (h : I_Mo s) : I_Mo (Mo_set_fault s v) := h
theorem I_Mo_set_place {s : S_Mo} {v : Int32} (h : I_Mo s) : I_Mo (Mo_set_place s v) := h
theorem I_Mo_set_open {s : S_Mo} {v : Int32} (h : I_Mo s) (h0 : 0 ≤ v.toInt ∧ v.toInt ≤ 90) : I_Mo (Mo_set_open s v) := ⟨h.1, h0, h.2.2.1, h.2.2.2.1, h.2.2.2.2.1, h.2.2.2.2.2.1, h.2.2.2.2.2.2.1, h.2.2.2.2.2.2.2.1, h.2.2.2.2.2.2.2.2.1, h.2.2.2.2.2.2.2.2.2.1, h.2.2.2.2.2.2.2.2.2.2.1, h.2.2.2.2.2.2.2.2.2.2.2.1, h.2.2.2.2.2.2.2.2.2.2.2.2.1, h.2.2.2.2.2.2.2.2.2.2.2.2.2⟩
theorem I_Mo_set_looked {s : S_Mo} {v : Int32} (h : I_Mo s) : I_Mo (Mo_set_looked s v) := h
theorem I_Mo_set_fields {s : S_Mo} {v : Int32} (h : I_Mo s) (h0 : 0 ≤ v.toInt ∧ v.toInt ≤ 100) : I_Mo (Mo_set_fields s v) := ⟨h.1, h.2.1, h0, h.2.2.2.1, h.2.2.2.2.1, h.2.2.2.2.2.1, h.2.2.2.2.2.2.1, h.2.2.2.2.2.2.2.1, h.2.2.2.2.2.2.2.2.1, h.2.2.2.2.2.2.2.2.2.1, h.2.2.2.2.2.2.2.2.2.2.1, h.2.2.2.2.2.2.2.2.2.2.2.1, h.2.2.2.2.2.2.2.2.2.2.2.2.1, h.2.2.2.2.2.2.2.2.2.2.2.2.2⟩
theorem I_Mo_set_elements {s : S_Mo} {v : Int32} (h : I_Mo s) (h0 : 0 ≤ v.toInt ∧ v.toInt ≤ 100) : I_Mo (Mo_set_elements s v) := ⟨h.1, h.2.1, h.2.2.1, h0, h.2.2.2.2.1, h.2.2.2.2.2.1, h.2.2.2.2.2.2.1, h.2.2.2.2.2.2.2.1, h.2.2.2.2.2.2.2.2.1, h.2.2.2.2.2.2.2.2.2.1, h.2.2.2.2.2.2.2.2.2.2.1, h.2.2.2.2.2.2.2.2.2.2.2.1, h.2.2.2.2.2.2.2.2.2.2.2.2.1, h.2.2.2.2.2.2.2.2.2.2.2.2.2⟩
theorem I_Mo_set_pointed {s : S_Mo} {v : Int32} (h : I_Mo s) (h0 : 0 ≤ v.toInt ∧ v.toInt ≤ 100) : I_Mo (Mo_set_pointed s v) := ⟨h.1, h.2.1, h.2.2.1, h.2.2.2.1, h0, h.2.2.2.2.2.1, h.2.2.2.2.2.2.1, h.2.2.2.2.2.2.2.1, h.2.2.2.2.2.2.2.2.1, h.2.2.2.2.2.2.2.2.2.1, h.2.2.2.2.2.2.2.2.2.2.1, h.2.2.2.2.2.2.2.2.2.2.2.1, h.2.2.2.2.2.2.2.2.2.2.2.2.1, h.2.2.2.2.2.2.2.2.2.2.2.2.2⟩
theorem I_Mo_set_pointer {s : S_Mo} {v : Int32} (h : I_Mo s) (h0 : 0 ≤ v.toInt ∧ v.toInt ≤ 100) : I_Mo (Mo_set_pointer s v) := ⟨h.1, h.2.1, h.2.2.1, h.2.2.2.1, h.2.2.2.2.1, h0, h.2.2.2.2.2.2.1, h.2.2.2.2.2.2.2.1, h.2.2.2.2.2.2.2.2.1, h.2.2.2.2.2.2.2.2.2.1, h.2.2.2.2.2.2.2.2.2.2.1, h.2.2.2.2.2.2.2.2.2.2.2.1, h.2.2.2.2.2.2.2.2.2.2.2.2.1, h.2.2.2.2.2.2.2.2.2.2.2.2.2⟩
theorem I_Mo_set_mode {s : S_Mo} {v : Int32} (h : I_Mo s) : I_Mo (Mo_set_mode s v) := h
theorem I_Mo_set_subset {s : S_Mo} {v : Int32} (h : I_Mo s) (h0 : 0 ≤ v.toInt ∧ v.toInt ≤ 7) : I_Mo (Mo_set_subset s v) := ⟨h.1, h.2.1, h.2.2.1, h.2.2.2.1, h.2.2.2.2.1, h.2.2.2.2.2.1, h0, h.2.2.2.2.2.2.2.1, h.2.2.2.2.2.2.2.2.1, h.2.2.2.2.2.2.2.2.2.1, h.2.2.2.2.2.2.2.2.2.2.1, h.2.2.2.2.2.2.2.2.2.2.2.1, h.2.2.2.2.2.2.2.2.2.2.2.2.1, h.2.2.2.2.2.2.2.2.2.2.2.2.2⟩
theorem I_Mo_set_subsets {s : S_Mo} {v : Int32} (h : I_Mo s) : I_Mo (Mo_set_subsets s v) := h
theorem I_Mo_set_many {s : S_Mo} {v : Int32} (h : I_Mo s) (h0 : 0 ≤ v.toInt ∧ v.toInt ≤ 65535) : I_Mo (Mo_set_many s v) := ⟨h.1, h.2.1, h.2.2.1, h.2.2.2.1, h.2.2.2.2.1, h.2.2.2.2.2.1, h.2.2.2.2.2.2.1, h0, h.2.2.2.2.2.2.2.2.1, h.2.2.2.2.2.2.2.2.2.1, h.2.2.2.2.2.2.2.2.2.2.1, h.2.2.2.2.2.2.2.2.2.2.2.1, h.2.2.2.2.2.2.2.2.2.2.2.2.1, h.2.2.2.2.2.2.2.2.2.2.2.2.2⟩
theorem I_Mo_set_at {s : S_Mo} {v : Int32} (h : I_Mo s) (h0 : 0 ≤ v.toInt ∧ v.toInt ≤ 40000) : I_Mo (Mo_set_at s v) := ⟨h.1, h.2.1, h.2.2.1, h.2.2.2.1, h.2.2.2.2.1, h.2.2.2.2.2.1, h.2.2.2.2.2.2.1, h.2.2.2.2.2.2.2.1, h0, h.2.2.2.2.2.2.2.2.2.1, h.2.2.2.2.2.2.2.2.2.2.1, h.2.2.2.2.2.2.2.2.2.2.2.1, h.2.2.2.2.2.2.2.2.2.2.2.2.1, h.2.2.2.2.2.2.2.2.2.2.2.2.2⟩
theorem I_Mo_set_madeMany {s : S_Mo} {v : Int32} (h : I_Mo s) (h0 : 0 ≤ v.toInt ∧ v.toInt ≤ 40000) : I_Mo (Mo_set_madeMany s v) := ⟨h.1, h.2.1, h.2.2.1, h.2.2.2.1, h.2.2.2.2.1, h.2.2.2.2.2.1, h.2.2.2.2.2.2.1, h.2.2.2.2.2.2.2.1, h.2.2.2.2.2.2.2.2.1, h0, h.2.2.2.2.2.2.2.2.2.2.1, h.2.2.2.2.2.2.2.2.2.2.2.1, h.2.2.2.2.2.2.2.2.2.2.2.2.1, h.2.2.2.2.2.2.2.2.2.2.2.2.2⟩
theorem I_Mo_set_madeKind {s : S_Mo} {v : Int32} (h : I_Mo s) : I_Mo (Mo_set_madeKind s v) := h
theorem I_Mo_set_madeSubsets {s : S_Mo} {v : Int32} (h : I_Mo s) : I_Mo (Mo_set_madeSubsets s v) := h
theorem I_Mo_set_written {s : S_Mo} {v : Int32} (h : I_Mo s) : I_Mo (Mo_set_written s v) := h
theorem I_Mo_set_taped {s : S_Mo} {v : Int32} (h : I_Mo s) (h0 : 0 ≤ v.toInt ∧ v.toInt ≤ 1000) : I_Mo (Mo_set_taped s v) := ⟨h.1, h.2.1, h.2.2.1, h.2.2.2.1, h.2.2.2.2.1, h.2.2.2.2.2.1, h.2.2.2.2.2.2.1, h.2.2.2.2.2.2.2.1, h.2.2.2.2.2.2.2.2.1, h.2.2.2.2.2.2.2.2.2.1, h0, h.2.2.2.2.2.2.2.2.2.2.2.1, h.2.2.2.2.2.2.2.2.2.2.2.2.1, h.2.2.2.2.2.2.2.2.2.2.2.2.2⟩
theorem I_Mo_set_firstFields {s : S_Mo} {v : Int32} (h : I_Mo s) (h0 : 0 ≤ v.toInt ∧ v.toInt ≤ 100) : I_Mo (Mo_set_firstFields s v) := ⟨h.1, h.2.1, h.2.2.1, h.2.2.2.1, h.2.2.2.2.1, h.2.2.2.2.2.1, h.2.2.2.2.2.2.1, h.2.2.2.2.2.2.2.1, h.2.2.2.2.2.2.2.2.1, h.2.2.2.2.2.2.2.2.2.1, h.2.2.2.2.2.2.2.2.2.2.1, h0, h.2.2.2.2.2.2.2.2.2.2.2.2.1, h.2.2.2.2.2.2.2.2.2.2.2.2.2⟩
theorem I_Mo_set_codes {s : S_Mo} {v : Int32} (h : I_Mo s) (h0 : -1 ≤ v.toInt ∧ v.toInt ≤ 64) : I_Mo (Mo_set_codes s v) := ⟨h.1, h.2.1, h.2.2.1, h.2.2.2.1, h.2.2.2.2.1, h.2.2.2.2.2.1, h.2.2.2.2.2.2.1, h.2.2.2.2.2.2.2.1, h.2.2.2.2.2.2.2.2.1, h.2.2.2.2.2.2.2.2.2.1, h.2.2.2.2.2.2.2.2.2.2.1, h.2.2.2.2.2.2.2.2.2.2.2.1, h0, h.2.2.2.2.2.2.2.2.2.2.2.2.2⟩
theorem I_Mo_set_groups {s : S_Mo} {v : Int32} (h : I_Mo s) (h0 : 0 ≤ v.toInt ∧ v.toInt ≤ 64) : I_Mo (Mo_set_groups s v) := ⟨h.1, h.2.1, h.2.2.1, h.2.2.2.1, h.2.2.2.2.1, h.2.2.2.2.2.1, h.2.2.2.2.2.2.1, h.2.2.2.2.2.2.2.1, h.2.2.2.2.2.2.2.2.1, h.2.2.2.2.2.2.2.2.2.1, h.2.2.2.2.2.2.2.2.2.2.1, h.2.2.2.2.2.2.2.2.2.2.2.1, h.2.2.2.2.2.2.2.2.2.2.2.2.1, h0⟩
def A_Mthere (f : Nat → Int32) : Prop := ∀ j : Nat, 0 ≤ (f j).toInt ∧ (f j).toInt ≤ 1
theorem A_Mthere_at {f : Nat → Int32} (h : A_Mthere f) (j : Nat) : 0 ≤ (f j).toInt ∧ (f j).toInt ≤ 1 := h j
theorem A_Mthere_upd {f : Nat → Int32} {k : Nat} {x : Int32} (h : A_Mthere f) (h0 : 0 ≤ x.toInt ∧ x.toInt ≤ 1) : A_Mthere (upd f k x) := i_arp (P := fun j x => 0 ≤ x.toInt ∧ x.toInt ≤ 1) h h0
def A_Mwidths (f : Nat → Int32) : Prop := ∀ j : Nat, 0 ≤ (f j).toInt ∧ (f j).toInt ≤ 32
theorem A_Mwidths_at {f : Nat → Int32} (h : A_Mwidths f) (j : Nat) : 0 ≤ (f j).toInt ∧ (f j).toInt ≤ 32 := h j
theorem A_Mwidths_upd {f : Nat → Int32} {k : Nat} {x : Int32} (h : A_Mwidths f) (h0 : 0 ≤ x.toInt ∧ x.toInt ≤ 32) : A_Mwidths (upd f k x) := i_arp (P := fun j x => 0 ≤ x.toInt ∧ x.toInt ≤ 32) h h0
def A_Mscales (f : Nat → Int32) : Prop := ∀ j : Nat, -8 ≤ (f j).toInt ∧ (f j).toInt ≤ 8
theorem A_Mscales_at {f : Nat → Int32} (h : A_Mscales f) (j : Nat) : -8 ≤ (f j).toInt ∧ (f j).toInt ≤ 8 := h j
theorem A_Mscales_upd {f : Nat → Int32} {k : Nat} {x : Int32} (h : A_Mscales f) (h0 : -8 ≤ x.toInt ∧ x.toInt ≤ 8) : A_Mscales (upd f k x) := i_arp (P := fun j x => -8 ≤ x.toInt ∧ x.toInt ≤ 8) h h0
def A_Mlists (f : Nat → Int32) : Prop := ∀ j : Nat, (0 ≤ (f j).toInt ∧ (f j).toInt ≤ 63) ∨ (100 ≤ (f j).toInt ∧ (f j).toInt ≤ 115) ∨ (216 ≤ (f j).toInt ∧ (f j).toInt ≤ 343) ∨ (400 ≤ (f j).toInt ∧ (f j).toInt ≤ 487) ∨ (501 ≤ (f j).toInt ∧ (f j).toInt ≤ 516) ∨ (f j).toInt = 520
theorem A_Mlists_at {f : Nat → Int32} (h : A_Mlists f) (j : Nat) : (0 ≤ (f j).toInt ∧ (f j).toInt ≤ 63) ∨ (100 ≤ (f j).toInt ∧ (f j).toInt ≤ 115) ∨ (216 ≤ (f j).toInt ∧ (f j).toInt ≤ 343) ∨ (400 ≤ (f j).toInt ∧ (f j).toInt ≤ 487) ∨ (501 ≤ (f j).toInt ∧ (f j).toInt ≤ 516) ∨ (f j).toInt = 520 := h j
theorem A_Mlists_upd {f : Nat → Int32} {k : Nat} {x : Int32} (h : A_Mlists f) (h0 : (0 ≤ x.toInt ∧ x.toInt ≤ 63) ∨ (100 ≤ x.toInt ∧ x.toInt ≤ 115) ∨ (216 ≤ x.toInt ∧ x.toInt ≤ 343) ∨ (400 ≤ x.toInt ∧ x.toInt ≤ 487) ∨ (501 ≤ x.toInt ∧ x.toInt ≤ 516) ∨ x.toInt = 520) : A_Mlists (upd f k x) := i_arp (P := fun j x => (0 ≤ x.toInt ∧ x.toInt ≤ 63) ∨ (100 ≤ x.toInt ∧ x.toInt ≤ 115) ∨ (216 ≤ x.toInt ∧ x.toInt ≤ 343) ∨ (400 ≤ x.toInt ∧ x.toInt ≤ 487) ∨ (501 ≤ x.toInt ∧ x.toInt ≤ 516) ∨ x.toInt = 520) h h0
def A_Mlengths (f : Nat → Int32) : Prop := ∀ j : Nat, 0 ≤ (f j).toInt ∧ (f j).toInt ≤ 24 ∧ (j < 16 → (f j).toInt ≤ 8)
theorem A_Mlengths_at {f : Nat → Int32} (h : A_Mlengths f) (j : Nat) : 0 ≤ (f j).toInt ∧ (f j).toInt ≤ 24 ∧ (j < 16 → (f j).toInt ≤ 8) := h j
theorem A_Mlengths_upd {f : Nat → Int32} {k : Nat} {x : Int32} (h : A_Mlengths f) (h0 : 0 ≤ x.toInt ∧ x.toInt ≤ 24 ∧ (k < 16 → x.toInt ≤ 8)) : A_Mlengths (upd f k x) := i_arp (P := fun j x => 0 ≤ x.toInt ∧ x.toInt ≤ 24 ∧ (j < 16 → x.toInt ≤ 8)) h h0
def A_Mtape (f : Nat → Int32) : Prop := ∀ j : Nat, 0 ≤ (f j).toInt ∧ (f j).toInt ≤ 255
theorem A_Mtape_at {f : Nat → Int32} (h : A_Mtape f) (j : Nat) : 0 ≤ (f j).toInt ∧ (f j).toInt ≤ 255 := h j
theorem A_Mtape_upd {f : Nat → Int32} {k : Nat} {x : Int32} (h : A_Mtape f) (h0 : 0 ≤ x.toInt ∧ x.toInt ≤ 255) : A_Mtape (upd f k x) := i_arp (P := fun j x => 0 ≤ x.toInt ∧ x.toInt ≤ 255) h h0
def A_Mops (f : Nat → Int32) : Prop := ∀ j : Nat, -100 ≤ (f j).toInt ∧ (f j).toInt ≤ 31 ∧ ((f j).toInt = -100 ∨ -16 ≤ (f j).toInt) ∧ (j < 2 ∨ (f j).toInt = -100 ∨ 0 ≤ (f j).toInt)
theorem A_Mops_at {f : Nat → Int32} (h : A_Mops f) (j : Nat) : -100 ≤ (f j).toInt ∧ (f j).toInt ≤ 31 ∧ ((f j).toInt = -100 ∨ -16 ≤ (f j).toInt) ∧ (j < 2 ∨ (f j).toInt = -100 ∨ 0 ≤ (f j).toInt) := h j
theorem A_Mops_upd {f : Nat → Int32} {k : Nat} {x : Int32} (h : A_Mops f) (h0 : -100 ≤ x.toInt ∧ x.toInt ≤ 31 ∧ (x.toInt = -100 ∨ -16 ≤ x.toInt) ∧ (k < 2 ∨ x.toInt = -100 ∨ 0 ≤ x.toInt)) : A_Mops (upd f k x) := i_arp (P := fun j x => -100 ≤ x.toInt ∧ x.toInt ≤ 31 ∧ (x.toInt = -100 ∨ -16 ≤ x.toInt) ∧ (j < 2 ∨ x.toInt = -100 ∨ 0 ≤ x.toInt)) h h0
def A_MfoundOps (f : Nat → Int32) : Prop := ∀ j : Nat, -100 ≤ (f j).toInt ∧ (f j).toInt ≤ 31
theorem A_MfoundOps_at {f : Nat → Int32} (h : A_MfoundOps f) (j : Nat) : -100 ≤ (f j).toInt ∧ (f j).toInt ≤ 31 := h j
theorem A_MfoundOps_upd {f : Nat → Int32} {k : Nat} {x : Int32} (h : A_MfoundOps f) (h0 : -100 ≤ x.toInt ∧ x.toInt ≤ 31) : A_MfoundOps (upd f k x) := i_arp (P := fun j x => -100 ≤ x.toInt ∧ x.toInt ≤ 31) h h0
def A_MelementAt (f : Nat → Int32) : Prop := ∀ j : Nat, 0 ≤ (f j).toInt ∧ (f j).toInt ≤ 99
theorem A_MelementAt_at {f : Nat → Int32} (h : A_MelementAt f) (j : Nat) : 0 ≤ (f j).toInt ∧ (f j).toInt ≤ 99 := h j
theorem A_MelementAt_upd {f : Nat → Int32} {k : Nat} {x : Int32} (h : A_MelementAt f) (h0 : 0 ≤ x.toInt ∧ x.toInt ≤ 99) : A_MelementAt (upd f k x) := i_arp (P := fun j x => 0 ≤ x.toInt ∧ x.toInt ≤ 99) h h0
def A_MpointAt (f : Nat → Int32) : Prop := ∀ j : Nat, 0 ≤ (f j).toInt ∧ (f j).toInt ≤ 99
theorem A_MpointAt_at {f : Nat → Int32} (h : A_MpointAt f) (j : Nat) : 0 ≤ (f j).toInt ∧ (f j).toInt ≤ 99 := h j
theorem A_MpointAt_upd {f : Nat → Int32} {k : Nat} {x : Int32} (h : A_MpointAt f) (h0 : 0 ≤ x.toInt ∧ x.toInt ≤ 99) : A_MpointAt (upd f k x) := i_arp (P := fun j x => 0 ≤ x.toInt ∧ x.toInt ≤ 99) h h0
theorem t_Mod_thrown {sMo : S_Mo} (I_sMo : I_Mo sMo) : So (Mod_thrown sMo) (fun r => (r.toInt = (Mo_thrown sMo).toInt)) := by
  unfold Mod_thrown
  exact So.one (by show ((Mo_thrown sMo) : Int32).toInt = (Mo_thrown sMo).toInt; omega)
theorem t_Mod_entry {a0 : Int32} {a1 : Int32} (g_0 : -1 ≤ a0.toInt) (g_1 : a0.toInt < 4) (g_2 : 0 ≤ a1.toInt) (g_3 : a1.toInt < 64) : So (Mod_entry a0 a1) (fun r => ((a0.toInt = -1 ∧ r.toInt = 256 + a1.toInt) ∨ (0 ≤ a0.toInt ∧ r.toInt = 64 * a0.toInt + a1.toInt))) := by
  unfold Mod_entry
  refine So.ite (fun c_1 => ?_) (fun c_1 => ?_)
  · rw [i_le] at c_1
    have k_2 : (0 : Int32).toInt = 0 := by decide
    have k_3 : (64 : Int32).toInt = 64 := by decide
    first | have f_4 := i_mull 64 a0 (64) (by decide) (by omega) (by omega) | have f_4 := i_mullm 64 a0 (64) (by decide)
    first | have f_5 := i_add (a := (64 * a0)) (b := a1) (by omega) (by omega) | have f_5 := i_addm (64 * a0) a1
    exact So.one (by show (a0.toInt = -1 ∧ (((64 * a0) + a1) : Int32).toInt = 256 + a1.toInt) ∨ (0 ≤ a0.toInt ∧ (((64 * a0) + a1) : Int32).toInt = 64 * a0.toInt + a1.toInt); omega)
  · rw [i_le] at c_1
    have k_6 : (0 : Int32).toInt = 0 := by decide
    have k_7 : ((64 * 4) : Int32).toInt = 256 := by decide
    first | have f_8 := i_add (a := ((64 * 4) : Int32)) (b := a1) (by omega) (by omega) | have f_8 := i_addm ((64 * 4) : Int32) a1
    exact So.one (by show (a0.toInt = -1 ∧ (((64 * 4) + a1) : Int32).toInt = 256 + a1.toInt) ∨ (0 ≤ a0.toInt ∧ (((64 * 4) + a1) : Int32).toInt = 64 * a0.toInt + a1.toInt); omega)
theorem t_Mod_isEntry {a0 : Int32} {a1 : Int32}  : So (Mod_isEntry a0 a1) (fun r => ((r.toInt = 1 ∧ (-1 ≤ a0.toInt ∧ a0.toInt < 4 ∧ 0 ≤ a1.toInt ∧ a1.toInt < 64)) ∨ (r.toInt = 0 ∧ ¬ (-1 ≤ a0.toInt ∧ a0.toInt < 4 ∧ 0 ≤ a1.toInt ∧ a1.toInt < 64)))) := by
  unfold Mod_isEntry
  refine So.ite (fun c_1 => ?_) (fun c_1 => ?_)
  · rw [i_lt] at c_1
    have k_2 : ((-1) : Int32).toInt = -1 := by decide
    have k_3 : (0 : Int32).toInt = 0 := by decide
    exact So.one (by show ((0 : Int32).toInt = 1 ∧ (-1 ≤ a0.toInt ∧ a0.toInt < 4 ∧ 0 ≤ a1.toInt ∧ a1.toInt < 64)) ∨ ((0 : Int32).toInt = 0 ∧ ¬ (-1 ≤ a0.toInt ∧ a0.toInt < 4 ∧ 0 ≤ a1.toInt ∧ a1.toInt < 64)); omega)
  · rw [i_lt] at c_1
    have k_4 : ((-1) : Int32).toInt = -1 := by decide
    refine So.ite (fun c_5 => ?_) (fun c_5 => ?_)
    · rw [i_lt] at c_5
      have k_6 : (3 : Int32).toInt = 3 := by decide
      have k_7 : (0 : Int32).toInt = 0 := by decide
      exact So.one (by show ((0 : Int32).toInt = 1 ∧ (-1 ≤ a0.toInt ∧ a0.toInt < 4 ∧ 0 ≤ a1.toInt ∧ a1.toInt < 64)) ∨ ((0 : Int32).toInt = 0 ∧ ¬ (-1 ≤ a0.toInt ∧ a0.toInt < 4 ∧ 0 ≤ a1.toInt ∧ a1.toInt < 64)); omega)
    · rw [i_lt] at c_5
      have k_8 : (3 : Int32).toInt = 3 := by decide
      refine So.ite (fun c_9 => ?_) (fun c_9 => ?_)
      · rw [i_lt] at c_9
        have k_10 : (0 : Int32).toInt = 0 := by decide
        exact So.one (by show ((0 : Int32).toInt = 1 ∧ (-1 ≤ a0.toInt ∧ a0.toInt < 4 ∧ 0 ≤ a1.toInt ∧ a1.toInt < 64)) ∨ ((0 : Int32).toInt = 0 ∧ ¬ (-1 ≤ a0.toInt ∧ a0.toInt < 4 ∧ 0 ≤ a1.toInt ∧ a1.toInt < 64)); omega)
      · rw [i_lt] at c_9
        have k_11 : (0 : Int32).toInt = 0 := by decide
        refine So.ite (fun c_12 => ?_) (fun c_12 => ?_)
        · rw [i_lt] at c_12
          have k_13 : (63 : Int32).toInt = 63 := by decide
          exact So.one (by show ((0 : Int32).toInt = 1 ∧ (-1 ≤ a0.toInt ∧ a0.toInt < 4 ∧ 0 ≤ a1.toInt ∧ a1.toInt < 64)) ∨ ((0 : Int32).toInt = 0 ∧ ¬ (-1 ≤ a0.toInt ∧ a0.toInt < 4 ∧ 0 ≤ a1.toInt ∧ a1.toInt < 64)); omega)
        · rw [i_lt] at c_12
          have k_14 : (63 : Int32).toInt = 63 := by decide
          have k_15 : (1 : Int32).toInt = 1 := by decide
          exact So.one (by show ((1 : Int32).toInt = 1 ∧ (-1 ≤ a0.toInt ∧ a0.toInt < 4 ∧ 0 ≤ a1.toInt ∧ a1.toInt < 64)) ∨ ((1 : Int32).toInt = 0 ∧ ¬ (-1 ≤ a0.toInt ∧ a0.toInt < 4 ∧ 0 ≤ a1.toInt ∧ a1.toInt < 64)); omega)
theorem t_Mod_element {a0 : Int32} {a1 : Int32} {a2 : Int32} {a3 : Int32} {a4 : Int32} {sMo : S_Mo} {sMthere : (Nat → Int32)} {sMscales : (Nat → Int32)} {sMreferences : (Nat → Int32)} {sMwidths : (Nat → Int32)} (I_sMo : I_Mo sMo) (I_sMthere : A_Mthere sMthere) (I_sMscales : A_Mscales sMscales) (I_sMwidths : A_Mwidths sMwidths) : So (Mod_element a0 a1 a2 a3 a4 sMo sMthere sMscales sMreferences sMwidths) (fun r => I_Mo r.1 ∧ A_Mthere r.2.1 ∧ A_Mscales r.2.2.1 ∧ A_Mwidths r.2.2.2.2 ∧ (((Mo_thrown r.1).toInt = 0 ∧ (-1 ≤ a0.toInt ∧ a0.toInt < 4 ∧ 0 ≤ a1.toInt ∧ a1.toInt < 64 ∧ -8 ≤ a2.toInt ∧ a2.toInt ≤ 8 ∧ -1000000000 ≤ a3.toInt ∧ a3.toInt ≤ 1000000000 ∧ 1 ≤ a4.toInt ∧ a4.toInt ≤ 32)) ∨ ((Mo_thrown r.1).toInt = 1 ∧ ¬ (-1 ≤ a0.toInt ∧ a0.toInt < 4 ∧ 0 ≤ a1.toInt ∧ a1.toInt < 64 ∧ -8 ≤ a2.toInt ∧ a2.toInt ≤ 8 ∧ -1000000000 ≤ a3.toInt ∧ a3.toInt ≤ 1000000000 ∧ 1 ≤ a4.toInt ∧ a4.toInt ≤ 32))) ∧ ((Mo_used r.1).toInt = (Mo_used sMo).toInt) ∧ ((Mo_taped r.1).toInt = (Mo_taped sMo).toInt)) := by
  unfold Mod_element
  refine So.bd (t_Mod_isEntry ) fun q1 h_1 => ?_
  have p_2 := h_1
  refine So.ite (fun c_3 => ?_) (fun c_3 => ?_)
  · rw [i_eq] at c_3
    have k_4 : (0 : Int32).toInt = 0 := by decide
    unfold Mod_element_j51
    unfold Mod_element_j52
    refine So.pos (by decide) ?_
    unfold Mod_element_j65
    refine So.lt2 fun sMo_10 e_6 => ?_
    have I_7 : I_Mo sMo_10 := by rw [e_6]; exact (I_Mo_set_thrown I_sMo)
    have k_8 : (1 : Int32).toInt = 1 := by decide
    have f_9 : (Mo_thrown sMo_10).toInt = (1 : Int32).toInt := by subst e_6; rfl
    have f_10 : (Mo_used sMo_10).toInt = (Mo_used sMo).toInt := by subst e_6; rfl
    have f_11 : (Mo_taped sMo_10).toInt = (Mo_taped sMo).toInt := by subst e_6; rfl
    refine So.pos (by decide) ?_
    exact So.one ⟨I_7, I_sMthere, I_sMscales, I_sMwidths, (by show ((Mo_thrown sMo_10).toInt = 0 ∧ (-1 ≤ a0.toInt ∧ a0.toInt < 4 ∧ 0 ≤ a1.toInt ∧ a1.toInt < 64 ∧ -8 ≤ a2.toInt ∧ a2.toInt ≤ 8 ∧ -1000000000 ≤ a3.toInt ∧ a3.toInt ≤ 1000000000 ∧ 1 ≤ a4.toInt ∧ a4.toInt ≤ 32)) ∨ ((Mo_thrown sMo_10).toInt = 1 ∧ ¬ (-1 ≤ a0.toInt ∧ a0.toInt < 4 ∧ 0 ≤ a1.toInt ∧ a1.toInt < 64 ∧ -8 ≤ a2.toInt ∧ a2.toInt ≤ 8 ∧ -1000000000 ≤ a3.toInt ∧ a3.toInt ≤ 1000000000 ∧ 1 ≤ a4.toInt ∧ a4.toInt ≤ 32)); omega), (by show (Mo_used sMo_10).toInt = (Mo_used sMo).toInt; omega), (by show (Mo_taped sMo_10).toInt = (Mo_taped sMo).toInt; omega)⟩
  · rw [i_eq] at c_3
    have k_13 : (0 : Int32).toInt = 0 := by decide
    refine So.ite (fun c_14 => ?_) (fun c_14 => ?_)
    · rw [i_lt] at c_14
      have k_15 : ((-8) : Int32).toInt = -8 := by decide
      unfold Mod_element_j51
      unfold Mod_element_j52
      refine So.pos (by decide) ?_
      unfold Mod_element_j65
      refine So.lt2 fun sMo_10 e_17 => ?_
      have I_18 : I_Mo sMo_10 := by rw [e_17]; exact (I_Mo_set_thrown I_sMo)
      have k_19 : (1 : Int32).toInt = 1 := by decide
      have f_20 : (Mo_thrown sMo_10).toInt = (1 : Int32).toInt := by subst e_17; rfl
      have f_21 : (Mo_used sMo_10).toInt = (Mo_used sMo).toInt := by subst e_17; rfl
      have f_22 : (Mo_taped sMo_10).toInt = (Mo_taped sMo).toInt := by subst e_17; rfl
      refine So.pos (by decide) ?_
      exact So.one ⟨I_18, I_sMthere, I_sMscales, I_sMwidths, (by show ((Mo_thrown sMo_10).toInt = 0 ∧ (-1 ≤ a0.toInt ∧ a0.toInt < 4 ∧ 0 ≤ a1.toInt ∧ a1.toInt < 64 ∧ -8 ≤ a2.toInt ∧ a2.toInt ≤ 8 ∧ -1000000000 ≤ a3.toInt ∧ a3.toInt ≤ 1000000000 ∧ 1 ≤ a4.toInt ∧ a4.toInt ≤ 32)) ∨ ((Mo_thrown sMo_10).toInt = 1 ∧ ¬ (-1 ≤ a0.toInt ∧ a0.toInt < 4 ∧ 0 ≤ a1.toInt ∧ a1.toInt < 64 ∧ -8 ≤ a2.toInt ∧ a2.toInt ≤ 8 ∧ -1000000000 ≤ a3.toInt ∧ a3.toInt ≤ 1000000000 ∧ 1 ≤ a4.toInt ∧ a4.toInt ≤ 32)); omega), (by show (Mo_used sMo_10).toInt = (Mo_used sMo).toInt; omega), (by show (Mo_taped sMo_10).toInt = (Mo_taped sMo).toInt; omega)⟩
    · rw [i_lt] at c_14
      have k_24 : ((-8) : Int32).toInt = -8 := by decide
      refine So.ite (fun c_25 => ?_) (fun c_25 => ?_)
      · rw [i_lt] at c_25
        have k_26 : (8 : Int32).toInt = 8 := by decide
        unfold Mod_element_j51
        unfold Mod_element_j52
        refine So.pos (by decide) ?_
        unfold Mod_element_j65
        refine So.lt2 fun sMo_10 e_28 => ?_
        have I_29 : I_Mo sMo_10 := by rw [e_28]; exact (I_Mo_set_thrown I_sMo)
        have k_30 : (1 : Int32).toInt = 1 := by decide
        have f_31 : (Mo_thrown sMo_10).toInt = (1 : Int32).toInt := by subst e_28; rfl
        have f_32 : (Mo_used sMo_10).toInt = (Mo_used sMo).toInt := by subst e_28; rfl
        have f_33 : (Mo_taped sMo_10).toInt = (Mo_taped sMo).toInt := by subst e_28; rfl
        refine So.pos (by decide) ?_
        exact So.one ⟨I_29, I_sMthere, I_sMscales, I_sMwidths, (by show ((Mo_thrown sMo_10).toInt = 0 ∧ (-1 ≤ a0.toInt ∧ a0.toInt < 4 ∧ 0 ≤ a1.toInt ∧ a1.toInt < 64 ∧ -8 ≤ a2.toInt ∧ a2.toInt ≤ 8 ∧ -1000000000 ≤ a3.toInt ∧ a3.toInt ≤ 1000000000 ∧ 1 ≤ a4.toInt ∧ a4.toInt ≤ 32)) ∨ ((Mo_thrown sMo_10).toInt = 1 ∧ ¬ (-1 ≤ a0.toInt ∧ a0.toInt < 4 ∧ 0 ≤ a1.toInt ∧ a1.toInt < 64 ∧ -8 ≤ a2.toInt ∧ a2.toInt ≤ 8 ∧ -1000000000 ≤ a3.toInt ∧ a3.toInt ≤ 1000000000 ∧ 1 ≤ a4.toInt ∧ a4.toInt ≤ 32)); omega), (by show (Mo_used sMo_10).toInt = (Mo_used sMo).toInt; omega), (by show (Mo_taped sMo_10).toInt = (Mo_taped sMo).toInt; omega)⟩
      · rw [i_lt] at c_25
        have k_35 : (8 : Int32).toInt = 8 := by decide
        refine So.ite (fun c_36 => ?_) (fun c_36 => ?_)
        · rw [i_lt] at c_36
          have k_37 : ((-1000000000) : Int32).toInt = -1000000000 := by decide
          unfold Mod_element_j51
          unfold Mod_element_j52
          refine So.pos (by decide) ?_
          unfold Mod_element_j65
          refine So.lt2 fun sMo_10 e_39 => ?_
          have I_40 : I_Mo sMo_10 := by rw [e_39]; exact (I_Mo_set_thrown I_sMo)
          have k_41 : (1 : Int32).toInt = 1 := by decide
          have f_42 : (Mo_thrown sMo_10).toInt = (1 : Int32).toInt := by subst e_39; rfl
          have f_43 : (Mo_used sMo_10).toInt = (Mo_used sMo).toInt := by subst e_39; rfl
          have f_44 : (Mo_taped sMo_10).toInt = (Mo_taped sMo).toInt := by subst e_39; rfl
          refine So.pos (by decide) ?_
          exact So.one ⟨I_40, I_sMthere, I_sMscales, I_sMwidths, (by show ((Mo_thrown sMo_10).toInt = 0 ∧ (-1 ≤ a0.toInt ∧ a0.toInt < 4 ∧ 0 ≤ a1.toInt ∧ a1.toInt < 64 ∧ -8 ≤ a2.toInt ∧ a2.toInt ≤ 8 ∧ -1000000000 ≤ a3.toInt ∧ a3.toInt ≤ 1000000000 ∧ 1 ≤ a4.toInt ∧ a4.toInt ≤ 32)) ∨ ((Mo_thrown sMo_10).toInt = 1 ∧ ¬ (-1 ≤ a0.toInt ∧ a0.toInt < 4 ∧ 0 ≤ a1.toInt ∧ a1.toInt < 64 ∧ -8 ≤ a2.toInt ∧ a2.toInt ≤ 8 ∧ -1000000000 ≤ a3.toInt ∧ a3.toInt ≤ 1000000000 ∧ 1 ≤ a4.toInt ∧ a4.toInt ≤ 32)); omega), (by show (Mo_used sMo_10).toInt = (Mo_used sMo).toInt; omega), (by show (Mo_taped sMo_10).toInt = (Mo_taped sMo).toInt; omega)⟩
        · rw [i_lt] at c_36
          have k_46 : ((-1000000000) : Int32).toInt = -1000000000 := by decide
          refine So.ite (fun c_47 => ?_) (fun c_47 => ?_)
          · rw [i_lt] at c_47
            have k_48 : (1000000000 : Int32).toInt = 1000000000 := by decide
            unfold Mod_element_j51
            unfold Mod_element_j52
            refine So.pos (by decide) ?_
            unfold Mod_element_j65
            refine So.lt2 fun sMo_10 e_50 => ?_
            have I_51 : I_Mo sMo_10 := by rw [e_50]; exact (I_Mo_set_thrown I_sMo)
            have k_52 : (1 : Int32).toInt = 1 := by decide
            have f_53 : (Mo_thrown sMo_10).toInt = (1 : Int32).toInt := by subst e_50; rfl
            have f_54 : (Mo_used sMo_10).toInt = (Mo_used sMo).toInt := by subst e_50; rfl
            have f_55 : (Mo_taped sMo_10).toInt = (Mo_taped sMo).toInt := by subst e_50; rfl
            refine So.pos (by decide) ?_
            exact So.one ⟨I_51, I_sMthere, I_sMscales, I_sMwidths, (by show ((Mo_thrown sMo_10).toInt = 0 ∧ (-1 ≤ a0.toInt ∧ a0.toInt < 4 ∧ 0 ≤ a1.toInt ∧ a1.toInt < 64 ∧ -8 ≤ a2.toInt ∧ a2.toInt ≤ 8 ∧ -1000000000 ≤ a3.toInt ∧ a3.toInt ≤ 1000000000 ∧ 1 ≤ a4.toInt ∧ a4.toInt ≤ 32)) ∨ ((Mo_thrown sMo_10).toInt = 1 ∧ ¬ (-1 ≤ a0.toInt ∧ a0.toInt < 4 ∧ 0 ≤ a1.toInt ∧ a1.toInt < 64 ∧ -8 ≤ a2.toInt ∧ a2.toInt ≤ 8 ∧ -1000000000 ≤ a3.toInt ∧ a3.toInt ≤ 1000000000 ∧ 1 ≤ a4.toInt ∧ a4.toInt ≤ 32)); omega), (by show (Mo_used sMo_10).toInt = (Mo_used sMo).toInt; omega), (by show (Mo_taped sMo_10).toInt = (Mo_taped sMo).toInt; omega)⟩
          · rw [i_lt] at c_47
            have k_57 : (1000000000 : Int32).toInt = 1000000000 := by decide
            refine So.ite (fun c_58 => ?_) (fun c_58 => ?_)
            · rw [i_lt] at c_58
              have k_59 : (1 : Int32).toInt = 1 := by decide
              unfold Mod_element_j51
              unfold Mod_element_j52
              refine So.pos (by decide) ?_
              unfold Mod_element_j65
              refine So.lt2 fun sMo_10 e_61 => ?_
              have I_62 : I_Mo sMo_10 := by rw [e_61]; exact (I_Mo_set_thrown I_sMo)
              have f_63 : (Mo_thrown sMo_10).toInt = (1 : Int32).toInt := by subst e_61; rfl
              have f_64 : (Mo_used sMo_10).toInt = (Mo_used sMo).toInt := by subst e_61; rfl
              have f_65 : (Mo_taped sMo_10).toInt = (Mo_taped sMo).toInt := by subst e_61; rfl
              refine So.pos (by decide) ?_
              exact So.one ⟨I_62, I_sMthere, I_sMscales, I_sMwidths, (by show ((Mo_thrown sMo_10).toInt = 0 ∧ (-1 ≤ a0.toInt ∧ a0.toInt < 4 ∧ 0 ≤ a1.toInt ∧ a1.toInt < 64 ∧ -8 ≤ a2.toInt ∧ a2.toInt ≤ 8 ∧ -1000000000 ≤ a3.toInt ∧ a3.toInt ≤ 1000000000 ∧ 1 ≤ a4.toInt ∧ a4.toInt ≤ 32)) ∨ ((Mo_thrown sMo_10).toInt = 1 ∧ ¬ (-1 ≤ a0.toInt ∧ a0.toInt < 4 ∧ 0 ≤ a1.toInt ∧ a1.toInt < 64 ∧ -8 ≤ a2.toInt ∧ a2.toInt ≤ 8 ∧ -1000000000 ≤ a3.toInt ∧ a3.toInt ≤ 1000000000 ∧ 1 ≤ a4.toInt ∧ a4.toInt ≤ 32)); omega), (by show (Mo_used sMo_10).toInt = (Mo_used sMo).toInt; omega), (by show (Mo_taped sMo_10).toInt = (Mo_taped sMo).toInt; omega)⟩
            · rw [i_lt] at c_58
              have k_67 : (1 : Int32).toInt = 1 := by decide
              refine So.ite (fun c_68 => ?_) (fun c_68 => ?_)
              · rw [i_lt] at c_68
                have k_69 : (32 : Int32).toInt = 32 := by decide
                unfold Mod_element_j51
                unfold Mod_element_j52
                refine So.pos (by decide) ?_
                unfold Mod_element_j65
                refine So.lt2 fun sMo_10 e_71 => ?_
                have I_72 : I_Mo sMo_10 := by rw [e_71]; exact (I_Mo_set_thrown I_sMo)
                have f_73 : (Mo_thrown sMo_10).toInt = (1 : Int32).toInt := by subst e_71; rfl
                have f_74 : (Mo_used sMo_10).toInt = (Mo_used sMo).toInt := by subst e_71; rfl
                have f_75 : (Mo_taped sMo_10).toInt = (Mo_taped sMo).toInt := by subst e_71; rfl
                refine So.pos (by decide) ?_
                exact So.one ⟨I_72, I_sMthere, I_sMscales, I_sMwidths, (by show ((Mo_thrown sMo_10).toInt = 0 ∧ (-1 ≤ a0.toInt ∧ a0.toInt < 4 ∧ 0 ≤ a1.toInt ∧ a1.toInt < 64 ∧ -8 ≤ a2.toInt ∧ a2.toInt ≤ 8 ∧ -1000000000 ≤ a3.toInt ∧ a3.toInt ≤ 1000000000 ∧ 1 ≤ a4.toInt ∧ a4.toInt ≤ 32)) ∨ ((Mo_thrown sMo_10).toInt = 1 ∧ ¬ (-1 ≤ a0.toInt ∧ a0.toInt < 4 ∧ 0 ≤ a1.toInt ∧ a1.toInt < 64 ∧ -8 ≤ a2.toInt ∧ a2.toInt ≤ 8 ∧ -1000000000 ≤ a3.toInt ∧ a3.toInt ≤ 1000000000 ∧ 1 ≤ a4.toInt ∧ a4.toInt ≤ 32)); omega), (by show (Mo_used sMo_10).toInt = (Mo_used sMo).toInt; omega), (by show (Mo_taped sMo_10).toInt = (Mo_taped sMo).toInt; omega)⟩
              · rw [i_lt] at c_68
                have k_77 : (32 : Int32).toInt = 32 := by decide
                unfold Mod_element_j52
                refine So.neg (by decide) ?_
                unfold Mod_element_j65
                refine So.lt2 fun sMo_10 e_79 => ?_
                have I_80 : I_Mo sMo_10 := by rw [e_79]; exact (I_Mo_set_thrown I_sMo)
                have f_81 : (Mo_thrown sMo_10).toInt = (0 : Int32).toInt := by subst e_79; rfl
                have f_82 : (Mo_used sMo_10).toInt = (Mo_used sMo).toInt := by subst e_79; rfl
                have f_83 : (Mo_taped sMo_10).toInt = (Mo_taped sMo).toInt := by subst e_79; rfl
                refine So.neg (by decide) ?_
                refine So.bd (t_Mod_entry (by show -1 ≤ a0.toInt; omega) (by show a0.toInt < 4; omega) (by show 0 ≤ a1.toInt; omega) (by show a1.toInt < 64; omega)) fun q11 h_85 => ?_
                have p_86 := h_85
                refine So.gd (i_in.mpr (by omega)) ?_
                refine So.lt2 fun sMthere_13 e_87 => ?_
                have f_88 := i_nar (1 : Int32)
                have I_89 : A_Mthere sMthere_13 := by rw [e_87]; exact (A_Mthere_upd I_sMthere (by show 0 ≤ ((vp_nar .boolean 1) : Int32).toInt ∧ ((vp_nar .boolean 1) : Int32).toInt ≤ 1; omega))
                refine So.gd (i_in.mpr (by omega)) ?_
                refine So.lt2 fun sMscales_15 e_90 => ?_
                have I_91 : A_Mscales sMscales_15 := by rw [e_90]; exact (A_Mscales_upd I_sMscales (by show -8 ≤ (a2 : Int32).toInt ∧ (a2 : Int32).toInt ≤ 8; omega))
                refine So.gd (i_in.mpr (by omega)) ?_
                refine So.lt2 fun sMreferences_17 e_92 => ?_
                refine So.gd (i_in.mpr (by omega)) ?_
                refine So.lt2 fun sMwidths_19 e_93 => ?_
                have I_94 : A_Mwidths sMwidths_19 := by rw [e_93]; exact (A_Mwidths_upd I_sMwidths (by show 0 ≤ (a4 : Int32).toInt ∧ (a4 : Int32).toInt ≤ 32; omega))
                exact So.one ⟨I_80, I_89, I_91, I_94, (by show ((Mo_thrown sMo_10).toInt = 0 ∧ (-1 ≤ a0.toInt ∧ a0.toInt < 4 ∧ 0 ≤ a1.toInt ∧ a1.toInt < 64 ∧ -8 ≤ a2.toInt ∧ a2.toInt ≤ 8 ∧ -1000000000 ≤ a3.toInt ∧ a3.toInt ≤ 1000000000 ∧ 1 ≤ a4.toInt ∧ a4.toInt ≤ 32)) ∨ ((Mo_thrown sMo_10).toInt = 1 ∧ ¬ (-1 ≤ a0.toInt ∧ a0.toInt < 4 ∧ 0 ≤ a1.toInt ∧ a1.toInt < 64 ∧ -8 ≤ a2.toInt ∧ a2.toInt ≤ 8 ∧ -1000000000 ≤ a3.toInt ∧ a3.toInt ≤ 1000000000 ∧ 1 ≤ a4.toInt ∧ a4.toInt ≤ 32)); omega), (by show (Mo_used sMo_10).toInt = (Mo_used sMo).toInt; omega), (by show (Mo_taped sMo_10).toInt = (Mo_taped sMo).toInt; omega)⟩
theorem t_Mod_drop {a0 : Int32} {a1 : Int32} {sMo : S_Mo} {sMthere : (Nat → Int32)} (I_sMo : I_Mo sMo) (I_sMthere : A_Mthere sMthere) : So (Mod_drop a0 a1 sMo sMthere) (fun r => I_Mo r.2.1 ∧ A_Mthere r.2.2 ∧ ((Mo_used r.2.1).toInt = (Mo_used sMo).toInt) ∧ ((Mo_taped r.2.1).toInt = (Mo_taped sMo).toInt)) := by
  unfold Mod_drop
  refine So.lt2 fun sMo_1 e_1 => ?_
  have I_2 : I_Mo sMo_1 := by rw [e_1]; exact (I_Mo_set_thrown I_sMo)
  have k_3 : (0 : Int32).toInt = 0 := by decide
  have f_4 : (Mo_used sMo_1).toInt = (Mo_used sMo).toInt := by subst e_1; rfl
  have f_5 : (Mo_taped sMo_1).toInt = (Mo_taped sMo).toInt := by subst e_1; rfl
  refine So.bd (t_Mod_isEntry ) fun q2 h_6 => ?_
  have p_7 := h_6
  refine So.ite (fun c_8 => ?_) (fun c_8 => ?_)
  · rw [i_eq] at c_8
    exact So.one ⟨I_2, I_sMthere, (by show (Mo_used sMo_1).toInt = (Mo_used sMo).toInt; omega), (by show (Mo_taped sMo_1).toInt = (Mo_taped sMo).toInt; omega)⟩
  · rw [i_eq] at c_8
    refine So.bd (t_Mod_entry (by show -1 ≤ a0.toInt; omega) (by show a0.toInt < 4; omega) (by show 0 ≤ a1.toInt; omega) (by show a1.toInt < 64; omega)) fun q3 h_9 => ?_
    have p_10 := h_9
    refine So.gd (i_in.mpr (by omega)) ?_
    refine So.bd (t_Mod_entry (by show -1 ≤ a0.toInt; omega) (by show a0.toInt < 4; omega) (by show 0 ≤ a1.toInt; omega) (by show a1.toInt < 64; omega)) fun q5 h_11 => ?_
    have p_12 := h_11
    refine So.gd (i_in.mpr (by omega)) ?_
    refine So.lt2 fun sMthere_7 e_13 => ?_
    have f_14 := i_nar (0 : Int32)
    have I_15 : A_Mthere sMthere_7 := by rw [e_13]; exact (A_Mthere_upd I_sMthere (by show 0 ≤ ((vp_nar .boolean 0) : Int32).toInt ∧ ((vp_nar .boolean 0) : Int32).toInt ≤ 1; omega))
    have f_16 := A_Mthere_at I_sMthere (q3.toNatClampNeg)
    refine So.gd (i_bool (a := (sMthere (q3.toNatClampNeg))) (by omega)) ?_
    exact So.one ⟨I_2, I_15, (by show (Mo_used sMo_1).toInt = (Mo_used sMo).toInt; omega), (by show (Mo_taped sMo_1).toInt = (Mo_taped sMo).toInt; omega)⟩
theorem t_Mod_version {a0 : Int32} {sMo : S_Mo} (I_sMo : I_Mo sMo) : So (Mod_version a0 sMo) (fun r => I_Mo r ∧ (((Mo_thrown r).toInt = 0 ∧ (0 ≤ a0.toInt ∧ a0.toInt < 4)) ∨ ((Mo_thrown r).toInt = 1 ∧ ¬ (0 ≤ a0.toInt ∧ a0.toInt < 4))) ∧ ((Mo_taped r).toInt = (Mo_taped sMo).toInt)) := by
  unfold Mod_version
  refine So.ite (fun c_1 => ?_) (fun c_1 => ?_)
  · rw [i_lt] at c_1
    have k_2 : (0 : Int32).toInt = 0 := by decide
    unfold Mod_version_j10
    unfold Mod_version_j15
    refine So.lt2 fun sMo_3 e_3 => ?_
    have I_4 : I_Mo sMo_3 := by rw [e_3]; exact (I_Mo_set_thrown I_sMo)
    have k_5 : (1 : Int32).toInt = 1 := by decide
    have f_6 : (Mo_thrown sMo_3).toInt = (1 : Int32).toInt := by subst e_3; rfl
    have f_7 : (Mo_taped sMo_3).toInt = (Mo_taped sMo).toInt := by subst e_3; rfl
    refine So.ite (fun c_8 => ?_) (fun c_8 => ?_)
    · rw [i_eq] at c_8
      refine So.lt2 fun sMo_4 e_9 => ?_
      have I_10 : I_Mo sMo_4 := by rw [e_9]; exact (I_Mo_set_used I_4 (by show 0 ≤ (a0 : Int32).toInt ∧ (a0 : Int32).toInt ≤ 3; omega))
      have f_11 : (Mo_thrown sMo_4).toInt = (Mo_thrown sMo_3).toInt := by subst e_9; rfl
      have f_12 : (Mo_taped sMo_4).toInt = (Mo_taped sMo_3).toInt := by subst e_9; rfl
      exact So.one ⟨I_10, (by show ((Mo_thrown sMo_4).toInt = 0 ∧ (0 ≤ a0.toInt ∧ a0.toInt < 4)) ∨ ((Mo_thrown sMo_4).toInt = 1 ∧ ¬ (0 ≤ a0.toInt ∧ a0.toInt < 4)); omega), (by show (Mo_taped sMo_4).toInt = (Mo_taped sMo).toInt; omega)⟩
    · rw [i_eq] at c_8
      exact So.one ⟨I_4, (by show ((Mo_thrown sMo_3).toInt = 0 ∧ (0 ≤ a0.toInt ∧ a0.toInt < 4)) ∨ ((Mo_thrown sMo_3).toInt = 1 ∧ ¬ (0 ≤ a0.toInt ∧ a0.toInt < 4)); omega), (by show (Mo_taped sMo_3).toInt = (Mo_taped sMo).toInt; omega)⟩
  · rw [i_lt] at c_1
    have k_13 : (0 : Int32).toInt = 0 := by decide
    refine So.ite (fun c_14 => ?_) (fun c_14 => ?_)
    · rw [i_le] at c_14
      have k_15 : (3 : Int32).toInt = 3 := by decide
      unfold Mod_version_j15
      refine So.lt2 fun sMo_3 e_16 => ?_
      have I_17 : I_Mo sMo_3 := by rw [e_16]; exact (I_Mo_set_thrown I_sMo)
      have f_18 : (Mo_thrown sMo_3).toInt = (0 : Int32).toInt := by subst e_16; rfl
      have f_19 : (Mo_taped sMo_3).toInt = (Mo_taped sMo).toInt := by subst e_16; rfl
      refine So.ite (fun c_20 => ?_) (fun c_20 => ?_)
      · rw [i_eq] at c_20
        refine So.lt2 fun sMo_4 e_21 => ?_
        have I_22 : I_Mo sMo_4 := by rw [e_21]; exact (I_Mo_set_used I_17 (by show 0 ≤ (a0 : Int32).toInt ∧ (a0 : Int32).toInt ≤ 3; omega))
        have f_23 : (Mo_thrown sMo_4).toInt = (Mo_thrown sMo_3).toInt := by subst e_21; rfl
        have f_24 : (Mo_taped sMo_4).toInt = (Mo_taped sMo_3).toInt := by subst e_21; rfl
        exact So.one ⟨I_22, (by show ((Mo_thrown sMo_4).toInt = 0 ∧ (0 ≤ a0.toInt ∧ a0.toInt < 4)) ∨ ((Mo_thrown sMo_4).toInt = 1 ∧ ¬ (0 ≤ a0.toInt ∧ a0.toInt < 4)); omega), (by show (Mo_taped sMo_4).toInt = (Mo_taped sMo).toInt; omega)⟩
      · rw [i_eq] at c_20
        exact So.one ⟨I_17, (by show ((Mo_thrown sMo_3).toInt = 0 ∧ (0 ≤ a0.toInt ∧ a0.toInt < 4)) ∨ ((Mo_thrown sMo_3).toInt = 1 ∧ ¬ (0 ≤ a0.toInt ∧ a0.toInt < 4)); omega), (by show (Mo_taped sMo_3).toInt = (Mo_taped sMo).toInt; omega)⟩
    · rw [i_le] at c_14
      have k_25 : (3 : Int32).toInt = 3 := by decide
      unfold Mod_version_j10
      unfold Mod_version_j15
      refine So.lt2 fun sMo_3 e_26 => ?_
      have I_27 : I_Mo sMo_3 := by rw [e_26]; exact (I_Mo_set_thrown I_sMo)
      have k_28 : (1 : Int32).toInt = 1 := by decide
      have f_29 : (Mo_thrown sMo_3).toInt = (1 : Int32).toInt := by subst e_26; rfl
      have f_30 : (Mo_taped sMo_3).toInt = (Mo_taped sMo).toInt := by subst e_26; rfl
      refine So.ite (fun c_31 => ?_) (fun c_31 => ?_)
      · rw [i_eq] at c_31
        refine So.lt2 fun sMo_4 e_32 => ?_
        have I_33 : I_Mo sMo_4 := by rw [e_32]; exact (I_Mo_set_used I_27 (by show 0 ≤ (a0 : Int32).toInt ∧ (a0 : Int32).toInt ≤ 3; omega))
        have f_34 : (Mo_thrown sMo_4).toInt = (Mo_thrown sMo_3).toInt := by subst e_32; rfl
        have f_35 : (Mo_taped sMo_4).toInt = (Mo_taped sMo_3).toInt := by subst e_32; rfl
        exact So.one ⟨I_33, (by show ((Mo_thrown sMo_4).toInt = 0 ∧ (0 ≤ a0.toInt ∧ a0.toInt < 4)) ∨ ((Mo_thrown sMo_4).toInt = 1 ∧ ¬ (0 ≤ a0.toInt ∧ a0.toInt < 4)); omega), (by show (Mo_taped sMo_4).toInt = (Mo_taped sMo).toInt; omega)⟩
      · rw [i_eq] at c_31
        exact So.one ⟨I_27, (by show ((Mo_thrown sMo_3).toInt = 0 ∧ (0 ≤ a0.toInt ∧ a0.toInt < 4)) ∨ ((Mo_thrown sMo_3).toInt = 1 ∧ ¬ (0 ≤ a0.toInt ∧ a0.toInt < 4)); omega), (by show (Mo_taped sMo_3).toInt = (Mo_taped sMo).toInt; omega)⟩
theorem t_Mod_isRepeat {a0 : Int32}  : So (Mod_isRepeat a0) (fun r => ((r.toInt = 1 ∧ (216 ≤ a0.toInt ∧ a0.toInt ≤ 343)) ∨ (r.toInt = 0 ∧ ¬ (216 ≤ a0.toInt ∧ a0.toInt ≤ 343)))) := by
  unfold Mod_isRepeat
  refine So.ite (fun c_1 => ?_) (fun c_1 => ?_)
  · rw [i_lt] at c_1
    have k_2 : (216 : Int32).toInt = 216 := by decide
    have k_3 : (0 : Int32).toInt = 0 := by decide
    exact So.one (by show ((0 : Int32).toInt = 1 ∧ (216 ≤ a0.toInt ∧ a0.toInt ≤ 343)) ∨ ((0 : Int32).toInt = 0 ∧ ¬ (216 ≤ a0.toInt ∧ a0.toInt ≤ 343)); omega)
  · rw [i_lt] at c_1
    have k_4 : (216 : Int32).toInt = 216 := by decide
    refine So.ite (fun c_5 => ?_) (fun c_5 => ?_)
    · rw [i_lt] at c_5
      have k_6 : (343 : Int32).toInt = 343 := by decide
      have k_7 : (0 : Int32).toInt = 0 := by decide
      exact So.one (by show ((0 : Int32).toInt = 1 ∧ (216 ≤ a0.toInt ∧ a0.toInt ≤ 343)) ∨ ((0 : Int32).toInt = 0 ∧ ¬ (216 ≤ a0.toInt ∧ a0.toInt ≤ 343)); omega)
    · rw [i_lt] at c_5
      have k_8 : (343 : Int32).toInt = 343 := by decide
      have k_9 : (1 : Int32).toInt = 1 := by decide
      exact So.one (by show ((1 : Int32).toInt = 1 ∧ (216 ≤ a0.toInt ∧ a0.toInt ≤ 343)) ∨ ((1 : Int32).toInt = 0 ∧ ¬ (216 ≤ a0.toInt ∧ a0.toInt ≤ 343)); omega)
theorem t_Mod_isDescriptor_j109 {x0_j109 : Int32}  : So (Mod_isDescriptor_j109 x0_j109) (fun r => ((r.toInt = 1 ∧ (x0_j109.toInt = 520)) ∨ (r.toInt = 0 ∧ ¬ (x0_j109.toInt = 520)))) := by
  unfold Mod_isDescriptor_j109
  refine So.ite (fun c_1 => ?_) (fun c_1 => ?_)
  · rw [i_eq] at c_1
    have k_2 : (520 : Int32).toInt = 520 := by decide
    have k_3 : (1 : Int32).toInt = 1 := by decide
    exact So.one (by show ((1 : Int32).toInt = 1 ∧ (x0_j109.toInt = 520)) ∨ ((1 : Int32).toInt = 0 ∧ ¬ (x0_j109.toInt = 520)); omega)
  · rw [i_eq] at c_1
    have k_4 : (520 : Int32).toInt = 520 := by decide
    have k_5 : (0 : Int32).toInt = 0 := by decide
    exact So.one (by show ((0 : Int32).toInt = 1 ∧ (x0_j109.toInt = 520)) ∨ ((0 : Int32).toInt = 0 ∧ ¬ (x0_j109.toInt = 520)); omega)
theorem t_Mod_isDescriptor_j84 {x0_j84 : Int32} {x1_j84 : Int32} (g_0 : (x1_j84.toInt = 0 ∧ ¬ ((400 ≤ x0_j84.toInt ∧ x0_j84.toInt ≤ 431) ∨ (440 ≤ x0_j84.toInt ∧ x0_j84.toInt ≤ 455) ∨ (460 ≤ x0_j84.toInt ∧ x0_j84.toInt ≤ 468) ∨ (480 ≤ x0_j84.toInt ∧ x0_j84.toInt ≤ 487))) ∨ (x1_j84.toInt = 1 ∧ ((400 ≤ x0_j84.toInt ∧ x0_j84.toInt ≤ 431) ∨ (440 ≤ x0_j84.toInt ∧ x0_j84.toInt ≤ 455) ∨ (460 ≤ x0_j84.toInt ∧ x0_j84.toInt ≤ 468) ∨ (480 ≤ x0_j84.toInt ∧ x0_j84.toInt ≤ 487)))) (g_1 : ¬ (0 ≤ x0_j84.toInt ∧ x0_j84.toInt ≤ 63)) (g_2 : ¬ (100 ≤ x0_j84.toInt ∧ x0_j84.toInt ≤ 115)) : So (Mod_isDescriptor_j84 x0_j84 x1_j84) (fun r => ((r.toInt = 1 ∧ ((0 ≤ x0_j84.toInt ∧ x0_j84.toInt ≤ 63) ∨ (100 ≤ x0_j84.toInt ∧ x0_j84.toInt ≤ 115) ∨ (216 ≤ x0_j84.toInt ∧ x0_j84.toInt ≤ 343) ∨ ((400 ≤ x0_j84.toInt ∧ x0_j84.toInt ≤ 431) ∨ (440 ≤ x0_j84.toInt ∧ x0_j84.toInt ≤ 455) ∨ (460 ≤ x0_j84.toInt ∧ x0_j84.toInt ≤ 468) ∨ (480 ≤ x0_j84.toInt ∧ x0_j84.toInt ≤ 487)) ∨ (501 ≤ x0_j84.toInt ∧ x0_j84.toInt ≤ 516) ∨ x0_j84.toInt = 520)) ∨ (r.toInt = 0 ∧ ¬ ((0 ≤ x0_j84.toInt ∧ x0_j84.toInt ≤ 63) ∨ (100 ≤ x0_j84.toInt ∧ x0_j84.toInt ≤ 115) ∨ (216 ≤ x0_j84.toInt ∧ x0_j84.toInt ≤ 343) ∨ ((400 ≤ x0_j84.toInt ∧ x0_j84.toInt ≤ 431) ∨ (440 ≤ x0_j84.toInt ∧ x0_j84.toInt ≤ 455) ∨ (460 ≤ x0_j84.toInt ∧ x0_j84.toInt ≤ 468) ∨ (480 ≤ x0_j84.toInt ∧ x0_j84.toInt ≤ 487)) ∨ (501 ≤ x0_j84.toInt ∧ x0_j84.toInt ≤ 516) ∨ x0_j84.toInt = 520)))) := by
  unfold Mod_isDescriptor_j84
  refine So.bd (t_Mod_isRepeat ) fun q13 h_1 => ?_
  have p_2 := h_1
  refine So.ite (fun c_3 => ?_) (fun c_3 => ?_)
  · rw [i_eq] at c_3
    have k_4 : (0 : Int32).toInt = 0 := by decide
    refine So.ite (fun c_5 => ?_) (fun c_5 => ?_)
    · rw [i_eq] at c_5
      refine So.ite (fun c_6 => ?_) (fun c_6 => ?_)
      · rw [i_lt] at c_6
        have k_7 : (501 : Int32).toInt = 501 := by decide
        refine So.imp (t_Mod_isDescriptor_j109 ) fun q_z h_z => ?_
        have p_8 := h_z
        exact (by show (q_z.toInt = 1 ∧ ((0 ≤ x0_j84.toInt ∧ x0_j84.toInt ≤ 63) ∨ (100 ≤ x0_j84.toInt ∧ x0_j84.toInt ≤ 115) ∨ (216 ≤ x0_j84.toInt ∧ x0_j84.toInt ≤ 343) ∨ ((400 ≤ x0_j84.toInt ∧ x0_j84.toInt ≤ 431) ∨ (440 ≤ x0_j84.toInt ∧ x0_j84.toInt ≤ 455) ∨ (460 ≤ x0_j84.toInt ∧ x0_j84.toInt ≤ 468) ∨ (480 ≤ x0_j84.toInt ∧ x0_j84.toInt ≤ 487)) ∨ (501 ≤ x0_j84.toInt ∧ x0_j84.toInt ≤ 516) ∨ x0_j84.toInt = 520)) ∨ (q_z.toInt = 0 ∧ ¬ ((0 ≤ x0_j84.toInt ∧ x0_j84.toInt ≤ 63) ∨ (100 ≤ x0_j84.toInt ∧ x0_j84.toInt ≤ 115) ∨ (216 ≤ x0_j84.toInt ∧ x0_j84.toInt ≤ 343) ∨ ((400 ≤ x0_j84.toInt ∧ x0_j84.toInt ≤ 431) ∨ (440 ≤ x0_j84.toInt ∧ x0_j84.toInt ≤ 455) ∨ (460 ≤ x0_j84.toInt ∧ x0_j84.toInt ≤ 468) ∨ (480 ≤ x0_j84.toInt ∧ x0_j84.toInt ≤ 487)) ∨ (501 ≤ x0_j84.toInt ∧ x0_j84.toInt ≤ 516) ∨ x0_j84.toInt = 520)); omega)
      · rw [i_lt] at c_6
        have k_9 : (501 : Int32).toInt = 501 := by decide
        refine So.ite (fun c_10 => ?_) (fun c_10 => ?_)
        · rw [i_le] at c_10
          have k_11 : (516 : Int32).toInt = 516 := by decide
          have k_12 : (1 : Int32).toInt = 1 := by decide
          exact So.one (by show ((1 : Int32).toInt = 1 ∧ ((0 ≤ x0_j84.toInt ∧ x0_j84.toInt ≤ 63) ∨ (100 ≤ x0_j84.toInt ∧ x0_j84.toInt ≤ 115) ∨ (216 ≤ x0_j84.toInt ∧ x0_j84.toInt ≤ 343) ∨ ((400 ≤ x0_j84.toInt ∧ x0_j84.toInt ≤ 431) ∨ (440 ≤ x0_j84.toInt ∧ x0_j84.toInt ≤ 455) ∨ (460 ≤ x0_j84.toInt ∧ x0_j84.toInt ≤ 468) ∨ (480 ≤ x0_j84.toInt ∧ x0_j84.toInt ≤ 487)) ∨ (501 ≤ x0_j84.toInt ∧ x0_j84.toInt ≤ 516) ∨ x0_j84.toInt = 520)) ∨ ((1 : Int32).toInt = 0 ∧ ¬ ((0 ≤ x0_j84.toInt ∧ x0_j84.toInt ≤ 63) ∨ (100 ≤ x0_j84.toInt ∧ x0_j84.toInt ≤ 115) ∨ (216 ≤ x0_j84.toInt ∧ x0_j84.toInt ≤ 343) ∨ ((400 ≤ x0_j84.toInt ∧ x0_j84.toInt ≤ 431) ∨ (440 ≤ x0_j84.toInt ∧ x0_j84.toInt ≤ 455) ∨ (460 ≤ x0_j84.toInt ∧ x0_j84.toInt ≤ 468) ∨ (480 ≤ x0_j84.toInt ∧ x0_j84.toInt ≤ 487)) ∨ (501 ≤ x0_j84.toInt ∧ x0_j84.toInt ≤ 516) ∨ x0_j84.toInt = 520)); omega)
        · rw [i_le] at c_10
          have k_13 : (516 : Int32).toInt = 516 := by decide
          refine So.imp (t_Mod_isDescriptor_j109 ) fun q_z h_z => ?_
          have p_14 := h_z
          exact (by show (q_z.toInt = 1 ∧ ((0 ≤ x0_j84.toInt ∧ x0_j84.toInt ≤ 63) ∨ (100 ≤ x0_j84.toInt ∧ x0_j84.toInt ≤ 115) ∨ (216 ≤ x0_j84.toInt ∧ x0_j84.toInt ≤ 343) ∨ ((400 ≤ x0_j84.toInt ∧ x0_j84.toInt ≤ 431) ∨ (440 ≤ x0_j84.toInt ∧ x0_j84.toInt ≤ 455) ∨ (460 ≤ x0_j84.toInt ∧ x0_j84.toInt ≤ 468) ∨ (480 ≤ x0_j84.toInt ∧ x0_j84.toInt ≤ 487)) ∨ (501 ≤ x0_j84.toInt ∧ x0_j84.toInt ≤ 516) ∨ x0_j84.toInt = 520)) ∨ (q_z.toInt = 0 ∧ ¬ ((0 ≤ x0_j84.toInt ∧ x0_j84.toInt ≤ 63) ∨ (100 ≤ x0_j84.toInt ∧ x0_j84.toInt ≤ 115) ∨ (216 ≤ x0_j84.toInt ∧ x0_j84.toInt ≤ 343) ∨ ((400 ≤ x0_j84.toInt ∧ x0_j84.toInt ≤ 431) ∨ (440 ≤ x0_j84.toInt ∧ x0_j84.toInt ≤ 455) ∨ (460 ≤ x0_j84.toInt ∧ x0_j84.toInt ≤ 468) ∨ (480 ≤ x0_j84.toInt ∧ x0_j84.toInt ≤ 487)) ∨ (501 ≤ x0_j84.toInt ∧ x0_j84.toInt ≤ 516) ∨ x0_j84.toInt = 520)); omega)
    · rw [i_eq] at c_5
      have k_15 : (1 : Int32).toInt = 1 := by decide
      exact So.one (by show ((1 : Int32).toInt = 1 ∧ ((0 ≤ x0_j84.toInt ∧ x0_j84.toInt ≤ 63) ∨ (100 ≤ x0_j84.toInt ∧ x0_j84.toInt ≤ 115) ∨ (216 ≤ x0_j84.toInt ∧ x0_j84.toInt ≤ 343) ∨ ((400 ≤ x0_j84.toInt ∧ x0_j84.toInt ≤ 431) ∨ (440 ≤ x0_j84.toInt ∧ x0_j84.toInt ≤ 455) ∨ (460 ≤ x0_j84.toInt ∧ x0_j84.toInt ≤ 468) ∨ (480 ≤ x0_j84.toInt ∧ x0_j84.toInt ≤ 487)) ∨ (501 ≤ x0_j84.toInt ∧ x0_j84.toInt ≤ 516) ∨ x0_j84.toInt = 520)) ∨ ((1 : Int32).toInt = 0 ∧ ¬ ((0 ≤ x0_j84.toInt ∧ x0_j84.toInt ≤ 63) ∨ (100 ≤ x0_j84.toInt ∧ x0_j84.toInt ≤ 115) ∨ (216 ≤ x0_j84.toInt ∧ x0_j84.toInt ≤ 343) ∨ ((400 ≤ x0_j84.toInt ∧ x0_j84.toInt ≤ 431) ∨ (440 ≤ x0_j84.toInt ∧ x0_j84.toInt ≤ 455) ∨ (460 ≤ x0_j84.toInt ∧ x0_j84.toInt ≤ 468) ∨ (480 ≤ x0_j84.toInt ∧ x0_j84.toInt ≤ 487)) ∨ (501 ≤ x0_j84.toInt ∧ x0_j84.toInt ≤ 516) ∨ x0_j84.toInt = 520)); omega)
  · rw [i_eq] at c_3
    have k_16 : (0 : Int32).toInt = 0 := by decide
    have k_17 : (1 : Int32).toInt = 1 := by decide
    exact So.one (by show ((1 : Int32).toInt = 1 ∧ ((0 ≤ x0_j84.toInt ∧ x0_j84.toInt ≤ 63) ∨ (100 ≤ x0_j84.toInt ∧ x0_j84.toInt ≤ 115) ∨ (216 ≤ x0_j84.toInt ∧ x0_j84.toInt ≤ 343) ∨ ((400 ≤ x0_j84.toInt ∧ x0_j84.toInt ≤ 431) ∨ (440 ≤ x0_j84.toInt ∧ x0_j84.toInt ≤ 455) ∨ (460 ≤ x0_j84.toInt ∧ x0_j84.toInt ≤ 468) ∨ (480 ≤ x0_j84.toInt ∧ x0_j84.toInt ≤ 487)) ∨ (501 ≤ x0_j84.toInt ∧ x0_j84.toInt ≤ 516) ∨ x0_j84.toInt = 520)) ∨ ((1 : Int32).toInt = 0 ∧ ¬ ((0 ≤ x0_j84.toInt ∧ x0_j84.toInt ≤ 63) ∨ (100 ≤ x0_j84.toInt ∧ x0_j84.toInt ≤ 115) ∨ (216 ≤ x0_j84.toInt ∧ x0_j84.toInt ≤ 343) ∨ ((400 ≤ x0_j84.toInt ∧ x0_j84.toInt ≤ 431) ∨ (440 ≤ x0_j84.toInt ∧ x0_j84.toInt ≤ 455) ∨ (460 ≤ x0_j84.toInt ∧ x0_j84.toInt ≤ 468) ∨ (480 ≤ x0_j84.toInt ∧ x0_j84.toInt ≤ 487)) ∨ (501 ≤ x0_j84.toInt ∧ x0_j84.toInt ≤ 516) ∨ x0_j84.toInt = 520)); omega)
theorem t_Mod_isDescriptor_j72 {x0_j72 : Int32} {x1_j72 : Int32} (g_0 : (x1_j72.toInt = 0 ∧ ¬ ((400 ≤ x0_j72.toInt ∧ x0_j72.toInt ≤ 431) ∨ (440 ≤ x0_j72.toInt ∧ x0_j72.toInt ≤ 455) ∨ (460 ≤ x0_j72.toInt ∧ x0_j72.toInt ≤ 468) ∨ (480 ≤ x0_j72.toInt ∧ x0_j72.toInt ≤ 487))) ∨ (x1_j72.toInt = 1 ∧ ((400 ≤ x0_j72.toInt ∧ x0_j72.toInt ≤ 431) ∨ (440 ≤ x0_j72.toInt ∧ x0_j72.toInt ≤ 455) ∨ (460 ≤ x0_j72.toInt ∧ x0_j72.toInt ≤ 468) ∨ (480 ≤ x0_j72.toInt ∧ x0_j72.toInt ≤ 487)))) (g_1 : ¬ (0 ≤ x0_j72.toInt ∧ x0_j72.toInt ≤ 63)) : So (Mod_isDescriptor_j72 x0_j72 x1_j72) (fun r => ((r.toInt = 1 ∧ ((0 ≤ x0_j72.toInt ∧ x0_j72.toInt ≤ 63) ∨ (100 ≤ x0_j72.toInt ∧ x0_j72.toInt ≤ 115) ∨ (216 ≤ x0_j72.toInt ∧ x0_j72.toInt ≤ 343) ∨ ((400 ≤ x0_j72.toInt ∧ x0_j72.toInt ≤ 431) ∨ (440 ≤ x0_j72.toInt ∧ x0_j72.toInt ≤ 455) ∨ (460 ≤ x0_j72.toInt ∧ x0_j72.toInt ≤ 468) ∨ (480 ≤ x0_j72.toInt ∧ x0_j72.toInt ≤ 487)) ∨ (501 ≤ x0_j72.toInt ∧ x0_j72.toInt ≤ 516) ∨ x0_j72.toInt = 520)) ∨ (r.toInt = 0 ∧ ¬ ((0 ≤ x0_j72.toInt ∧ x0_j72.toInt ≤ 63) ∨ (100 ≤ x0_j72.toInt ∧ x0_j72.toInt ≤ 115) ∨ (216 ≤ x0_j72.toInt ∧ x0_j72.toInt ≤ 343) ∨ ((400 ≤ x0_j72.toInt ∧ x0_j72.toInt ≤ 431) ∨ (440 ≤ x0_j72.toInt ∧ x0_j72.toInt ≤ 455) ∨ (460 ≤ x0_j72.toInt ∧ x0_j72.toInt ≤ 468) ∨ (480 ≤ x0_j72.toInt ∧ x0_j72.toInt ≤ 487)) ∨ (501 ≤ x0_j72.toInt ∧ x0_j72.toInt ≤ 516) ∨ x0_j72.toInt = 520)))) := by
  unfold Mod_isDescriptor_j72
  refine So.ite (fun c_1 => ?_) (fun c_1 => ?_)
  · rw [i_lt] at c_1
    have k_2 : (100 : Int32).toInt = 100 := by decide
    refine So.imp (t_Mod_isDescriptor_j84 (by show (x1_j72.toInt = 0 ∧ ¬ ((400 ≤ x0_j72.toInt ∧ x0_j72.toInt ≤ 431) ∨ (440 ≤ x0_j72.toInt ∧ x0_j72.toInt ≤ 455) ∨ (460 ≤ x0_j72.toInt ∧ x0_j72.toInt ≤ 468) ∨ (480 ≤ x0_j72.toInt ∧ x0_j72.toInt ≤ 487))) ∨ (x1_j72.toInt = 1 ∧ ((400 ≤ x0_j72.toInt ∧ x0_j72.toInt ≤ 431) ∨ (440 ≤ x0_j72.toInt ∧ x0_j72.toInt ≤ 455) ∨ (460 ≤ x0_j72.toInt ∧ x0_j72.toInt ≤ 468) ∨ (480 ≤ x0_j72.toInt ∧ x0_j72.toInt ≤ 487))); omega) (by show ¬ (0 ≤ x0_j72.toInt ∧ x0_j72.toInt ≤ 63); omega) (by show ¬ (100 ≤ x0_j72.toInt ∧ x0_j72.toInt ≤ 115); omega)) fun q_z h_z => ?_
    have p_3 := h_z
    exact (by show (q_z.toInt = 1 ∧ ((0 ≤ x0_j72.toInt ∧ x0_j72.toInt ≤ 63) ∨ (100 ≤ x0_j72.toInt ∧ x0_j72.toInt ≤ 115) ∨ (216 ≤ x0_j72.toInt ∧ x0_j72.toInt ≤ 343) ∨ ((400 ≤ x0_j72.toInt ∧ x0_j72.toInt ≤ 431) ∨ (440 ≤ x0_j72.toInt ∧ x0_j72.toInt ≤ 455) ∨ (460 ≤ x0_j72.toInt ∧ x0_j72.toInt ≤ 468) ∨ (480 ≤ x0_j72.toInt ∧ x0_j72.toInt ≤ 487)) ∨ (501 ≤ x0_j72.toInt ∧ x0_j72.toInt ≤ 516) ∨ x0_j72.toInt = 520)) ∨ (q_z.toInt = 0 ∧ ¬ ((0 ≤ x0_j72.toInt ∧ x0_j72.toInt ≤ 63) ∨ (100 ≤ x0_j72.toInt ∧ x0_j72.toInt ≤ 115) ∨ (216 ≤ x0_j72.toInt ∧ x0_j72.toInt ≤ 343) ∨ ((400 ≤ x0_j72.toInt ∧ x0_j72.toInt ≤ 431) ∨ (440 ≤ x0_j72.toInt ∧ x0_j72.toInt ≤ 455) ∨ (460 ≤ x0_j72.toInt ∧ x0_j72.toInt ≤ 468) ∨ (480 ≤ x0_j72.toInt ∧ x0_j72.toInt ≤ 487)) ∨ (501 ≤ x0_j72.toInt ∧ x0_j72.toInt ≤ 516) ∨ x0_j72.toInt = 520)); omega)
  · rw [i_lt] at c_1
    have k_4 : (100 : Int32).toInt = 100 := by decide
    refine So.ite (fun c_5 => ?_) (fun c_5 => ?_)
    · rw [i_le] at c_5
      have k_6 : (115 : Int32).toInt = 115 := by decide
      have k_7 : (1 : Int32).toInt = 1 := by decide
      exact So.one (by show ((1 : Int32).toInt = 1 ∧ ((0 ≤ x0_j72.toInt ∧ x0_j72.toInt ≤ 63) ∨ (100 ≤ x0_j72.toInt ∧ x0_j72.toInt ≤ 115) ∨ (216 ≤ x0_j72.toInt ∧ x0_j72.toInt ≤ 343) ∨ ((400 ≤ x0_j72.toInt ∧ x0_j72.toInt ≤ 431) ∨ (440 ≤ x0_j72.toInt ∧ x0_j72.toInt ≤ 455) ∨ (460 ≤ x0_j72.toInt ∧ x0_j72.toInt ≤ 468) ∨ (480 ≤ x0_j72.toInt ∧ x0_j72.toInt ≤ 487)) ∨ (501 ≤ x0_j72.toInt ∧ x0_j72.toInt ≤ 516) ∨ x0_j72.toInt = 520)) ∨ ((1 : Int32).toInt = 0 ∧ ¬ ((0 ≤ x0_j72.toInt ∧ x0_j72.toInt ≤ 63) ∨ (100 ≤ x0_j72.toInt ∧ x0_j72.toInt ≤ 115) ∨ (216 ≤ x0_j72.toInt ∧ x0_j72.toInt ≤ 343) ∨ ((400 ≤ x0_j72.toInt ∧ x0_j72.toInt ≤ 431) ∨ (440 ≤ x0_j72.toInt ∧ x0_j72.toInt ≤ 455) ∨ (460 ≤ x0_j72.toInt ∧ x0_j72.toInt ≤ 468) ∨ (480 ≤ x0_j72.toInt ∧ x0_j72.toInt ≤ 487)) ∨ (501 ≤ x0_j72.toInt ∧ x0_j72.toInt ≤ 516) ∨ x0_j72.toInt = 520)); omega)
    · rw [i_le] at c_5
      have k_8 : (115 : Int32).toInt = 115 := by decide
      refine So.imp (t_Mod_isDescriptor_j84 (by show (x1_j72.toInt = 0 ∧ ¬ ((400 ≤ x0_j72.toInt ∧ x0_j72.toInt ≤ 431) ∨ (440 ≤ x0_j72.toInt ∧ x0_j72.toInt ≤ 455) ∨ (460 ≤ x0_j72.toInt ∧ x0_j72.toInt ≤ 468) ∨ (480 ≤ x0_j72.toInt ∧ x0_j72.toInt ≤ 487))) ∨ (x1_j72.toInt = 1 ∧ ((400 ≤ x0_j72.toInt ∧ x0_j72.toInt ≤ 431) ∨ (440 ≤ x0_j72.toInt ∧ x0_j72.toInt ≤ 455) ∨ (460 ≤ x0_j72.toInt ∧ x0_j72.toInt ≤ 468) ∨ (480 ≤ x0_j72.toInt ∧ x0_j72.toInt ≤ 487))); omega) (by show ¬ (0 ≤ x0_j72.toInt ∧ x0_j72.toInt ≤ 63); omega) (by show ¬ (100 ≤ x0_j72.toInt ∧ x0_j72.toInt ≤ 115); omega)) fun q_z h_z => ?_
      have p_9 := h_z
      exact (by show (q_z.toInt = 1 ∧ ((0 ≤ x0_j72.toInt ∧ x0_j72.toInt ≤ 63) ∨ (100 ≤ x0_j72.toInt ∧ x0_j72.toInt ≤ 115) ∨ (216 ≤ x0_j72.toInt ∧ x0_j72.toInt ≤ 343) ∨ ((400 ≤ x0_j72.toInt ∧ x0_j72.toInt ≤ 431) ∨ (440 ≤ x0_j72.toInt ∧ x0_j72.toInt ≤ 455) ∨ (460 ≤ x0_j72.toInt ∧ x0_j72.toInt ≤ 468) ∨ (480 ≤ x0_j72.toInt ∧ x0_j72.toInt ≤ 487)) ∨ (501 ≤ x0_j72.toInt ∧ x0_j72.toInt ≤ 516) ∨ x0_j72.toInt = 520)) ∨ (q_z.toInt = 0 ∧ ¬ ((0 ≤ x0_j72.toInt ∧ x0_j72.toInt ≤ 63) ∨ (100 ≤ x0_j72.toInt ∧ x0_j72.toInt ≤ 115) ∨ (216 ≤ x0_j72.toInt ∧ x0_j72.toInt ≤ 343) ∨ ((400 ≤ x0_j72.toInt ∧ x0_j72.toInt ≤ 431) ∨ (440 ≤ x0_j72.toInt ∧ x0_j72.toInt ≤ 455) ∨ (460 ≤ x0_j72.toInt ∧ x0_j72.toInt ≤ 468) ∨ (480 ≤ x0_j72.toInt ∧ x0_j72.toInt ≤ 487)) ∨ (501 ≤ x0_j72.toInt ∧ x0_j72.toInt ≤ 516) ∨ x0_j72.toInt = 520)); omega)
theorem t_Mod_isDescriptor_j61 {x0_j61 : Int32} {t0_j61 : Int32} (g_0 : (t0_j61.toInt = 0 ∧ ¬ ((400 ≤ x0_j61.toInt ∧ x0_j61.toInt ≤ 431) ∨ (440 ≤ x0_j61.toInt ∧ x0_j61.toInt ≤ 455) ∨ (460 ≤ x0_j61.toInt ∧ x0_j61.toInt ≤ 468) ∨ (480 ≤ x0_j61.toInt ∧ x0_j61.toInt ≤ 487))) ∨ (t0_j61.toInt = 1 ∧ ((400 ≤ x0_j61.toInt ∧ x0_j61.toInt ≤ 431) ∨ (440 ≤ x0_j61.toInt ∧ x0_j61.toInt ≤ 455) ∨ (460 ≤ x0_j61.toInt ∧ x0_j61.toInt ≤ 468) ∨ (480 ≤ x0_j61.toInt ∧ x0_j61.toInt ≤ 487)))) : So (Mod_isDescriptor_j61 x0_j61 t0_j61) (fun r => ((r.toInt = 1 ∧ ((0 ≤ x0_j61.toInt ∧ x0_j61.toInt ≤ 63) ∨ (100 ≤ x0_j61.toInt ∧ x0_j61.toInt ≤ 115) ∨ (216 ≤ x0_j61.toInt ∧ x0_j61.toInt ≤ 343) ∨ ((400 ≤ x0_j61.toInt ∧ x0_j61.toInt ≤ 431) ∨ (440 ≤ x0_j61.toInt ∧ x0_j61.toInt ≤ 455) ∨ (460 ≤ x0_j61.toInt ∧ x0_j61.toInt ≤ 468) ∨ (480 ≤ x0_j61.toInt ∧ x0_j61.toInt ≤ 487)) ∨ (501 ≤ x0_j61.toInt ∧ x0_j61.toInt ≤ 516) ∨ x0_j61.toInt = 520)) ∨ (r.toInt = 0 ∧ ¬ ((0 ≤ x0_j61.toInt ∧ x0_j61.toInt ≤ 63) ∨ (100 ≤ x0_j61.toInt ∧ x0_j61.toInt ≤ 115) ∨ (216 ≤ x0_j61.toInt ∧ x0_j61.toInt ≤ 343) ∨ ((400 ≤ x0_j61.toInt ∧ x0_j61.toInt ≤ 431) ∨ (440 ≤ x0_j61.toInt ∧ x0_j61.toInt ≤ 455) ∨ (460 ≤ x0_j61.toInt ∧ x0_j61.toInt ≤ 468) ∨ (480 ≤ x0_j61.toInt ∧ x0_j61.toInt ≤ 487)) ∨ (501 ≤ x0_j61.toInt ∧ x0_j61.toInt ≤ 516) ∨ x0_j61.toInt = 520)))) := by
  unfold Mod_isDescriptor_j61
  refine So.ite (fun c_1 => ?_) (fun c_1 => ?_)
  · rw [i_lt] at c_1
    have k_2 : (0 : Int32).toInt = 0 := by decide
    refine So.imp (t_Mod_isDescriptor_j72 (by show (t0_j61.toInt = 0 ∧ ¬ ((400 ≤ x0_j61.toInt ∧ x0_j61.toInt ≤ 431) ∨ (440 ≤ x0_j61.toInt ∧ x0_j61.toInt ≤ 455) ∨ (460 ≤ x0_j61.toInt ∧ x0_j61.toInt ≤ 468) ∨ (480 ≤ x0_j61.toInt ∧ x0_j61.toInt ≤ 487))) ∨ (t0_j61.toInt = 1 ∧ ((400 ≤ x0_j61.toInt ∧ x0_j61.toInt ≤ 431) ∨ (440 ≤ x0_j61.toInt ∧ x0_j61.toInt ≤ 455) ∨ (460 ≤ x0_j61.toInt ∧ x0_j61.toInt ≤ 468) ∨ (480 ≤ x0_j61.toInt ∧ x0_j61.toInt ≤ 487))); omega) (by show ¬ (0 ≤ x0_j61.toInt ∧ x0_j61.toInt ≤ 63); omega)) fun q_z h_z => ?_
    have p_3 := h_z
    exact (by show (q_z.toInt = 1 ∧ ((0 ≤ x0_j61.toInt ∧ x0_j61.toInt ≤ 63) ∨ (100 ≤ x0_j61.toInt ∧ x0_j61.toInt ≤ 115) ∨ (216 ≤ x0_j61.toInt ∧ x0_j61.toInt ≤ 343) ∨ ((400 ≤ x0_j61.toInt ∧ x0_j61.toInt ≤ 431) ∨ (440 ≤ x0_j61.toInt ∧ x0_j61.toInt ≤ 455) ∨ (460 ≤ x0_j61.toInt ∧ x0_j61.toInt ≤ 468) ∨ (480 ≤ x0_j61.toInt ∧ x0_j61.toInt ≤ 487)) ∨ (501 ≤ x0_j61.toInt ∧ x0_j61.toInt ≤ 516) ∨ x0_j61.toInt = 520)) ∨ (q_z.toInt = 0 ∧ ¬ ((0 ≤ x0_j61.toInt ∧ x0_j61.toInt ≤ 63) ∨ (100 ≤ x0_j61.toInt ∧ x0_j61.toInt ≤ 115) ∨ (216 ≤ x0_j61.toInt ∧ x0_j61.toInt ≤ 343) ∨ ((400 ≤ x0_j61.toInt ∧ x0_j61.toInt ≤ 431) ∨ (440 ≤ x0_j61.toInt ∧ x0_j61.toInt ≤ 455) ∨ (460 ≤ x0_j61.toInt ∧ x0_j61.toInt ≤ 468) ∨ (480 ≤ x0_j61.toInt ∧ x0_j61.toInt ≤ 487)) ∨ (501 ≤ x0_j61.toInt ∧ x0_j61.toInt ≤ 516) ∨ x0_j61.toInt = 520)); omega)
  · rw [i_lt] at c_1
    have k_4 : (0 : Int32).toInt = 0 := by decide
    refine So.ite (fun c_5 => ?_) (fun c_5 => ?_)
    · rw [i_le] at c_5
      have k_6 : (63 : Int32).toInt = 63 := by decide
      have k_7 : (1 : Int32).toInt = 1 := by decide
      exact So.one (by show ((1 : Int32).toInt = 1 ∧ ((0 ≤ x0_j61.toInt ∧ x0_j61.toInt ≤ 63) ∨ (100 ≤ x0_j61.toInt ∧ x0_j61.toInt ≤ 115) ∨ (216 ≤ x0_j61.toInt ∧ x0_j61.toInt ≤ 343) ∨ ((400 ≤ x0_j61.toInt ∧ x0_j61.toInt ≤ 431) ∨ (440 ≤ x0_j61.toInt ∧ x0_j61.toInt ≤ 455) ∨ (460 ≤ x0_j61.toInt ∧ x0_j61.toInt ≤ 468) ∨ (480 ≤ x0_j61.toInt ∧ x0_j61.toInt ≤ 487)) ∨ (501 ≤ x0_j61.toInt ∧ x0_j61.toInt ≤ 516) ∨ x0_j61.toInt = 520)) ∨ ((1 : Int32).toInt = 0 ∧ ¬ ((0 ≤ x0_j61.toInt ∧ x0_j61.toInt ≤ 63) ∨ (100 ≤ x0_j61.toInt ∧ x0_j61.toInt ≤ 115) ∨ (216 ≤ x0_j61.toInt ∧ x0_j61.toInt ≤ 343) ∨ ((400 ≤ x0_j61.toInt ∧ x0_j61.toInt ≤ 431) ∨ (440 ≤ x0_j61.toInt ∧ x0_j61.toInt ≤ 455) ∨ (460 ≤ x0_j61.toInt ∧ x0_j61.toInt ≤ 468) ∨ (480 ≤ x0_j61.toInt ∧ x0_j61.toInt ≤ 487)) ∨ (501 ≤ x0_j61.toInt ∧ x0_j61.toInt ≤ 516) ∨ x0_j61.toInt = 520)); omega)
    · rw [i_le] at c_5
      have k_8 : (63 : Int32).toInt = 63 := by decide
      refine So.imp (t_Mod_isDescriptor_j72 (by show (t0_j61.toInt = 0 ∧ ¬ ((400 ≤ x0_j61.toInt ∧ x0_j61.toInt ≤ 431) ∨ (440 ≤ x0_j61.toInt ∧ x0_j61.toInt ≤ 455) ∨ (460 ≤ x0_j61.toInt ∧ x0_j61.toInt ≤ 468) ∨ (480 ≤ x0_j61.toInt ∧ x0_j61.toInt ≤ 487))) ∨ (t0_j61.toInt = 1 ∧ ((400 ≤ x0_j61.toInt ∧ x0_j61.toInt ≤ 431) ∨ (440 ≤ x0_j61.toInt ∧ x0_j61.toInt ≤ 455) ∨ (460 ≤ x0_j61.toInt ∧ x0_j61.toInt ≤ 468) ∨ (480 ≤ x0_j61.toInt ∧ x0_j61.toInt ≤ 487))); omega) (by show ¬ (0 ≤ x0_j61.toInt ∧ x0_j61.toInt ≤ 63); omega)) fun q_z h_z => ?_
      have p_9 := h_z
      exact (by show (q_z.toInt = 1 ∧ ((0 ≤ x0_j61.toInt ∧ x0_j61.toInt ≤ 63) ∨ (100 ≤ x0_j61.toInt ∧ x0_j61.toInt ≤ 115) ∨ (216 ≤ x0_j61.toInt ∧ x0_j61.toInt ≤ 343) ∨ ((400 ≤ x0_j61.toInt ∧ x0_j61.toInt ≤ 431) ∨ (440 ≤ x0_j61.toInt ∧ x0_j61.toInt ≤ 455) ∨ (460 ≤ x0_j61.toInt ∧ x0_j61.toInt ≤ 468) ∨ (480 ≤ x0_j61.toInt ∧ x0_j61.toInt ≤ 487)) ∨ (501 ≤ x0_j61.toInt ∧ x0_j61.toInt ≤ 516) ∨ x0_j61.toInt = 520)) ∨ (q_z.toInt = 0 ∧ ¬ ((0 ≤ x0_j61.toInt ∧ x0_j61.toInt ≤ 63) ∨ (100 ≤ x0_j61.toInt ∧ x0_j61.toInt ≤ 115) ∨ (216 ≤ x0_j61.toInt ∧ x0_j61.toInt ≤ 343) ∨ ((400 ≤ x0_j61.toInt ∧ x0_j61.toInt ≤ 431) ∨ (440 ≤ x0_j61.toInt ∧ x0_j61.toInt ≤ 455) ∨ (460 ≤ x0_j61.toInt ∧ x0_j61.toInt ≤ 468) ∨ (480 ≤ x0_j61.toInt ∧ x0_j61.toInt ≤ 487)) ∨ (501 ≤ x0_j61.toInt ∧ x0_j61.toInt ≤ 516) ∨ x0_j61.toInt = 520)); omega)
theorem t_Mod_isDescriptor {a0 : Int32}  : So (Mod_isDescriptor a0) (fun r => ((r.toInt = 1 ∧ ((0 ≤ a0.toInt ∧ a0.toInt ≤ 63) ∨ (100 ≤ a0.toInt ∧ a0.toInt ≤ 115) ∨ (216 ≤ a0.toInt ∧ a0.toInt ≤ 343) ∨ ((400 ≤ a0.toInt ∧ a0.toInt ≤ 431) ∨ (440 ≤ a0.toInt ∧ a0.toInt ≤ 455) ∨ (460 ≤ a0.toInt ∧ a0.toInt ≤ 468) ∨ (480 ≤ a0.toInt ∧ a0.toInt ≤ 487)) ∨ (501 ≤ a0.toInt ∧ a0.toInt ≤ 516) ∨ a0.toInt = 520)) ∨ (r.toInt = 0 ∧ ¬ ((0 ≤ a0.toInt ∧ a0.toInt ≤ 63) ∨ (100 ≤ a0.toInt ∧ a0.toInt ≤ 115) ∨ (216 ≤ a0.toInt ∧ a0.toInt ≤ 343) ∨ ((400 ≤ a0.toInt ∧ a0.toInt ≤ 431) ∨ (440 ≤ a0.toInt ∧ a0.toInt ≤ 455) ∨ (460 ≤ a0.toInt ∧ a0.toInt ≤ 468) ∨ (480 ≤ a0.toInt ∧ a0.toInt ≤ 487)) ∨ (501 ≤ a0.toInt ∧ a0.toInt ≤ 516) ∨ a0.toInt = 520)))) := by
  unfold Mod_isDescriptor
  refine So.ite (fun c_1 => ?_) (fun c_1 => ?_)
  · rw [i_lt] at c_1
    have k_2 : (400 : Int32).toInt = 400 := by decide
    unfold Mod_isDescriptor_j14
    refine So.ite (fun c_3 => ?_) (fun c_3 => ?_)
    · rw [i_lt] at c_3
      have k_4 : (440 : Int32).toInt = 440 := by decide
      unfold Mod_isDescriptor_j28
      refine So.ite (fun c_5 => ?_) (fun c_5 => ?_)
      · rw [i_lt] at c_5
        have k_6 : (460 : Int32).toInt = 460 := by decide
        unfold Mod_isDescriptor_j42
        refine So.ite (fun c_7 => ?_) (fun c_7 => ?_)
        · rw [i_lt] at c_7
          have k_8 : (480 : Int32).toInt = 480 := by decide
          unfold Mod_isDescriptor_j60
          have k_9 : (0 : Int32).toInt = 0 := by decide
          refine So.imp (t_Mod_isDescriptor_j61 (by show ((0 : Int32).toInt = 0 ∧ ¬ ((400 ≤ a0.toInt ∧ a0.toInt ≤ 431) ∨ (440 ≤ a0.toInt ∧ a0.toInt ≤ 455) ∨ (460 ≤ a0.toInt ∧ a0.toInt ≤ 468) ∨ (480 ≤ a0.toInt ∧ a0.toInt ≤ 487))) ∨ ((0 : Int32).toInt = 1 ∧ ((400 ≤ a0.toInt ∧ a0.toInt ≤ 431) ∨ (440 ≤ a0.toInt ∧ a0.toInt ≤ 455) ∨ (460 ≤ a0.toInt ∧ a0.toInt ≤ 468) ∨ (480 ≤ a0.toInt ∧ a0.toInt ≤ 487))); omega)) fun q_z h_z => ?_
          have p_10 := h_z
          exact (by show (q_z.toInt = 1 ∧ ((0 ≤ a0.toInt ∧ a0.toInt ≤ 63) ∨ (100 ≤ a0.toInt ∧ a0.toInt ≤ 115) ∨ (216 ≤ a0.toInt ∧ a0.toInt ≤ 343) ∨ ((400 ≤ a0.toInt ∧ a0.toInt ≤ 431) ∨ (440 ≤ a0.toInt ∧ a0.toInt ≤ 455) ∨ (460 ≤ a0.toInt ∧ a0.toInt ≤ 468) ∨ (480 ≤ a0.toInt ∧ a0.toInt ≤ 487)) ∨ (501 ≤ a0.toInt ∧ a0.toInt ≤ 516) ∨ a0.toInt = 520)) ∨ (q_z.toInt = 0 ∧ ¬ ((0 ≤ a0.toInt ∧ a0.toInt ≤ 63) ∨ (100 ≤ a0.toInt ∧ a0.toInt ≤ 115) ∨ (216 ≤ a0.toInt ∧ a0.toInt ≤ 343) ∨ ((400 ≤ a0.toInt ∧ a0.toInt ≤ 431) ∨ (440 ≤ a0.toInt ∧ a0.toInt ≤ 455) ∨ (460 ≤ a0.toInt ∧ a0.toInt ≤ 468) ∨ (480 ≤ a0.toInt ∧ a0.toInt ≤ 487)) ∨ (501 ≤ a0.toInt ∧ a0.toInt ≤ 516) ∨ a0.toInt = 520)); omega)
        · rw [i_lt] at c_7
          have k_11 : (480 : Int32).toInt = 480 := by decide
          refine So.ite (fun c_12 => ?_) (fun c_12 => ?_)
          · rw [i_lt] at c_12
            have k_13 : (487 : Int32).toInt = 487 := by decide
            unfold Mod_isDescriptor_j60
            have k_14 : (0 : Int32).toInt = 0 := by decide
            refine So.imp (t_Mod_isDescriptor_j61 (by show ((0 : Int32).toInt = 0 ∧ ¬ ((400 ≤ a0.toInt ∧ a0.toInt ≤ 431) ∨ (440 ≤ a0.toInt ∧ a0.toInt ≤ 455) ∨ (460 ≤ a0.toInt ∧ a0.toInt ≤ 468) ∨ (480 ≤ a0.toInt ∧ a0.toInt ≤ 487))) ∨ ((0 : Int32).toInt = 1 ∧ ((400 ≤ a0.toInt ∧ a0.toInt ≤ 431) ∨ (440 ≤ a0.toInt ∧ a0.toInt ≤ 455) ∨ (460 ≤ a0.toInt ∧ a0.toInt ≤ 468) ∨ (480 ≤ a0.toInt ∧ a0.toInt ≤ 487))); omega)) fun q_z h_z => ?_
            have p_15 := h_z
            exact (by show (q_z.toInt = 1 ∧ ((0 ≤ a0.toInt ∧ a0.toInt ≤ 63) ∨ (100 ≤ a0.toInt ∧ a0.toInt ≤ 115) ∨ (216 ≤ a0.toInt ∧ a0.toInt ≤ 343) ∨ ((400 ≤ a0.toInt ∧ a0.toInt ≤ 431) ∨ (440 ≤ a0.toInt ∧ a0.toInt ≤ 455) ∨ (460 ≤ a0.toInt ∧ a0.toInt ≤ 468) ∨ (480 ≤ a0.toInt ∧ a0.toInt ≤ 487)) ∨ (501 ≤ a0.toInt ∧ a0.toInt ≤ 516) ∨ a0.toInt = 520)) ∨ (q_z.toInt = 0 ∧ ¬ ((0 ≤ a0.toInt ∧ a0.toInt ≤ 63) ∨ (100 ≤ a0.toInt ∧ a0.toInt ≤ 115) ∨ (216 ≤ a0.toInt ∧ a0.toInt ≤ 343) ∨ ((400 ≤ a0.toInt ∧ a0.toInt ≤ 431) ∨ (440 ≤ a0.toInt ∧ a0.toInt ≤ 455) ∨ (460 ≤ a0.toInt ∧ a0.toInt ≤ 468) ∨ (480 ≤ a0.toInt ∧ a0.toInt ≤ 487)) ∨ (501 ≤ a0.toInt ∧ a0.toInt ≤ 516) ∨ a0.toInt = 520)); omega)
          · rw [i_lt] at c_12
            have k_16 : (487 : Int32).toInt = 487 := by decide
            unfold Mod_isDescriptor_j56
            have k_17 : (1 : Int32).toInt = 1 := by decide
            refine So.imp (t_Mod_isDescriptor_j61 (by show ((1 : Int32).toInt = 0 ∧ ¬ ((400 ≤ a0.toInt ∧ a0.toInt ≤ 431) ∨ (440 ≤ a0.toInt ∧ a0.toInt ≤ 455) ∨ (460 ≤ a0.toInt ∧ a0.toInt ≤ 468) ∨ (480 ≤ a0.toInt ∧ a0.toInt ≤ 487))) ∨ ((1 : Int32).toInt = 1 ∧ ((400 ≤ a0.toInt ∧ a0.toInt ≤ 431) ∨ (440 ≤ a0.toInt ∧ a0.toInt ≤ 455) ∨ (460 ≤ a0.toInt ∧ a0.toInt ≤ 468) ∨ (480 ≤ a0.toInt ∧ a0.toInt ≤ 487))); omega)) fun q_z h_z => ?_
            have p_18 := h_z
            exact (by show (q_z.toInt = 1 ∧ ((0 ≤ a0.toInt ∧ a0.toInt ≤ 63) ∨ (100 ≤ a0.toInt ∧ a0.toInt ≤ 115) ∨ (216 ≤ a0.toInt ∧ a0.toInt ≤ 343) ∨ ((400 ≤ a0.toInt ∧ a0.toInt ≤ 431) ∨ (440 ≤ a0.toInt ∧ a0.toInt ≤ 455) ∨ (460 ≤ a0.toInt ∧ a0.toInt ≤ 468) ∨ (480 ≤ a0.toInt ∧ a0.toInt ≤ 487)) ∨ (501 ≤ a0.toInt ∧ a0.toInt ≤ 516) ∨ a0.toInt = 520)) ∨ (q_z.toInt = 0 ∧ ¬ ((0 ≤ a0.toInt ∧ a0.toInt ≤ 63) ∨ (100 ≤ a0.toInt ∧ a0.toInt ≤ 115) ∨ (216 ≤ a0.toInt ∧ a0.toInt ≤ 343) ∨ ((400 ≤ a0.toInt ∧ a0.toInt ≤ 431) ∨ (440 ≤ a0.toInt ∧ a0.toInt ≤ 455) ∨ (460 ≤ a0.toInt ∧ a0.toInt ≤ 468) ∨ (480 ≤ a0.toInt ∧ a0.toInt ≤ 487)) ∨ (501 ≤ a0.toInt ∧ a0.toInt ≤ 516) ∨ a0.toInt = 520)); omega)
      · rw [i_lt] at c_5
        have k_19 : (460 : Int32).toInt = 460 := by decide
        refine So.ite (fun c_20 => ?_) (fun c_20 => ?_)
        · rw [i_le] at c_20
          have k_21 : (468 : Int32).toInt = 468 := by decide
          unfold Mod_isDescriptor_j56
          have k_22 : (1 : Int32).toInt = 1 := by decide
          refine So.imp (t_Mod_isDescriptor_j61 (by show ((1 : Int32).toInt = 0 ∧ ¬ ((400 ≤ a0.toInt ∧ a0.toInt ≤ 431) ∨ (440 ≤ a0.toInt ∧ a0.toInt ≤ 455) ∨ (460 ≤ a0.toInt ∧ a0.toInt ≤ 468) ∨ (480 ≤ a0.toInt ∧ a0.toInt ≤ 487))) ∨ ((1 : Int32).toInt = 1 ∧ ((400 ≤ a0.toInt ∧ a0.toInt ≤ 431) ∨ (440 ≤ a0.toInt ∧ a0.toInt ≤ 455) ∨ (460 ≤ a0.toInt ∧ a0.toInt ≤ 468) ∨ (480 ≤ a0.toInt ∧ a0.toInt ≤ 487))); omega)) fun q_z h_z => ?_
          have p_23 := h_z
          exact (by show (q_z.toInt = 1 ∧ ((0 ≤ a0.toInt ∧ a0.toInt ≤ 63) ∨ (100 ≤ a0.toInt ∧ a0.toInt ≤ 115) ∨ (216 ≤ a0.toInt ∧ a0.toInt ≤ 343) ∨ ((400 ≤ a0.toInt ∧ a0.toInt ≤ 431) ∨ (440 ≤ a0.toInt ∧ a0.toInt ≤ 455) ∨ (460 ≤ a0.toInt ∧ a0.toInt ≤ 468) ∨ (480 ≤ a0.toInt ∧ a0.toInt ≤ 487)) ∨ (501 ≤ a0.toInt ∧ a0.toInt ≤ 516) ∨ a0.toInt = 520)) ∨ (q_z.toInt = 0 ∧ ¬ ((0 ≤ a0.toInt ∧ a0.toInt ≤ 63) ∨ (100 ≤ a0.toInt ∧ a0.toInt ≤ 115) ∨ (216 ≤ a0.toInt ∧ a0.toInt ≤ 343) ∨ ((400 ≤ a0.toInt ∧ a0.toInt ≤ 431) ∨ (440 ≤ a0.toInt ∧ a0.toInt ≤ 455) ∨ (460 ≤ a0.toInt ∧ a0.toInt ≤ 468) ∨ (480 ≤ a0.toInt ∧ a0.toInt ≤ 487)) ∨ (501 ≤ a0.toInt ∧ a0.toInt ≤ 516) ∨ a0.toInt = 520)); omega)
        · rw [i_le] at c_20
          have k_24 : (468 : Int32).toInt = 468 := by decide
          unfold Mod_isDescriptor_j42
          refine So.ite (fun c_25 => ?_) (fun c_25 => ?_)
          · rw [i_lt] at c_25
            have k_26 : (480 : Int32).toInt = 480 := by decide
            unfold Mod_isDescriptor_j60
            have k_27 : (0 : Int32).toInt = 0 := by decide
            refine So.imp (t_Mod_isDescriptor_j61 (by show ((0 : Int32).toInt = 0 ∧ ¬ ((400 ≤ a0.toInt ∧ a0.toInt ≤ 431) ∨ (440 ≤ a0.toInt ∧ a0.toInt ≤ 455) ∨ (460 ≤ a0.toInt ∧ a0.toInt ≤ 468) ∨ (480 ≤ a0.toInt ∧ a0.toInt ≤ 487))) ∨ ((0 : Int32).toInt = 1 ∧ ((400 ≤ a0.toInt ∧ a0.toInt ≤ 431) ∨ (440 ≤ a0.toInt ∧ a0.toInt ≤ 455) ∨ (460 ≤ a0.toInt ∧ a0.toInt ≤ 468) ∨ (480 ≤ a0.toInt ∧ a0.toInt ≤ 487))); omega)) fun q_z h_z => ?_
            have p_28 := h_z
            exact (by show (q_z.toInt = 1 ∧ ((0 ≤ a0.toInt ∧ a0.toInt ≤ 63) ∨ (100 ≤ a0.toInt ∧ a0.toInt ≤ 115) ∨ (216 ≤ a0.toInt ∧ a0.toInt ≤ 343) ∨ ((400 ≤ a0.toInt ∧ a0.toInt ≤ 431) ∨ (440 ≤ a0.toInt ∧ a0.toInt ≤ 455) ∨ (460 ≤ a0.toInt ∧ a0.toInt ≤ 468) ∨ (480 ≤ a0.toInt ∧ a0.toInt ≤ 487)) ∨ (501 ≤ a0.toInt ∧ a0.toInt ≤ 516) ∨ a0.toInt = 520)) ∨ (q_z.toInt = 0 ∧ ¬ ((0 ≤ a0.toInt ∧ a0.toInt ≤ 63) ∨ (100 ≤ a0.toInt ∧ a0.toInt ≤ 115) ∨ (216 ≤ a0.toInt ∧ a0.toInt ≤ 343) ∨ ((400 ≤ a0.toInt ∧ a0.toInt ≤ 431) ∨ (440 ≤ a0.toInt ∧ a0.toInt ≤ 455) ∨ (460 ≤ a0.toInt ∧ a0.toInt ≤ 468) ∨ (480 ≤ a0.toInt ∧ a0.toInt ≤ 487)) ∨ (501 ≤ a0.toInt ∧ a0.toInt ≤ 516) ∨ a0.toInt = 520)); omega)
          · rw [i_lt] at c_25
            have k_29 : (480 : Int32).toInt = 480 := by decide
            refine So.ite (fun c_30 => ?_) (fun c_30 => ?_)
            · rw [i_lt] at c_30
              have k_31 : (487 : Int32).toInt = 487 := by decide
              unfold Mod_isDescriptor_j60
              have k_32 : (0 : Int32).toInt = 0 := by decide
              refine So.imp (t_Mod_isDescriptor_j61 (by show ((0 : Int32).toInt = 0 ∧ ¬ ((400 ≤ a0.toInt ∧ a0.toInt ≤ 431) ∨ (440 ≤ a0.toInt ∧ a0.toInt ≤ 455) ∨ (460 ≤ a0.toInt ∧ a0.toInt ≤ 468) ∨ (480 ≤ a0.toInt ∧ a0.toInt ≤ 487))) ∨ ((0 : Int32).toInt = 1 ∧ ((400 ≤ a0.toInt ∧ a0.toInt ≤ 431) ∨ (440 ≤ a0.toInt ∧ a0.toInt ≤ 455) ∨ (460 ≤ a0.toInt ∧ a0.toInt ≤ 468) ∨ (480 ≤ a0.toInt ∧ a0.toInt ≤ 487))); omega)) fun q_z h_z => ?_
              have p_33 := h_z
              exact (by show (q_z.toInt = 1 ∧ ((0 ≤ a0.toInt ∧ a0.toInt ≤ 63) ∨ (100 ≤ a0.toInt ∧ a0.toInt ≤ 115) ∨ (216 ≤ a0.toInt ∧ a0.toInt ≤ 343) ∨ ((400 ≤ a0.toInt ∧ a0.toInt ≤ 431) ∨ (440 ≤ a0.toInt ∧ a0.toInt ≤ 455) ∨ (460 ≤ a0.toInt ∧ a0.toInt ≤ 468) ∨ (480 ≤ a0.toInt ∧ a0.toInt ≤ 487)) ∨ (501 ≤ a0.toInt ∧ a0.toInt ≤ 516) ∨ a0.toInt = 520)) ∨ (q_z.toInt = 0 ∧ ¬ ((0 ≤ a0.toInt ∧ a0.toInt ≤ 63) ∨ (100 ≤ a0.toInt ∧ a0.toInt ≤ 115) ∨ (216 ≤ a0.toInt ∧ a0.toInt ≤ 343) ∨ ((400 ≤ a0.toInt ∧ a0.toInt ≤ 431) ∨ (440 ≤ a0.toInt ∧ a0.toInt ≤ 455) ∨ (460 ≤ a0.toInt ∧ a0.toInt ≤ 468) ∨ (480 ≤ a0.toInt ∧ a0.toInt ≤ 487)) ∨ (501 ≤ a0.toInt ∧ a0.toInt ≤ 516) ∨ a0.toInt = 520)); omega)
            · rw [i_lt] at c_30
              have k_34 : (487 : Int32).toInt = 487 := by decide
              unfold Mod_isDescriptor_j56
              have k_35 : (1 : Int32).toInt = 1 := by decide
              refine So.imp (t_Mod_isDescriptor_j61 (by show ((1 : Int32).toInt = 0 ∧ ¬ ((400 ≤ a0.toInt ∧ a0.toInt ≤ 431) ∨ (440 ≤ a0.toInt ∧ a0.toInt ≤ 455) ∨ (460 ≤ a0.toInt ∧ a0.toInt ≤ 468) ∨ (480 ≤ a0.toInt ∧ a0.toInt ≤ 487))) ∨ ((1 : Int32).toInt = 1 ∧ ((400 ≤ a0.toInt ∧ a0.toInt ≤ 431) ∨ (440 ≤ a0.toInt ∧ a0.toInt ≤ 455) ∨ (460 ≤ a0.toInt ∧ a0.toInt ≤ 468) ∨ (480 ≤ a0.toInt ∧ a0.toInt ≤ 487))); omega)) fun q_z h_z => ?_
              have p_36 := h_z
              exact (by show (q_z.toInt = 1 ∧ ((0 ≤ a0.toInt ∧ a0.toInt ≤ 63) ∨ (100 ≤ a0.toInt ∧ a0.toInt ≤ 115) ∨ (216 ≤ a0.toInt ∧ a0.toInt ≤ 343) ∨ ((400 ≤ a0.toInt ∧ a0.toInt ≤ 431) ∨ (440 ≤ a0.toInt ∧ a0.toInt ≤ 455) ∨ (460 ≤ a0.toInt ∧ a0.toInt ≤ 468) ∨ (480 ≤ a0.toInt ∧ a0.toInt ≤ 487)) ∨ (501 ≤ a0.toInt ∧ a0.toInt ≤ 516) ∨ a0.toInt = 520)) ∨ (q_z.toInt = 0 ∧ ¬ ((0 ≤ a0.toInt ∧ a0.toInt ≤ 63) ∨ (100 ≤ a0.toInt ∧ a0.toInt ≤ 115) ∨ (216 ≤ a0.toInt ∧ a0.toInt ≤ 343) ∨ ((400 ≤ a0.toInt ∧ a0.toInt ≤ 431) ∨ (440 ≤ a0.toInt ∧ a0.toInt ≤ 455) ∨ (460 ≤ a0.toInt ∧ a0.toInt ≤ 468) ∨ (480 ≤ a0.toInt ∧ a0.toInt ≤ 487)) ∨ (501 ≤ a0.toInt ∧ a0.toInt ≤ 516) ∨ a0.toInt = 520)); omega)
    · rw [i_lt] at c_3
      have k_37 : (440 : Int32).toInt = 440 := by decide
      refine So.ite (fun c_38 => ?_) (fun c_38 => ?_)
      · rw [i_le] at c_38
        have k_39 : (455 : Int32).toInt = 455 := by decide
        unfold Mod_isDescriptor_j56
        have k_40 : (1 : Int32).toInt = 1 := by decide
        refine So.imp (t_Mod_isDescriptor_j61 (by show ((1 : Int32).toInt = 0 ∧ ¬ ((400 ≤ a0.toInt ∧ a0.toInt ≤ 431) ∨ (440 ≤ a0.toInt ∧ a0.toInt ≤ 455) ∨ (460 ≤ a0.toInt ∧ a0.toInt ≤ 468) ∨ (480 ≤ a0.toInt ∧ a0.toInt ≤ 487))) ∨ ((1 : Int32).toInt = 1 ∧ ((400 ≤ a0.toInt ∧ a0.toInt ≤ 431) ∨ (440 ≤ a0.toInt ∧ a0.toInt ≤ 455) ∨ (460 ≤ a0.toInt ∧ a0.toInt ≤ 468) ∨ (480 ≤ a0.toInt ∧ a0.toInt ≤ 487))); omega)) fun q_z h_z => ?_
        have p_41 := h_z
        exact (by show (q_z.toInt = 1 ∧ ((0 ≤ a0.toInt ∧ a0.toInt ≤ 63) ∨ (100 ≤ a0.toInt ∧ a0.toInt ≤ 115) ∨ (216 ≤ a0.toInt ∧ a0.toInt ≤ 343) ∨ ((400 ≤ a0.toInt ∧ a0.toInt ≤ 431) ∨ (440 ≤ a0.toInt ∧ a0.toInt ≤ 455) ∨ (460 ≤ a0.toInt ∧ a0.toInt ≤ 468) ∨ (480 ≤ a0.toInt ∧ a0.toInt ≤ 487)) ∨ (501 ≤ a0.toInt ∧ a0.toInt ≤ 516) ∨ a0.toInt = 520)) ∨ (q_z.toInt = 0 ∧ ¬ ((0 ≤ a0.toInt ∧ a0.toInt ≤ 63) ∨ (100 ≤ a0.toInt ∧ a0.toInt ≤ 115) ∨ (216 ≤ a0.toInt ∧ a0.toInt ≤ 343) ∨ ((400 ≤ a0.toInt ∧ a0.toInt ≤ 431) ∨ (440 ≤ a0.toInt ∧ a0.toInt ≤ 455) ∨ (460 ≤ a0.toInt ∧ a0.toInt ≤ 468) ∨ (480 ≤ a0.toInt ∧ a0.toInt ≤ 487)) ∨ (501 ≤ a0.toInt ∧ a0.toInt ≤ 516) ∨ a0.toInt = 520)); omega)
      · rw [i_le] at c_38
        have k_42 : (455 : Int32).toInt = 455 := by decide
        unfold Mod_isDescriptor_j28
        refine So.ite (fun c_43 => ?_) (fun c_43 => ?_)
        · rw [i_lt] at c_43
          have k_44 : (460 : Int32).toInt = 460 := by decide
          unfold Mod_isDescriptor_j42
          refine So.ite (fun c_45 => ?_) (fun c_45 => ?_)
          · rw [i_lt] at c_45
            have k_46 : (480 : Int32).toInt = 480 := by decide
            unfold Mod_isDescriptor_j60
            have k_47 : (0 : Int32).toInt = 0 := by decide
            refine So.imp (t_Mod_isDescriptor_j61 (by show ((0 : Int32).toInt = 0 ∧ ¬ ((400 ≤ a0.toInt ∧ a0.toInt ≤ 431) ∨ (440 ≤ a0.toInt ∧ a0.toInt ≤ 455) ∨ (460 ≤ a0.toInt ∧ a0.toInt ≤ 468) ∨ (480 ≤ a0.toInt ∧ a0.toInt ≤ 487))) ∨ ((0 : Int32).toInt = 1 ∧ ((400 ≤ a0.toInt ∧ a0.toInt ≤ 431) ∨ (440 ≤ a0.toInt ∧ a0.toInt ≤ 455) ∨ (460 ≤ a0.toInt ∧ a0.toInt ≤ 468) ∨ (480 ≤ a0.toInt ∧ a0.toInt ≤ 487))); omega)) fun q_z h_z => ?_
            have p_48 := h_z
            exact (by show (q_z.toInt = 1 ∧ ((0 ≤ a0.toInt ∧ a0.toInt ≤ 63) ∨ (100 ≤ a0.toInt ∧ a0.toInt ≤ 115) ∨ (216 ≤ a0.toInt ∧ a0.toInt ≤ 343) ∨ ((400 ≤ a0.toInt ∧ a0.toInt ≤ 431) ∨ (440 ≤ a0.toInt ∧ a0.toInt ≤ 455) ∨ (460 ≤ a0.toInt ∧ a0.toInt ≤ 468) ∨ (480 ≤ a0.toInt ∧ a0.toInt ≤ 487)) ∨ (501 ≤ a0.toInt ∧ a0.toInt ≤ 516) ∨ a0.toInt = 520)) ∨ (q_z.toInt = 0 ∧ ¬ ((0 ≤ a0.toInt ∧ a0.toInt ≤ 63) ∨ (100 ≤ a0.toInt ∧ a0.toInt ≤ 115) ∨ (216 ≤ a0.toInt ∧ a0.toInt ≤ 343) ∨ ((400 ≤ a0.toInt ∧ a0.toInt ≤ 431) ∨ (440 ≤ a0.toInt ∧ a0.toInt ≤ 455) ∨ (460 ≤ a0.toInt ∧ a0.toInt ≤ 468) ∨ (480 ≤ a0.toInt ∧ a0.toInt ≤ 487)) ∨ (501 ≤ a0.toInt ∧ a0.toInt ≤ 516) ∨ a0.toInt = 520)); omega)
          · rw [i_lt] at c_45
            have k_49 : (480 : Int32).toInt = 480 := by decide
            refine So.ite (fun c_50 => ?_) (fun c_50 => ?_)
            · rw [i_lt] at c_50
              have k_51 : (487 : Int32).toInt = 487 := by decide
              unfold Mod_isDescriptor_j60
              have k_52 : (0 : Int32).toInt = 0 := by decide
              refine So.imp (t_Mod_isDescriptor_j61 (by show ((0 : Int32).toInt = 0 ∧ ¬ ((400 ≤ a0.toInt ∧ a0.toInt ≤ 431) ∨ (440 ≤ a0.toInt ∧ a0.toInt ≤ 455) ∨ (460 ≤ a0.toInt ∧ a0.toInt ≤ 468) ∨ (480 ≤ a0.toInt ∧ a0.toInt ≤ 487))) ∨ ((0 : Int32).toInt = 1 ∧ ((400 ≤ a0.toInt ∧ a0.toInt ≤ 431) ∨ (440 ≤ a0.toInt ∧ a0.toInt ≤ 455) ∨ (460 ≤ a0.toInt ∧ a0.toInt ≤ 468) ∨ (480 ≤ a0.toInt ∧ a0.toInt ≤ 487))); omega)) fun q_z h_z => ?_
              have p_53 := h_z
              exact (by show (q_z.toInt = 1 ∧ ((0 ≤ a0.toInt ∧ a0.toInt ≤ 63) ∨ (100 ≤ a0.toInt ∧ a0.toInt ≤ 115) ∨ (216 ≤ a0.toInt ∧ a0.toInt ≤ 343) ∨ ((400 ≤ a0.toInt ∧ a0.toInt ≤ 431) ∨ (440 ≤ a0.toInt ∧ a0.toInt ≤ 455) ∨ (460 ≤ a0.toInt ∧ a0.toInt ≤ 468) ∨ (480 ≤ a0.toInt ∧ a0.toInt ≤ 487)) ∨ (501 ≤ a0.toInt ∧ a0.toInt ≤ 516) ∨ a0.toInt = 520)) ∨ (q_z.toInt = 0 ∧ ¬ ((0 ≤ a0.toInt ∧ a0.toInt ≤ 63) ∨ (100 ≤ a0.toInt ∧ a0.toInt ≤ 115) ∨ (216 ≤ a0.toInt ∧ a0.toInt ≤ 343) ∨ ((400 ≤ a0.toInt ∧ a0.toInt ≤ 431) ∨ (440 ≤ a0.toInt ∧ a0.toInt ≤ 455) ∨ (460 ≤ a0.toInt ∧ a0.toInt ≤ 468) ∨ (480 ≤ a0.toInt ∧ a0.toInt ≤ 487)) ∨ (501 ≤ a0.toInt ∧ a0.toInt ≤ 516) ∨ a0.toInt = 520)); omega)
            · rw [i_lt] at c_50
              have k_54 : (487 : Int32).toInt = 487 := by decide
              unfold Mod_isDescriptor_j56
              have k_55 : (1 : Int32).toInt = 1 := by decide
              refine So.imp (t_Mod_isDescriptor_j61 (by show ((1 : Int32).toInt = 0 ∧ ¬ ((400 ≤ a0.toInt ∧ a0.toInt ≤ 431) ∨ (440 ≤ a0.toInt ∧ a0.toInt ≤ 455) ∨ (460 ≤ a0.toInt ∧ a0.toInt ≤ 468) ∨ (480 ≤ a0.toInt ∧ a0.toInt ≤ 487))) ∨ ((1 : Int32).toInt = 1 ∧ ((400 ≤ a0.toInt ∧ a0.toInt ≤ 431) ∨ (440 ≤ a0.toInt ∧ a0.toInt ≤ 455) ∨ (460 ≤ a0.toInt ∧ a0.toInt ≤ 468) ∨ (480 ≤ a0.toInt ∧ a0.toInt ≤ 487))); omega)) fun q_z h_z => ?_
              have p_56 := h_z
              exact (by show (q_z.toInt = 1 ∧ ((0 ≤ a0.toInt ∧ a0.toInt ≤ 63) ∨ (100 ≤ a0.toInt ∧ a0.toInt ≤ 115) ∨ (216 ≤ a0.toInt ∧ a0.toInt ≤ 343) ∨ ((400 ≤ a0.toInt ∧ a0.toInt ≤ 431) ∨ (440 ≤ a0.toInt ∧ a0.toInt ≤ 455) ∨ (460 ≤ a0.toInt ∧ a0.toInt ≤ 468) ∨ (480 ≤ a0.toInt ∧ a0.toInt ≤ 487)) ∨ (501 ≤ a0.toInt ∧ a0.toInt ≤ 516) ∨ a0.toInt = 520)) ∨ (q_z.toInt = 0 ∧ ¬ ((0 ≤ a0.toInt ∧ a0.toInt ≤ 63) ∨ (100 ≤ a0.toInt ∧ a0.toInt ≤ 115) ∨ (216 ≤ a0.toInt ∧ a0.toInt ≤ 343) ∨ ((400 ≤ a0.toInt ∧ a0.toInt ≤ 431) ∨ (440 ≤ a0.toInt ∧ a0.toInt ≤ 455) ∨ (460 ≤ a0.toInt ∧ a0.toInt ≤ 468) ∨ (480 ≤ a0.toInt ∧ a0.toInt ≤ 487)) ∨ (501 ≤ a0.toInt ∧ a0.toInt ≤ 516) ∨ a0.toInt = 520)); omega)
        · rw [i_lt] at c_43
          have k_57 : (460 : Int32).toInt = 460 := by decide
          refine So.ite (fun c_58 => ?_) (fun c_58 => ?_)
          · rw [i_le] at c_58
            have k_59 : (468 : Int32).toInt = 468 := by decide
            unfold Mod_isDescriptor_j56
            have k_60 : (1 : Int32).toInt = 1 := by decide
            refine So.imp (t_Mod_isDescriptor_j61 (by show ((1 : Int32).toInt = 0 ∧ ¬ ((400 ≤ a0.toInt ∧ a0.toInt ≤ 431) ∨ (440 ≤ a0.toInt ∧ a0.toInt ≤ 455) ∨ (460 ≤ a0.toInt ∧ a0.toInt ≤ 468) ∨ (480 ≤ a0.toInt ∧ a0.toInt ≤ 487))) ∨ ((1 : Int32).toInt = 1 ∧ ((400 ≤ a0.toInt ∧ a0.toInt ≤ 431) ∨ (440 ≤ a0.toInt ∧ a0.toInt ≤ 455) ∨ (460 ≤ a0.toInt ∧ a0.toInt ≤ 468) ∨ (480 ≤ a0.toInt ∧ a0.toInt ≤ 487))); omega)) fun q_z h_z => ?_
            have p_61 := h_z
            exact (by show (q_z.toInt = 1 ∧ ((0 ≤ a0.toInt ∧ a0.toInt ≤ 63) ∨ (100 ≤ a0.toInt ∧ a0.toInt ≤ 115) ∨ (216 ≤ a0.toInt ∧ a0.toInt ≤ 343) ∨ ((400 ≤ a0.toInt ∧ a0.toInt ≤ 431) ∨ (440 ≤ a0.toInt ∧ a0.toInt ≤ 455) ∨ (460 ≤ a0.toInt ∧ a0.toInt ≤ 468) ∨ (480 ≤ a0.toInt ∧ a0.toInt ≤ 487)) ∨ (501 ≤ a0.toInt ∧ a0.toInt ≤ 516) ∨ a0.toInt = 520)) ∨ (q_z.toInt = 0 ∧ ¬ ((0 ≤ a0.toInt ∧ a0.toInt ≤ 63) ∨ (100 ≤ a0.toInt ∧ a0.toInt ≤ 115) ∨ (216 ≤ a0.toInt ∧ a0.toInt ≤ 343) ∨ ((400 ≤ a0.toInt ∧ a0.toInt ≤ 431) ∨ (440 ≤ a0.toInt ∧ a0.toInt ≤ 455) ∨ (460 ≤ a0.toInt ∧ a0.toInt ≤ 468) ∨ (480 ≤ a0.toInt ∧ a0.toInt ≤ 487)) ∨ (501 ≤ a0.toInt ∧ a0.toInt ≤ 516) ∨ a0.toInt = 520)); omega)
          · rw [i_le] at c_58
            have k_62 : (468 : Int32).toInt = 468 := by decide
            unfold Mod_isDescriptor_j42
            refine So.ite (fun c_63 => ?_) (fun c_63 => ?_)
            · rw [i_lt] at c_63
              have k_64 : (480 : Int32).toInt = 480 := by decide
              unfold Mod_isDescriptor_j60
              have k_65 : (0 : Int32).toInt = 0 := by decide
              refine So.imp (t_Mod_isDescriptor_j61 (by show ((0 : Int32).toInt = 0 ∧ ¬ ((400 ≤ a0.toInt ∧ a0.toInt ≤ 431) ∨ (440 ≤ a0.toInt ∧ a0.toInt ≤ 455) ∨ (460 ≤ a0.toInt ∧ a0.toInt ≤ 468) ∨ (480 ≤ a0.toInt ∧ a0.toInt ≤ 487))) ∨ ((0 : Int32).toInt = 1 ∧ ((400 ≤ a0.toInt ∧ a0.toInt ≤ 431) ∨ (440 ≤ a0.toInt ∧ a0.toInt ≤ 455) ∨ (460 ≤ a0.toInt ∧ a0.toInt ≤ 468) ∨ (480 ≤ a0.toInt ∧ a0.toInt ≤ 487))); omega)) fun q_z h_z => ?_
              have p_66 := h_z
              exact (by show (q_z.toInt = 1 ∧ ((0 ≤ a0.toInt ∧ a0.toInt ≤ 63) ∨ (100 ≤ a0.toInt ∧ a0.toInt ≤ 115) ∨ (216 ≤ a0.toInt ∧ a0.toInt ≤ 343) ∨ ((400 ≤ a0.toInt ∧ a0.toInt ≤ 431) ∨ (440 ≤ a0.toInt ∧ a0.toInt ≤ 455) ∨ (460 ≤ a0.toInt ∧ a0.toInt ≤ 468) ∨ (480 ≤ a0.toInt ∧ a0.toInt ≤ 487)) ∨ (501 ≤ a0.toInt ∧ a0.toInt ≤ 516) ∨ a0.toInt = 520)) ∨ (q_z.toInt = 0 ∧ ¬ ((0 ≤ a0.toInt ∧ a0.toInt ≤ 63) ∨ (100 ≤ a0.toInt ∧ a0.toInt ≤ 115) ∨ (216 ≤ a0.toInt ∧ a0.toInt ≤ 343) ∨ ((400 ≤ a0.toInt ∧ a0.toInt ≤ 431) ∨ (440 ≤ a0.toInt ∧ a0.toInt ≤ 455) ∨ (460 ≤ a0.toInt ∧ a0.toInt ≤ 468) ∨ (480 ≤ a0.toInt ∧ a0.toInt ≤ 487)) ∨ (501 ≤ a0.toInt ∧ a0.toInt ≤ 516) ∨ a0.toInt = 520)); omega)
            · rw [i_lt] at c_63
              have k_67 : (480 : Int32).toInt = 480 := by decide
              refine So.ite (fun c_68 => ?_) (fun c_68 => ?_)
              · rw [i_lt] at c_68
                have k_69 : (487 : Int32).toInt = 487 := by decide
                unfold Mod_isDescriptor_j60
                have k_70 : (0 : Int32).toInt = 0 := by decide
                refine So.imp (t_Mod_isDescriptor_j61 (by show ((0 : Int32).toInt = 0 ∧ ¬ ((400 ≤ a0.toInt ∧ a0.toInt ≤ 431) ∨ (440 ≤ a0.toInt ∧ a0.toInt ≤ 455) ∨ (460 ≤ a0.toInt ∧ a0.toInt ≤ 468) ∨ (480 ≤ a0.toInt ∧ a0.toInt ≤ 487))) ∨ ((0 : Int32).toInt = 1 ∧ ((400 ≤ a0.toInt ∧ a0.toInt ≤ 431) ∨ (440 ≤ a0.toInt ∧ a0.toInt ≤ 455) ∨ (460 ≤ a0.toInt ∧ a0.toInt ≤ 468) ∨ (480 ≤ a0.toInt ∧ a0.toInt ≤ 487))); omega)) fun q_z h_z => ?_
                have p_71 := h_z
                exact (by show (q_z.toInt = 1 ∧ ((0 ≤ a0.toInt ∧ a0.toInt ≤ 63) ∨ (100 ≤ a0.toInt ∧ a0.toInt ≤ 115) ∨ (216 ≤ a0.toInt ∧ a0.toInt ≤ 343) ∨ ((400 ≤ a0.toInt ∧ a0.toInt ≤ 431) ∨ (440 ≤ a0.toInt ∧ a0.toInt ≤ 455) ∨ (460 ≤ a0.toInt ∧ a0.toInt ≤ 468) ∨ (480 ≤ a0.toInt ∧ a0.toInt ≤ 487)) ∨ (501 ≤ a0.toInt ∧ a0.toInt ≤ 516) ∨ a0.toInt = 520)) ∨ (q_z.toInt = 0 ∧ ¬ ((0 ≤ a0.toInt ∧ a0.toInt ≤ 63) ∨ (100 ≤ a0.toInt ∧ a0.toInt ≤ 115) ∨ (216 ≤ a0.toInt ∧ a0.toInt ≤ 343) ∨ ((400 ≤ a0.toInt ∧ a0.toInt ≤ 431) ∨ (440 ≤ a0.toInt ∧ a0.toInt ≤ 455) ∨ (460 ≤ a0.toInt ∧ a0.toInt ≤ 468) ∨ (480 ≤ a0.toInt ∧ a0.toInt ≤ 487)) ∨ (501 ≤ a0.toInt ∧ a0.toInt ≤ 516) ∨ a0.toInt = 520)); omega)
              · rw [i_lt] at c_68
                have k_72 : (487 : Int32).toInt = 487 := by decide
                unfold Mod_isDescriptor_j56
                have k_73 : (1 : Int32).toInt = 1 := by decide
                refine So.imp (t_Mod_isDescriptor_j61 (by show ((1 : Int32).toInt = 0 ∧ ¬ ((400 ≤ a0.toInt ∧ a0.toInt ≤ 431) ∨ (440 ≤ a0.toInt ∧ a0.toInt ≤ 455) ∨ (460 ≤ a0.toInt ∧ a0.toInt ≤ 468) ∨ (480 ≤ a0.toInt ∧ a0.toInt ≤ 487))) ∨ ((1 : Int32).toInt = 1 ∧ ((400 ≤ a0.toInt ∧ a0.toInt ≤ 431) ∨ (440 ≤ a0.toInt ∧ a0.toInt ≤ 455) ∨ (460 ≤ a0.toInt ∧ a0.toInt ≤ 468) ∨ (480 ≤ a0.toInt ∧ a0.toInt ≤ 487))); omega)) fun q_z h_z => ?_
                have p_74 := h_z
                exact (by show (q_z.toInt = 1 ∧ ((0 ≤ a0.toInt ∧ a0.toInt ≤ 63) ∨ (100 ≤ a0.toInt ∧ a0.toInt ≤ 115) ∨ (216 ≤ a0.toInt ∧ a0.toInt ≤ 343) ∨ ((400 ≤ a0.toInt ∧ a0.toInt ≤ 431) ∨ (440 ≤ a0.toInt ∧ a0.toInt ≤ 455) ∨ (460 ≤ a0.toInt ∧ a0.toInt ≤ 468) ∨ (480 ≤ a0.toInt ∧ a0.toInt ≤ 487)) ∨ (501 ≤ a0.toInt ∧ a0.toInt ≤ 516) ∨ a0.toInt = 520)) ∨ (q_z.toInt = 0 ∧ ¬ ((0 ≤ a0.toInt ∧ a0.toInt ≤ 63) ∨ (100 ≤ a0.toInt ∧ a0.toInt ≤ 115) ∨ (216 ≤ a0.toInt ∧ a0.toInt ≤ 343) ∨ ((400 ≤ a0.toInt ∧ a0.toInt ≤ 431) ∨ (440 ≤ a0.toInt ∧ a0.toInt ≤ 455) ∨ (460 ≤ a0.toInt ∧ a0.toInt ≤ 468) ∨ (480 ≤ a0.toInt ∧ a0.toInt ≤ 487)) ∨ (501 ≤ a0.toInt ∧ a0.toInt ≤ 516) ∨ a0.toInt = 520)); omega)
  · rw [i_lt] at c_1
    have k_75 : (400 : Int32).toInt = 400 := by decide
    refine So.ite (fun c_76 => ?_) (fun c_76 => ?_)
    · rw [i_le] at c_76
      have k_77 : (431 : Int32).toInt = 431 := by decide
      unfold Mod_isDescriptor_j56
      have k_78 : (1 : Int32).toInt = 1 := by decide
      refine So.imp (t_Mod_isDescriptor_j61 (by show ((1 : Int32).toInt = 0 ∧ ¬ ((400 ≤ a0.toInt ∧ a0.toInt ≤ 431) ∨ (440 ≤ a0.toInt ∧ a0.toInt ≤ 455) ∨ (460 ≤ a0.toInt ∧ a0.toInt ≤ 468) ∨ (480 ≤ a0.toInt ∧ a0.toInt ≤ 487))) ∨ ((1 : Int32).toInt = 1 ∧ ((400 ≤ a0.toInt ∧ a0.toInt ≤ 431) ∨ (440 ≤ a0.toInt ∧ a0.toInt ≤ 455) ∨ (460 ≤ a0.toInt ∧ a0.toInt ≤ 468) ∨ (480 ≤ a0.toInt ∧ a0.toInt ≤ 487))); omega)) fun q_z h_z => ?_
      have p_79 := h_z
      exact (by show (q_z.toInt = 1 ∧ ((0 ≤ a0.toInt ∧ a0.toInt ≤ 63) ∨ (100 ≤ a0.toInt ∧ a0.toInt ≤ 115) ∨ (216 ≤ a0.toInt ∧ a0.toInt ≤ 343) ∨ ((400 ≤ a0.toInt ∧ a0.toInt ≤ 431) ∨ (440 ≤ a0.toInt ∧ a0.toInt ≤ 455) ∨ (460 ≤ a0.toInt ∧ a0.toInt ≤ 468) ∨ (480 ≤ a0.toInt ∧ a0.toInt ≤ 487)) ∨ (501 ≤ a0.toInt ∧ a0.toInt ≤ 516) ∨ a0.toInt = 520)) ∨ (q_z.toInt = 0 ∧ ¬ ((0 ≤ a0.toInt ∧ a0.toInt ≤ 63) ∨ (100 ≤ a0.toInt ∧ a0.toInt ≤ 115) ∨ (216 ≤ a0.toInt ∧ a0.toInt ≤ 343) ∨ ((400 ≤ a0.toInt ∧ a0.toInt ≤ 431) ∨ (440 ≤ a0.toInt ∧ a0.toInt ≤ 455) ∨ (460 ≤ a0.toInt ∧ a0.toInt ≤ 468) ∨ (480 ≤ a0.toInt ∧ a0.toInt ≤ 487)) ∨ (501 ≤ a0.toInt ∧ a0.toInt ≤ 516) ∨ a0.toInt = 520)); omega)
    · rw [i_le] at c_76
      have k_80 : (431 : Int32).toInt = 431 := by decide
      unfold Mod_isDescriptor_j14
      refine So.ite (fun c_81 => ?_) (fun c_81 => ?_)
      · rw [i_lt] at c_81
        have k_82 : (440 : Int32).toInt = 440 := by decide
        unfold Mod_isDescriptor_j28
        refine So.ite (fun c_83 => ?_) (fun c_83 => ?_)
        · rw [i_lt] at c_83
          have k_84 : (460 : Int32).toInt = 460 := by decide
          unfold Mod_isDescriptor_j42
          refine So.ite (fun c_85 => ?_) (fun c_85 => ?_)
          · rw [i_lt] at c_85
            have k_86 : (480 : Int32).toInt = 480 := by decide
            unfold Mod_isDescriptor_j60
            have k_87 : (0 : Int32).toInt = 0 := by decide
            refine So.imp (t_Mod_isDescriptor_j61 (by show ((0 : Int32).toInt = 0 ∧ ¬ ((400 ≤ a0.toInt ∧ a0.toInt ≤ 431) ∨ (440 ≤ a0.toInt ∧ a0.toInt ≤ 455) ∨ (460 ≤ a0.toInt ∧ a0.toInt ≤ 468) ∨ (480 ≤ a0.toInt ∧ a0.toInt ≤ 487))) ∨ ((0 : Int32).toInt = 1 ∧ ((400 ≤ a0.toInt ∧ a0.toInt ≤ 431) ∨ (440 ≤ a0.toInt ∧ a0.toInt ≤ 455) ∨ (460 ≤ a0.toInt ∧ a0.toInt ≤ 468) ∨ (480 ≤ a0.toInt ∧ a0.toInt ≤ 487))); omega)) fun q_z h_z => ?_
            have p_88 := h_z
            exact (by show (q_z.toInt = 1 ∧ ((0 ≤ a0.toInt ∧ a0.toInt ≤ 63) ∨ (100 ≤ a0.toInt ∧ a0.toInt ≤ 115) ∨ (216 ≤ a0.toInt ∧ a0.toInt ≤ 343) ∨ ((400 ≤ a0.toInt ∧ a0.toInt ≤ 431) ∨ (440 ≤ a0.toInt ∧ a0.toInt ≤ 455) ∨ (460 ≤ a0.toInt ∧ a0.toInt ≤ 468) ∨ (480 ≤ a0.toInt ∧ a0.toInt ≤ 487)) ∨ (501 ≤ a0.toInt ∧ a0.toInt ≤ 516) ∨ a0.toInt = 520)) ∨ (q_z.toInt = 0 ∧ ¬ ((0 ≤ a0.toInt ∧ a0.toInt ≤ 63) ∨ (100 ≤ a0.toInt ∧ a0.toInt ≤ 115) ∨ (216 ≤ a0.toInt ∧ a0.toInt ≤ 343) ∨ ((400 ≤ a0.toInt ∧ a0.toInt ≤ 431) ∨ (440 ≤ a0.toInt ∧ a0.toInt ≤ 455) ∨ (460 ≤ a0.toInt ∧ a0.toInt ≤ 468) ∨ (480 ≤ a0.toInt ∧ a0.toInt ≤ 487)) ∨ (501 ≤ a0.toInt ∧ a0.toInt ≤ 516) ∨ a0.toInt = 520)); omega)
          · rw [i_lt] at c_85
            have k_89 : (480 : Int32).toInt = 480 := by decide
            refine So.ite (fun c_90 => ?_) (fun c_90 => ?_)
            · rw [i_lt] at c_90
              have k_91 : (487 : Int32).toInt = 487 := by decide
              unfold Mod_isDescriptor_j60
              have k_92 : (0 : Int32).toInt = 0 := by decide
              refine So.imp (t_Mod_isDescriptor_j61 (by show ((0 : Int32).toInt = 0 ∧ ¬ ((400 ≤ a0.toInt ∧ a0.toInt ≤ 431) ∨ (440 ≤ a0.toInt ∧ a0.toInt ≤ 455) ∨ (460 ≤ a0.toInt ∧ a0.toInt ≤ 468) ∨ (480 ≤ a0.toInt ∧ a0.toInt ≤ 487))) ∨ ((0 : Int32).toInt = 1 ∧ ((400 ≤ a0.toInt ∧ a0.toInt ≤ 431) ∨ (440 ≤ a0.toInt ∧ a0.toInt ≤ 455) ∨ (460 ≤ a0.toInt ∧ a0.toInt ≤ 468) ∨ (480 ≤ a0.toInt ∧ a0.toInt ≤ 487))); omega)) fun q_z h_z => ?_
              have p_93 := h_z
              exact (by show (q_z.toInt = 1 ∧ ((0 ≤ a0.toInt ∧ a0.toInt ≤ 63) ∨ (100 ≤ a0.toInt ∧ a0.toInt ≤ 115) ∨ (216 ≤ a0.toInt ∧ a0.toInt ≤ 343) ∨ ((400 ≤ a0.toInt ∧ a0.toInt ≤ 431) ∨ (440 ≤ a0.toInt ∧ a0.toInt ≤ 455) ∨ (460 ≤ a0.toInt ∧ a0.toInt ≤ 468) ∨ (480 ≤ a0.toInt ∧ a0.toInt ≤ 487)) ∨ (501 ≤ a0.toInt ∧ a0.toInt ≤ 516) ∨ a0.toInt = 520)) ∨ (q_z.toInt = 0 ∧ ¬ ((0 ≤ a0.toInt ∧ a0.toInt ≤ 63) ∨ (100 ≤ a0.toInt ∧ a0.toInt ≤ 115) ∨ (216 ≤ a0.toInt ∧ a0.toInt ≤ 343) ∨ ((400 ≤ a0.toInt ∧ a0.toInt ≤ 431) ∨ (440 ≤ a0.toInt ∧ a0.toInt ≤ 455) ∨ (460 ≤ a0.toInt ∧ a0.toInt ≤ 468) ∨ (480 ≤ a0.toInt ∧ a0.toInt ≤ 487)) ∨ (501 ≤ a0.toInt ∧ a0.toInt ≤ 516) ∨ a0.toInt = 520)); omega)
            · rw [i_lt] at c_90
              have k_94 : (487 : Int32).toInt = 487 := by decide
              unfold Mod_isDescriptor_j56
              have k_95 : (1 : Int32).toInt = 1 := by decide
              refine So.imp (t_Mod_isDescriptor_j61 (by show ((1 : Int32).toInt = 0 ∧ ¬ ((400 ≤ a0.toInt ∧ a0.toInt ≤ 431) ∨ (440 ≤ a0.toInt ∧ a0.toInt ≤ 455) ∨ (460 ≤ a0.toInt ∧ a0.toInt ≤ 468) ∨ (480 ≤ a0.toInt ∧ a0.toInt ≤ 487))) ∨ ((1 : Int32).toInt = 1 ∧ ((400 ≤ a0.toInt ∧ a0.toInt ≤ 431) ∨ (440 ≤ a0.toInt ∧ a0.toInt ≤ 455) ∨ (460 ≤ a0.toInt ∧ a0.toInt ≤ 468) ∨ (480 ≤ a0.toInt ∧ a0.toInt ≤ 487))); omega)) fun q_z h_z => ?_
              have p_96 := h_z
              exact (by show (q_z.toInt = 1 ∧ ((0 ≤ a0.toInt ∧ a0.toInt ≤ 63) ∨ (100 ≤ a0.toInt ∧ a0.toInt ≤ 115) ∨ (216 ≤ a0.toInt ∧ a0.toInt ≤ 343) ∨ ((400 ≤ a0.toInt ∧ a0.toInt ≤ 431) ∨ (440 ≤ a0.toInt ∧ a0.toInt ≤ 455) ∨ (460 ≤ a0.toInt ∧ a0.toInt ≤ 468) ∨ (480 ≤ a0.toInt ∧ a0.toInt ≤ 487)) ∨ (501 ≤ a0.toInt ∧ a0.toInt ≤ 516) ∨ a0.toInt = 520)) ∨ (q_z.toInt = 0 ∧ ¬ ((0 ≤ a0.toInt ∧ a0.toInt ≤ 63) ∨ (100 ≤ a0.toInt ∧ a0.toInt ≤ 115) ∨ (216 ≤ a0.toInt ∧ a0.toInt ≤ 343) ∨ ((400 ≤ a0.toInt ∧ a0.toInt ≤ 431) ∨ (440 ≤ a0.toInt ∧ a0.toInt ≤ 455) ∨ (460 ≤ a0.toInt ∧ a0.toInt ≤ 468) ∨ (480 ≤ a0.toInt ∧ a0.toInt ≤ 487)) ∨ (501 ≤ a0.toInt ∧ a0.toInt ≤ 516) ∨ a0.toInt = 520)); omega)
        · rw [i_lt] at c_83
          have k_97 : (460 : Int32).toInt = 460 := by decide
          refine So.ite (fun c_98 => ?_) (fun c_98 => ?_)
          · rw [i_le] at c_98
            have k_99 : (468 : Int32).toInt = 468 := by decide
            unfold Mod_isDescriptor_j56
            have k_100 : (1 : Int32).toInt = 1 := by decide
            refine So.imp (t_Mod_isDescriptor_j61 (by show ((1 : Int32).toInt = 0 ∧ ¬ ((400 ≤ a0.toInt ∧ a0.toInt ≤ 431) ∨ (440 ≤ a0.toInt ∧ a0.toInt ≤ 455) ∨ (460 ≤ a0.toInt ∧ a0.toInt ≤ 468) ∨ (480 ≤ a0.toInt ∧ a0.toInt ≤ 487))) ∨ ((1 : Int32).toInt = 1 ∧ ((400 ≤ a0.toInt ∧ a0.toInt ≤ 431) ∨ (440 ≤ a0.toInt ∧ a0.toInt ≤ 455) ∨ (460 ≤ a0.toInt ∧ a0.toInt ≤ 468) ∨ (480 ≤ a0.toInt ∧ a0.toInt ≤ 487))); omega)) fun q_z h_z => ?_
            have p_101 := h_z
            exact (by show (q_z.toInt = 1 ∧ ((0 ≤ a0.toInt ∧ a0.toInt ≤ 63) ∨ (100 ≤ a0.toInt ∧ a0.toInt ≤ 115) ∨ (216 ≤ a0.toInt ∧ a0.toInt ≤ 343) ∨ ((400 ≤ a0.toInt ∧ a0.toInt ≤ 431) ∨ (440 ≤ a0.toInt ∧ a0.toInt ≤ 455) ∨ (460 ≤ a0.toInt ∧ a0.toInt ≤ 468) ∨ (480 ≤ a0.toInt ∧ a0.toInt ≤ 487)) ∨ (501 ≤ a0.toInt ∧ a0.toInt ≤ 516) ∨ a0.toInt = 520)) ∨ (q_z.toInt = 0 ∧ ¬ ((0 ≤ a0.toInt ∧ a0.toInt ≤ 63) ∨ (100 ≤ a0.toInt ∧ a0.toInt ≤ 115) ∨ (216 ≤ a0.toInt ∧ a0.toInt ≤ 343) ∨ ((400 ≤ a0.toInt ∧ a0.toInt ≤ 431) ∨ (440 ≤ a0.toInt ∧ a0.toInt ≤ 455) ∨ (460 ≤ a0.toInt ∧ a0.toInt ≤ 468) ∨ (480 ≤ a0.toInt ∧ a0.toInt ≤ 487)) ∨ (501 ≤ a0.toInt ∧ a0.toInt ≤ 516) ∨ a0.toInt = 520)); omega)
          · rw [i_le] at c_98
            have k_102 : (468 : Int32).toInt = 468 := by decide
            unfold Mod_isDescriptor_j42
            refine So.ite (fun c_103 => ?_) (fun c_103 => ?_)
            · rw [i_lt] at c_103
              have k_104 : (480 : Int32).toInt = 480 := by decide
              unfold Mod_isDescriptor_j60
              have k_105 : (0 : Int32).toInt = 0 := by decide
              refine So.imp (t_Mod_isDescriptor_j61 (by show ((0 : Int32).toInt = 0 ∧ ¬ ((400 ≤ a0.toInt ∧ a0.toInt ≤ 431) ∨ (440 ≤ a0.toInt ∧ a0.toInt ≤ 455) ∨ (460 ≤ a0.toInt ∧ a0.toInt ≤ 468) ∨ (480 ≤ a0.toInt ∧ a0.toInt ≤ 487))) ∨ ((0 : Int32).toInt = 1 ∧ ((400 ≤ a0.toInt ∧ a0.toInt ≤ 431) ∨ (440 ≤ a0.toInt ∧ a0.toInt ≤ 455) ∨ (460 ≤ a0.toInt ∧ a0.toInt ≤ 468) ∨ (480 ≤ a0.toInt ∧ a0.toInt ≤ 487))); omega)) fun q_z h_z => ?_
              have p_106 := h_z
              exact (by show (q_z.toInt = 1 ∧ ((0 ≤ a0.toInt ∧ a0.toInt ≤ 63) ∨ (100 ≤ a0.toInt ∧ a0.toInt ≤ 115) ∨ (216 ≤ a0.toInt ∧ a0.toInt ≤ 343) ∨ ((400 ≤ a0.toInt ∧ a0.toInt ≤ 431) ∨ (440 ≤ a0.toInt ∧ a0.toInt ≤ 455) ∨ (460 ≤ a0.toInt ∧ a0.toInt ≤ 468) ∨ (480 ≤ a0.toInt ∧ a0.toInt ≤ 487)) ∨ (501 ≤ a0.toInt ∧ a0.toInt ≤ 516) ∨ a0.toInt = 520)) ∨ (q_z.toInt = 0 ∧ ¬ ((0 ≤ a0.toInt ∧ a0.toInt ≤ 63) ∨ (100 ≤ a0.toInt ∧ a0.toInt ≤ 115) ∨ (216 ≤ a0.toInt ∧ a0.toInt ≤ 343) ∨ ((400 ≤ a0.toInt ∧ a0.toInt ≤ 431) ∨ (440 ≤ a0.toInt ∧ a0.toInt ≤ 455) ∨ (460 ≤ a0.toInt ∧ a0.toInt ≤ 468) ∨ (480 ≤ a0.toInt ∧ a0.toInt ≤ 487)) ∨ (501 ≤ a0.toInt ∧ a0.toInt ≤ 516) ∨ a0.toInt = 520)); omega)
            · rw [i_lt] at c_103
              have k_107 : (480 : Int32).toInt = 480 := by decide
              refine So.ite (fun c_108 => ?_) (fun c_108 => ?_)
              · rw [i_lt] at c_108
                have k_109 : (487 : Int32).toInt = 487 := by decide
                unfold Mod_isDescriptor_j60
                have k_110 : (0 : Int32).toInt = 0 := by decide
                refine So.imp (t_Mod_isDescriptor_j61 (by show ((0 : Int32).toInt = 0 ∧ ¬ ((400 ≤ a0.toInt ∧ a0.toInt ≤ 431) ∨ (440 ≤ a0.toInt ∧ a0.toInt ≤ 455) ∨ (460 ≤ a0.toInt ∧ a0.toInt ≤ 468) ∨ (480 ≤ a0.toInt ∧ a0.toInt ≤ 487))) ∨ ((0 : Int32).toInt = 1 ∧ ((400 ≤ a0.toInt ∧ a0.toInt ≤ 431) ∨ (440 ≤ a0.toInt ∧ a0.toInt ≤ 455) ∨ (460 ≤ a0.toInt ∧ a0.toInt ≤ 468) ∨ (480 ≤ a0.toInt ∧ a0.toInt ≤ 487))); omega)) fun q_z h_z => ?_
                have p_111 := h_z
                exact (by show (q_z.toInt = 1 ∧ ((0 ≤ a0.toInt ∧ a0.toInt ≤ 63) ∨ (100 ≤ a0.toInt ∧ a0.toInt ≤ 115) ∨ (216 ≤ a0.toInt ∧ a0.toInt ≤ 343) ∨ ((400 ≤ a0.toInt ∧ a0.toInt ≤ 431) ∨ (440 ≤ a0.toInt ∧ a0.toInt ≤ 455) ∨ (460 ≤ a0.toInt ∧ a0.toInt ≤ 468) ∨ (480 ≤ a0.toInt ∧ a0.toInt ≤ 487)) ∨ (501 ≤ a0.toInt ∧ a0.toInt ≤ 516) ∨ a0.toInt = 520)) ∨ (q_z.toInt = 0 ∧ ¬ ((0 ≤ a0.toInt ∧ a0.toInt ≤ 63) ∨ (100 ≤ a0.toInt ∧ a0.toInt ≤ 115) ∨ (216 ≤ a0.toInt ∧ a0.toInt ≤ 343) ∨ ((400 ≤ a0.toInt ∧ a0.toInt ≤ 431) ∨ (440 ≤ a0.toInt ∧ a0.toInt ≤ 455) ∨ (460 ≤ a0.toInt ∧ a0.toInt ≤ 468) ∨ (480 ≤ a0.toInt ∧ a0.toInt ≤ 487)) ∨ (501 ≤ a0.toInt ∧ a0.toInt ≤ 516) ∨ a0.toInt = 520)); omega)
              · rw [i_lt] at c_108
                have k_112 : (487 : Int32).toInt = 487 := by decide
                unfold Mod_isDescriptor_j56
                have k_113 : (1 : Int32).toInt = 1 := by decide
                refine So.imp (t_Mod_isDescriptor_j61 (by show ((1 : Int32).toInt = 0 ∧ ¬ ((400 ≤ a0.toInt ∧ a0.toInt ≤ 431) ∨ (440 ≤ a0.toInt ∧ a0.toInt ≤ 455) ∨ (460 ≤ a0.toInt ∧ a0.toInt ≤ 468) ∨ (480 ≤ a0.toInt ∧ a0.toInt ≤ 487))) ∨ ((1 : Int32).toInt = 1 ∧ ((400 ≤ a0.toInt ∧ a0.toInt ≤ 431) ∨ (440 ≤ a0.toInt ∧ a0.toInt ≤ 455) ∨ (460 ≤ a0.toInt ∧ a0.toInt ≤ 468) ∨ (480 ≤ a0.toInt ∧ a0.toInt ≤ 487))); omega)) fun q_z h_z => ?_
                have p_114 := h_z
                exact (by show (q_z.toInt = 1 ∧ ((0 ≤ a0.toInt ∧ a0.toInt ≤ 63) ∨ (100 ≤ a0.toInt ∧ a0.toInt ≤ 115) ∨ (216 ≤ a0.toInt ∧ a0.toInt ≤ 343) ∨ ((400 ≤ a0.toInt ∧ a0.toInt ≤ 431) ∨ (440 ≤ a0.toInt ∧ a0.toInt ≤ 455) ∨ (460 ≤ a0.toInt ∧ a0.toInt ≤ 468) ∨ (480 ≤ a0.toInt ∧ a0.toInt ≤ 487)) ∨ (501 ≤ a0.toInt ∧ a0.toInt ≤ 516) ∨ a0.toInt = 520)) ∨ (q_z.toInt = 0 ∧ ¬ ((0 ≤ a0.toInt ∧ a0.toInt ≤ 63) ∨ (100 ≤ a0.toInt ∧ a0.toInt ≤ 115) ∨ (216 ≤ a0.toInt ∧ a0.toInt ≤ 343) ∨ ((400 ≤ a0.toInt ∧ a0.toInt ≤ 431) ∨ (440 ≤ a0.toInt ∧ a0.toInt ≤ 455) ∨ (460 ≤ a0.toInt ∧ a0.toInt ≤ 468) ∨ (480 ≤ a0.toInt ∧ a0.toInt ≤ 487)) ∨ (501 ≤ a0.toInt ∧ a0.toInt ≤ 516) ∨ a0.toInt = 520)); omega)
      · rw [i_lt] at c_81
        have k_115 : (440 : Int32).toInt = 440 := by decide
        refine So.ite (fun c_116 => ?_) (fun c_116 => ?_)
        · rw [i_le] at c_116
          have k_117 : (455 : Int32).toInt = 455 := by decide
          unfold Mod_isDescriptor_j56
          have k_118 : (1 : Int32).toInt = 1 := by decide
          refine So.imp (t_Mod_isDescriptor_j61 (by show ((1 : Int32).toInt = 0 ∧ ¬ ((400 ≤ a0.toInt ∧ a0.toInt ≤ 431) ∨ (440 ≤ a0.toInt ∧ a0.toInt ≤ 455) ∨ (460 ≤ a0.toInt ∧ a0.toInt ≤ 468) ∨ (480 ≤ a0.toInt ∧ a0.toInt ≤ 487))) ∨ ((1 : Int32).toInt = 1 ∧ ((400 ≤ a0.toInt ∧ a0.toInt ≤ 431) ∨ (440 ≤ a0.toInt ∧ a0.toInt ≤ 455) ∨ (460 ≤ a0.toInt ∧ a0.toInt ≤ 468) ∨ (480 ≤ a0.toInt ∧ a0.toInt ≤ 487))); omega)) fun q_z h_z => ?_
          have p_119 := h_z
          exact (by show (q_z.toInt = 1 ∧ ((0 ≤ a0.toInt ∧ a0.toInt ≤ 63) ∨ (100 ≤ a0.toInt ∧ a0.toInt ≤ 115) ∨ (216 ≤ a0.toInt ∧ a0.toInt ≤ 343) ∨ ((400 ≤ a0.toInt ∧ a0.toInt ≤ 431) ∨ (440 ≤ a0.toInt ∧ a0.toInt ≤ 455) ∨ (460 ≤ a0.toInt ∧ a0.toInt ≤ 468) ∨ (480 ≤ a0.toInt ∧ a0.toInt ≤ 487)) ∨ (501 ≤ a0.toInt ∧ a0.toInt ≤ 516) ∨ a0.toInt = 520)) ∨ (q_z.toInt = 0 ∧ ¬ ((0 ≤ a0.toInt ∧ a0.toInt ≤ 63) ∨ (100 ≤ a0.toInt ∧ a0.toInt ≤ 115) ∨ (216 ≤ a0.toInt ∧ a0.toInt ≤ 343) ∨ ((400 ≤ a0.toInt ∧ a0.toInt ≤ 431) ∨ (440 ≤ a0.toInt ∧ a0.toInt ≤ 455) ∨ (460 ≤ a0.toInt ∧ a0.toInt ≤ 468) ∨ (480 ≤ a0.toInt ∧ a0.toInt ≤ 487)) ∨ (501 ≤ a0.toInt ∧ a0.toInt ≤ 516) ∨ a0.toInt = 520)); omega)
        · rw [i_le] at c_116
          have k_120 : (455 : Int32).toInt = 455 := by decide
          unfold Mod_isDescriptor_j28
          refine So.ite (fun c_121 => ?_) (fun c_121 => ?_)
          · rw [i_lt] at c_121
            have k_122 : (460 : Int32).toInt = 460 := by decide
            unfold Mod_isDescriptor_j42
            refine So.ite (fun c_123 => ?_) (fun c_123 => ?_)
            · rw [i_lt] at c_123
              have k_124 : (480 : Int32).toInt = 480 := by decide
              unfold Mod_isDescriptor_j60
              have k_125 : (0 : Int32).toInt = 0 := by decide
              refine So.imp (t_Mod_isDescriptor_j61 (by show ((0 : Int32).toInt = 0 ∧ ¬ ((400 ≤ a0.toInt ∧ a0.toInt ≤ 431) ∨ (440 ≤ a0.toInt ∧ a0.toInt ≤ 455) ∨ (460 ≤ a0.toInt ∧ a0.toInt ≤ 468) ∨ (480 ≤ a0.toInt ∧ a0.toInt ≤ 487))) ∨ ((0 : Int32).toInt = 1 ∧ ((400 ≤ a0.toInt ∧ a0.toInt ≤ 431) ∨ (440 ≤ a0.toInt ∧ a0.toInt ≤ 455) ∨ (460 ≤ a0.toInt ∧ a0.toInt ≤ 468) ∨ (480 ≤ a0.toInt ∧ a0.toInt ≤ 487))); omega)) fun q_z h_z => ?_
              have p_126 := h_z
              exact (by show (q_z.toInt = 1 ∧ ((0 ≤ a0.toInt ∧ a0.toInt ≤ 63) ∨ (100 ≤ a0.toInt ∧ a0.toInt ≤ 115) ∨ (216 ≤ a0.toInt ∧ a0.toInt ≤ 343) ∨ ((400 ≤ a0.toInt ∧ a0.toInt ≤ 431) ∨ (440 ≤ a0.toInt ∧ a0.toInt ≤ 455) ∨ (460 ≤ a0.toInt ∧ a0.toInt ≤ 468) ∨ (480 ≤ a0.toInt ∧ a0.toInt ≤ 487)) ∨ (501 ≤ a0.toInt ∧ a0.toInt ≤ 516) ∨ a0.toInt = 520)) ∨ (q_z.toInt = 0 ∧ ¬ ((0 ≤ a0.toInt ∧ a0.toInt ≤ 63) ∨ (100 ≤ a0.toInt ∧ a0.toInt ≤ 115) ∨ (216 ≤ a0.toInt ∧ a0.toInt ≤ 343) ∨ ((400 ≤ a0.toInt ∧ a0.toInt ≤ 431) ∨ (440 ≤ a0.toInt ∧ a0.toInt ≤ 455) ∨ (460 ≤ a0.toInt ∧ a0.toInt ≤ 468) ∨ (480 ≤ a0.toInt ∧ a0.toInt ≤ 487)) ∨ (501 ≤ a0.toInt ∧ a0.toInt ≤ 516) ∨ a0.toInt = 520)); omega)
            · rw [i_lt] at c_123
              have k_127 : (480 : Int32).toInt = 480 := by decide
              refine So.ite (fun c_128 => ?_) (fun c_128 => ?_)
              · rw [i_lt] at c_128
                have k_129 : (487 : Int32).toInt = 487 := by decide
                unfold Mod_isDescriptor_j60
                have k_130 : (0 : Int32).toInt = 0 := by decide
                refine So.imp (t_Mod_isDescriptor_j61 (by show ((0 : Int32).toInt = 0 ∧ ¬ ((400 ≤ a0.toInt ∧ a0.toInt ≤ 431) ∨ (440 ≤ a0.toInt ∧ a0.toInt ≤ 455) ∨ (460 ≤ a0.toInt ∧ a0.toInt ≤ 468) ∨ (480 ≤ a0.toInt ∧ a0.toInt ≤ 487))) ∨ ((0 : Int32).toInt = 1 ∧ ((400 ≤ a0.toInt ∧ a0.toInt ≤ 431) ∨ (440 ≤ a0.toInt ∧ a0.toInt ≤ 455) ∨ (460 ≤ a0.toInt ∧ a0.toInt ≤ 468) ∨ (480 ≤ a0.toInt ∧ a0.toInt ≤ 487))); omega)) fun q_z h_z => ?_
                have p_131 := h_z
                exact (by show (q_z.toInt = 1 ∧ ((0 ≤ a0.toInt ∧ a0.toInt ≤ 63) ∨ (100 ≤ a0.toInt ∧ a0.toInt ≤ 115) ∨ (216 ≤ a0.toInt ∧ a0.toInt ≤ 343) ∨ ((400 ≤ a0.toInt ∧ a0.toInt ≤ 431) ∨ (440 ≤ a0.toInt ∧ a0.toInt ≤ 455) ∨ (460 ≤ a0.toInt ∧ a0.toInt ≤ 468) ∨ (480 ≤ a0.toInt ∧ a0.toInt ≤ 487)) ∨ (501 ≤ a0.toInt ∧ a0.toInt ≤ 516) ∨ a0.toInt = 520)) ∨ (q_z.toInt = 0 ∧ ¬ ((0 ≤ a0.toInt ∧ a0.toInt ≤ 63) ∨ (100 ≤ a0.toInt ∧ a0.toInt ≤ 115) ∨ (216 ≤ a0.toInt ∧ a0.toInt ≤ 343) ∨ ((400 ≤ a0.toInt ∧ a0.toInt ≤ 431) ∨ (440 ≤ a0.toInt ∧ a0.toInt ≤ 455) ∨ (460 ≤ a0.toInt ∧ a0.toInt ≤ 468) ∨ (480 ≤ a0.toInt ∧ a0.toInt ≤ 487)) ∨ (501 ≤ a0.toInt ∧ a0.toInt ≤ 516) ∨ a0.toInt = 520)); omega)
              · rw [i_lt] at c_128
                have k_132 : (487 : Int32).toInt = 487 := by decide
                unfold Mod_isDescriptor_j56
                have k_133 : (1 : Int32).toInt = 1 := by decide
                refine So.imp (t_Mod_isDescriptor_j61 (by show ((1 : Int32).toInt = 0 ∧ ¬ ((400 ≤ a0.toInt ∧ a0.toInt ≤ 431) ∨ (440 ≤ a0.toInt ∧ a0.toInt ≤ 455) ∨ (460 ≤ a0.toInt ∧ a0.toInt ≤ 468) ∨ (480 ≤ a0.toInt ∧ a0.toInt ≤ 487))) ∨ ((1 : Int32).toInt = 1 ∧ ((400 ≤ a0.toInt ∧ a0.toInt ≤ 431) ∨ (440 ≤ a0.toInt ∧ a0.toInt ≤ 455) ∨ (460 ≤ a0.toInt ∧ a0.toInt ≤ 468) ∨ (480 ≤ a0.toInt ∧ a0.toInt ≤ 487))); omega)) fun q_z h_z => ?_
                have p_134 := h_z
                exact (by show (q_z.toInt = 1 ∧ ((0 ≤ a0.toInt ∧ a0.toInt ≤ 63) ∨ (100 ≤ a0.toInt ∧ a0.toInt ≤ 115) ∨ (216 ≤ a0.toInt ∧ a0.toInt ≤ 343) ∨ ((400 ≤ a0.toInt ∧ a0.toInt ≤ 431) ∨ (440 ≤ a0.toInt ∧ a0.toInt ≤ 455) ∨ (460 ≤ a0.toInt ∧ a0.toInt ≤ 468) ∨ (480 ≤ a0.toInt ∧ a0.toInt ≤ 487)) ∨ (501 ≤ a0.toInt ∧ a0.toInt ≤ 516) ∨ a0.toInt = 520)) ∨ (q_z.toInt = 0 ∧ ¬ ((0 ≤ a0.toInt ∧ a0.toInt ≤ 63) ∨ (100 ≤ a0.toInt ∧ a0.toInt ≤ 115) ∨ (216 ≤ a0.toInt ∧ a0.toInt ≤ 343) ∨ ((400 ≤ a0.toInt ∧ a0.toInt ≤ 431) ∨ (440 ≤ a0.toInt ∧ a0.toInt ≤ 455) ∨ (460 ≤ a0.toInt ∧ a0.toInt ≤ 468) ∨ (480 ≤ a0.toInt ∧ a0.toInt ≤ 487)) ∨ (501 ≤ a0.toInt ∧ a0.toInt ≤ 516) ∨ a0.toInt = 520)); omega)
          · rw [i_lt] at c_121
            have k_135 : (460 : Int32).toInt = 460 := by decide
            refine So.ite (fun c_136 => ?_) (fun c_136 => ?_)
            · rw [i_le] at c_136
              have k_137 : (468 : Int32).toInt = 468 := by decide
              unfold Mod_isDescriptor_j56
              have k_138 : (1 : Int32).toInt = 1 := by decide
              refine So.imp (t_Mod_isDescriptor_j61 (by show ((1 : Int32).toInt = 0 ∧ ¬ ((400 ≤ a0.toInt ∧ a0.toInt ≤ 431) ∨ (440 ≤ a0.toInt ∧ a0.toInt ≤ 455) ∨ (460 ≤ a0.toInt ∧ a0.toInt ≤ 468) ∨ (480 ≤ a0.toInt ∧ a0.toInt ≤ 487))) ∨ ((1 : Int32).toInt = 1 ∧ ((400 ≤ a0.toInt ∧ a0.toInt ≤ 431) ∨ (440 ≤ a0.toInt ∧ a0.toInt ≤ 455) ∨ (460 ≤ a0.toInt ∧ a0.toInt ≤ 468) ∨ (480 ≤ a0.toInt ∧ a0.toInt ≤ 487))); omega)) fun q_z h_z => ?_
              have p_139 := h_z
              exact (by show (q_z.toInt = 1 ∧ ((0 ≤ a0.toInt ∧ a0.toInt ≤ 63) ∨ (100 ≤ a0.toInt ∧ a0.toInt ≤ 115) ∨ (216 ≤ a0.toInt ∧ a0.toInt ≤ 343) ∨ ((400 ≤ a0.toInt ∧ a0.toInt ≤ 431) ∨ (440 ≤ a0.toInt ∧ a0.toInt ≤ 455) ∨ (460 ≤ a0.toInt ∧ a0.toInt ≤ 468) ∨ (480 ≤ a0.toInt ∧ a0.toInt ≤ 487)) ∨ (501 ≤ a0.toInt ∧ a0.toInt ≤ 516) ∨ a0.toInt = 520)) ∨ (q_z.toInt = 0 ∧ ¬ ((0 ≤ a0.toInt ∧ a0.toInt ≤ 63) ∨ (100 ≤ a0.toInt ∧ a0.toInt ≤ 115) ∨ (216 ≤ a0.toInt ∧ a0.toInt ≤ 343) ∨ ((400 ≤ a0.toInt ∧ a0.toInt ≤ 431) ∨ (440 ≤ a0.toInt ∧ a0.toInt ≤ 455) ∨ (460 ≤ a0.toInt ∧ a0.toInt ≤ 468) ∨ (480 ≤ a0.toInt ∧ a0.toInt ≤ 487)) ∨ (501 ≤ a0.toInt ∧ a0.toInt ≤ 516) ∨ a0.toInt = 520)); omega)
            · rw [i_le] at c_136
              have k_140 : (468 : Int32).toInt = 468 := by decide
              unfold Mod_isDescriptor_j42
              refine So.ite (fun c_141 => ?_) (fun c_141 => ?_)
              · rw [i_lt] at c_141
                have k_142 : (480 : Int32).toInt = 480 := by decide
                unfold Mod_isDescriptor_j60
                have k_143 : (0 : Int32).toInt = 0 := by decide
                refine So.imp (t_Mod_isDescriptor_j61 (by show ((0 : Int32).toInt = 0 ∧ ¬ ((400 ≤ a0.toInt ∧ a0.toInt ≤ 431) ∨ (440 ≤ a0.toInt ∧ a0.toInt ≤ 455) ∨ (460 ≤ a0.toInt ∧ a0.toInt ≤ 468) ∨ (480 ≤ a0.toInt ∧ a0.toInt ≤ 487))) ∨ ((0 : Int32).toInt = 1 ∧ ((400 ≤ a0.toInt ∧ a0.toInt ≤ 431) ∨ (440 ≤ a0.toInt ∧ a0.toInt ≤ 455) ∨ (460 ≤ a0.toInt ∧ a0.toInt ≤ 468) ∨ (480 ≤ a0.toInt ∧ a0.toInt ≤ 487))); omega)) fun q_z h_z => ?_
                have p_144 := h_z
                exact (by show (q_z.toInt = 1 ∧ ((0 ≤ a0.toInt ∧ a0.toInt ≤ 63) ∨ (100 ≤ a0.toInt ∧ a0.toInt ≤ 115) ∨ (216 ≤ a0.toInt ∧ a0.toInt ≤ 343) ∨ ((400 ≤ a0.toInt ∧ a0.toInt ≤ 431) ∨ (440 ≤ a0.toInt ∧ a0.toInt ≤ 455) ∨ (460 ≤ a0.toInt ∧ a0.toInt ≤ 468) ∨ (480 ≤ a0.toInt ∧ a0.toInt ≤ 487)) ∨ (501 ≤ a0.toInt ∧ a0.toInt ≤ 516) ∨ a0.toInt = 520)) ∨ (q_z.toInt = 0 ∧ ¬ ((0 ≤ a0.toInt ∧ a0.toInt ≤ 63) ∨ (100 ≤ a0.toInt ∧ a0.toInt ≤ 115) ∨ (216 ≤ a0.toInt ∧ a0.toInt ≤ 343) ∨ ((400 ≤ a0.toInt ∧ a0.toInt ≤ 431) ∨ (440 ≤ a0.toInt ∧ a0.toInt ≤ 455) ∨ (460 ≤ a0.toInt ∧ a0.toInt ≤ 468) ∨ (480 ≤ a0.toInt ∧ a0.toInt ≤ 487)) ∨ (501 ≤ a0.toInt ∧ a0.toInt ≤ 516) ∨ a0.toInt = 520)); omega)
              · rw [i_lt] at c_141
                have k_145 : (480 : Int32).toInt = 480 := by decide
                refine So.ite (fun c_146 => ?_) (fun c_146 => ?_)
                · rw [i_lt] at c_146
                  have k_147 : (487 : Int32).toInt = 487 := by decide
                  unfold Mod_isDescriptor_j60
                  have k_148 : (0 : Int32).toInt = 0 := by decide
                  refine So.imp (t_Mod_isDescriptor_j61 (by show ((0 : Int32).toInt = 0 ∧ ¬ ((400 ≤ a0.toInt ∧ a0.toInt ≤ 431) ∨ (440 ≤ a0.toInt ∧ a0.toInt ≤ 455) ∨ (460 ≤ a0.toInt ∧ a0.toInt ≤ 468) ∨ (480 ≤ a0.toInt ∧ a0.toInt ≤ 487))) ∨ ((0 : Int32).toInt = 1 ∧ ((400 ≤ a0.toInt ∧ a0.toInt ≤ 431) ∨ (440 ≤ a0.toInt ∧ a0.toInt ≤ 455) ∨ (460 ≤ a0.toInt ∧ a0.toInt ≤ 468) ∨ (480 ≤ a0.toInt ∧ a0.toInt ≤ 487))); omega)) fun q_z h_z => ?_
                  have p_149 := h_z
                  exact (by show (q_z.toInt = 1 ∧ ((0 ≤ a0.toInt ∧ a0.toInt ≤ 63) ∨ (100 ≤ a0.toInt ∧ a0.toInt ≤ 115) ∨ (216 ≤ a0.toInt ∧ a0.toInt ≤ 343) ∨ ((400 ≤ a0.toInt ∧ a0.toInt ≤ 431) ∨ (440 ≤ a0.toInt ∧ a0.toInt ≤ 455) ∨ (460 ≤ a0.toInt ∧ a0.toInt ≤ 468) ∨ (480 ≤ a0.toInt ∧ a0.toInt ≤ 487)) ∨ (501 ≤ a0.toInt ∧ a0.toInt ≤ 516) ∨ a0.toInt = 520)) ∨ (q_z.toInt = 0 ∧ ¬ ((0 ≤ a0.toInt ∧ a0.toInt ≤ 63) ∨ (100 ≤ a0.toInt ∧ a0.toInt ≤ 115) ∨ (216 ≤ a0.toInt ∧ a0.toInt ≤ 343) ∨ ((400 ≤ a0.toInt ∧ a0.toInt ≤ 431) ∨ (440 ≤ a0.toInt ∧ a0.toInt ≤ 455) ∨ (460 ≤ a0.toInt ∧ a0.toInt ≤ 468) ∨ (480 ≤ a0.toInt ∧ a0.toInt ≤ 487)) ∨ (501 ≤ a0.toInt ∧ a0.toInt ≤ 516) ∨ a0.toInt = 520)); omega)
                · rw [i_lt] at c_146
                  have k_150 : (487 : Int32).toInt = 487 := by decide
                  unfold Mod_isDescriptor_j56
                  have k_151 : (1 : Int32).toInt = 1 := by decide
                  refine So.imp (t_Mod_isDescriptor_j61 (by show ((1 : Int32).toInt = 0 ∧ ¬ ((400 ≤ a0.toInt ∧ a0.toInt ≤ 431) ∨ (440 ≤ a0.toInt ∧ a0.toInt ≤ 455) ∨ (460 ≤ a0.toInt ∧ a0.toInt ≤ 468) ∨ (480 ≤ a0.toInt ∧ a0.toInt ≤ 487))) ∨ ((1 : Int32).toInt = 1 ∧ ((400 ≤ a0.toInt ∧ a0.toInt ≤ 431) ∨ (440 ≤ a0.toInt ∧ a0.toInt ≤ 455) ∨ (460 ≤ a0.toInt ∧ a0.toInt ≤ 468) ∨ (480 ≤ a0.toInt ∧ a0.toInt ≤ 487))); omega)) fun q_z h_z => ?_
                  have p_152 := h_z
                  exact (by show (q_z.toInt = 1 ∧ ((0 ≤ a0.toInt ∧ a0.toInt ≤ 63) ∨ (100 ≤ a0.toInt ∧ a0.toInt ≤ 115) ∨ (216 ≤ a0.toInt ∧ a0.toInt ≤ 343) ∨ ((400 ≤ a0.toInt ∧ a0.toInt ≤ 431) ∨ (440 ≤ a0.toInt ∧ a0.toInt ≤ 455) ∨ (460 ≤ a0.toInt ∧ a0.toInt ≤ 468) ∨ (480 ≤ a0.toInt ∧ a0.toInt ≤ 487)) ∨ (501 ≤ a0.toInt ∧ a0.toInt ≤ 516) ∨ a0.toInt = 520)) ∨ (q_z.toInt = 0 ∧ ¬ ((0 ≤ a0.toInt ∧ a0.toInt ≤ 63) ∨ (100 ≤ a0.toInt ∧ a0.toInt ≤ 115) ∨ (216 ≤ a0.toInt ∧ a0.toInt ≤ 343) ∨ ((400 ≤ a0.toInt ∧ a0.toInt ≤ 431) ∨ (440 ≤ a0.toInt ∧ a0.toInt ≤ 455) ∨ (460 ≤ a0.toInt ∧ a0.toInt ≤ 468) ∨ (480 ≤ a0.toInt ∧ a0.toInt ≤ 487)) ∨ (501 ≤ a0.toInt ∧ a0.toInt ≤ 516) ∨ a0.toInt = 520)); omega)
theorem t_Mod_operator {a0 : Int32}  : So (Mod_operator a0) (fun r => ((r.toInt = -1 ∧ ¬ (400 ≤ a0.toInt ∧ a0.toInt ≤ 487)) ∨ (0 ≤ r.toInt ∧ r.toInt ≤ 3 ∧ 400 ≤ a0.toInt ∧ a0.toInt ≤ 487 ∧ (r.toInt < 2 ∨ 460 ≤ a0.toInt)))) := by
  unfold Mod_operator
  refine So.ite (fun c_1 => ?_) (fun c_1 => ?_)
  · rw [i_lt] at c_1
    have k_2 : (400 : Int32).toInt = 400 := by decide
    have k_3 : ((-1) : Int32).toInt = -1 := by decide
    exact So.one (by show (((-1) : Int32).toInt = -1 ∧ ¬ (400 ≤ a0.toInt ∧ a0.toInt ≤ 487)) ∨ (0 ≤ ((-1) : Int32).toInt ∧ ((-1) : Int32).toInt ≤ 3 ∧ 400 ≤ a0.toInt ∧ a0.toInt ≤ 487 ∧ (((-1) : Int32).toInt < 2 ∨ 460 ≤ a0.toInt)); omega)
  · rw [i_lt] at c_1
    have k_4 : (400 : Int32).toInt = 400 := by decide
    refine So.ite (fun c_5 => ?_) (fun c_5 => ?_)
    · rw [i_le] at c_5
      have k_6 : (487 : Int32).toInt = 487 := by decide
      refine So.ite (fun c_7 => ?_) (fun c_7 => ?_)
      · rw [i_le] at c_7
        have k_8 : (440 : Int32).toInt = 440 := by decide
        refine So.ite (fun c_9 => ?_) (fun c_9 => ?_)
        · rw [i_le] at c_9
          have k_10 : (460 : Int32).toInt = 460 := by decide
          refine So.ite (fun c_11 => ?_) (fun c_11 => ?_)
          · rw [i_le] at c_11
            have k_12 : (480 : Int32).toInt = 480 := by decide
            have k_13 : (3 : Int32).toInt = 3 := by decide
            exact So.one (by show ((3 : Int32).toInt = -1 ∧ ¬ (400 ≤ a0.toInt ∧ a0.toInt ≤ 487)) ∨ (0 ≤ (3 : Int32).toInt ∧ (3 : Int32).toInt ≤ 3 ∧ 400 ≤ a0.toInt ∧ a0.toInt ≤ 487 ∧ ((3 : Int32).toInt < 2 ∨ 460 ≤ a0.toInt)); omega)
          · rw [i_le] at c_11
            have k_14 : (480 : Int32).toInt = 480 := by decide
            have k_15 : (2 : Int32).toInt = 2 := by decide
            exact So.one (by show ((2 : Int32).toInt = -1 ∧ ¬ (400 ≤ a0.toInt ∧ a0.toInt ≤ 487)) ∨ (0 ≤ (2 : Int32).toInt ∧ (2 : Int32).toInt ≤ 3 ∧ 400 ≤ a0.toInt ∧ a0.toInt ≤ 487 ∧ ((2 : Int32).toInt < 2 ∨ 460 ≤ a0.toInt)); omega)
        · rw [i_le] at c_9
          have k_16 : (460 : Int32).toInt = 460 := by decide
          have k_17 : (1 : Int32).toInt = 1 := by decide
          exact So.one (by show ((1 : Int32).toInt = -1 ∧ ¬ (400 ≤ a0.toInt ∧ a0.toInt ≤ 487)) ∨ (0 ≤ (1 : Int32).toInt ∧ (1 : Int32).toInt ≤ 3 ∧ 400 ≤ a0.toInt ∧ a0.toInt ≤ 487 ∧ ((1 : Int32).toInt < 2 ∨ 460 ≤ a0.toInt)); omega)
      · rw [i_le] at c_7
        have k_18 : (440 : Int32).toInt = 440 := by decide
        have k_19 : (0 : Int32).toInt = 0 := by decide
        exact So.one (by show ((0 : Int32).toInt = -1 ∧ ¬ (400 ≤ a0.toInt ∧ a0.toInt ≤ 487)) ∨ (0 ≤ (0 : Int32).toInt ∧ (0 : Int32).toInt ≤ 3 ∧ 400 ≤ a0.toInt ∧ a0.toInt ≤ 487 ∧ ((0 : Int32).toInt < 2 ∨ 460 ≤ a0.toInt)); omega)
    · rw [i_le] at c_5
      have k_20 : (487 : Int32).toInt = 487 := by decide
      have k_21 : ((-1) : Int32).toInt = -1 := by decide
      exact So.one (by show (((-1) : Int32).toInt = -1 ∧ ¬ (400 ≤ a0.toInt ∧ a0.toInt ≤ 487)) ∨ (0 ≤ ((-1) : Int32).toInt ∧ ((-1) : Int32).toInt ≤ 3 ∧ 400 ≤ a0.toInt ∧ a0.toInt ≤ 487 ∧ (((-1) : Int32).toInt < 2 ∨ 460 ≤ a0.toInt)); omega)
theorem t_Mod_append {a0 : Int32} {a1 : Int32} {sMo : S_Mo} {sMlists : (Nat → Int32)} {sMlengths : (Nat → Int32)} (I_sMo : I_Mo sMo) (I_sMlists : A_Mlists sMlists) (I_sMlengths : A_Mlengths sMlengths) : So (Mod_append a0 a1 sMo sMlists sMlengths) (fun r => I_Mo r.2.1 ∧ A_Mlists r.2.2.1 ∧ A_Mlengths r.2.2.2 ∧ (0 ≤ (Mo_thrown r.2.1).toInt) ∧ ((Mo_thrown r.2.1).toInt ≤ 2) ∧ ((Mo_used r.2.1).toInt = (Mo_used sMo).toInt) ∧ ((Mo_taped r.2.1).toInt = (Mo_taped sMo).toInt)) := by
  unfold Mod_append
  refine So.ite (fun c_1 => ?_) (fun c_1 => ?_)
  · rw [i_lt] at c_1
    have k_2 : ((-1) : Int32).toInt = -1 := by decide
    unfold Mod_append_j19
    unfold Mod_append_j24
    refine So.lt2 fun sMo_5 e_3 => ?_
    have I_4 : I_Mo sMo_5 := by rw [e_3]; exact (I_Mo_set_thrown I_sMo)
    have k_5 : (1 : Int32).toInt = 1 := by decide
    have f_6 : (Mo_thrown sMo_5).toInt = (1 : Int32).toInt := by subst e_3; rfl
    have f_7 : (Mo_used sMo_5).toInt = (Mo_used sMo).toInt := by subst e_3; rfl
    have f_8 : (Mo_taped sMo_5).toInt = (Mo_taped sMo).toInt := by subst e_3; rfl
    refine So.ite (fun c_9 => ?_) (fun c_9 => ?_)
    · rw [i_le] at c_9
      have k_10 : (0 : Int32).toInt = 0 := by decide
      unfold Mod_append_j37
      refine So.ite (fun c_11 => ?_) (fun c_11 => ?_)
      · rw [i_eq] at c_11
        refine So.gd (i_in.mpr (by omega)) ?_
        refine So.ite (fun c_12 => ?_) (fun c_12 => ?_)
        · rw [i_le] at c_12
          unfold Mod_append_j62
          refine So.ite (fun c_13 => ?_) (fun c_13 => ?_)
          · rw [i_eq] at c_13
            have f_14 := A_Mlengths_at I_sMlengths (a0.toNatClampNeg)
            have f_15 := i_natm a0
            have k_16 : (8 : Int32).toInt = 8 := by decide
            refine So.lt2 fun sMo_10 e_17 => ?_
            have I_18 : I_Mo sMo_10 := by rw [e_17]; exact (I_Mo_set_thrown I_4)
            have k_19 : (2 : Int32).toInt = 2 := by decide
            have f_20 : (Mo_thrown sMo_10).toInt = (2 : Int32).toInt := by subst e_17; rfl
            have f_21 : (Mo_used sMo_10).toInt = (Mo_used sMo_5).toInt := by subst e_17; rfl
            have f_22 : (Mo_taped sMo_10).toInt = (Mo_taped sMo_5).toInt := by subst e_17; rfl
            unfold Mod_append_j70
            refine So.ite (fun c_23 => ?_) (fun c_23 => ?_)
            · rw [i_le] at c_23
              refine So.gd (i_in.mpr (by omega)) ?_
              have k_24 : (24 : Int32).toInt = 24 := by decide
              first | have f_25 := i_mull 24 a0 (24) (by decide) (by omega) (by omega) | have f_25 := i_mullm 24 a0 (24) (by decide)
              first | have f_26 := i_add (a := (24 * a0)) (b := (sMlengths (a0.toNatClampNeg))) (by omega) (by omega) | have f_26 := i_addm (24 * a0) (sMlengths (a0.toNatClampNeg))
              refine So.gd (i_in.mpr (by omega)) ?_
              refine So.lt2 fun sMlists_14 e_27 => ?_
              have f_28 := i_natm ((24 * a0) + (sMlengths (a0.toNatClampNeg)))
              have I_29 : A_Mlists sMlists_14 := by rw [e_27]; exact (A_Mlists_upd I_sMlists (by show (0 ≤ (a1 : Int32).toInt ∧ (a1 : Int32).toInt ≤ 63) ∨ (100 ≤ (a1 : Int32).toInt ∧ (a1 : Int32).toInt ≤ 115) ∨ (216 ≤ (a1 : Int32).toInt ∧ (a1 : Int32).toInt ≤ 343) ∨ (400 ≤ (a1 : Int32).toInt ∧ (a1 : Int32).toInt ≤ 487) ∨ (501 ≤ (a1 : Int32).toInt ∧ (a1 : Int32).toInt ≤ 516) ∨ (a1 : Int32).toInt = 520; omega))
              refine So.gd (i_in.mpr (by omega)) ?_
              refine So.gd (i_in.mpr (by omega)) ?_
              refine So.lt2 fun sMlengths_17 e_30 => ?_
              first | have f_31 := i_add (a := (sMlengths (a0.toNatClampNeg))) (b := 1) (by omega) (by omega) | have f_31 := i_addm (sMlengths (a0.toNatClampNeg)) 1
              have I_32 : A_Mlengths sMlengths_17 := by rw [e_30]; exact (A_Mlengths_upd I_sMlengths (by show 0 ≤ (((sMlengths (a0.toNatClampNeg)) + 1) : Int32).toInt ∧ (((sMlengths (a0.toNatClampNeg)) + 1) : Int32).toInt ≤ 24 ∧ ((a0.toNatClampNeg) < 16 → (((sMlengths (a0.toNatClampNeg)) + 1) : Int32).toInt ≤ 8); omega))
              refine So.gd (i_in.mpr (by omega)) ?_
              exact So.one ⟨I_18, I_29, I_32, (by show 0 ≤ (Mo_thrown sMo_10).toInt; omega), (by show (Mo_thrown sMo_10).toInt ≤ 2; omega), (by show (Mo_used sMo_10).toInt = (Mo_used sMo).toInt; omega), (by show (Mo_taped sMo_10).toInt = (Mo_taped sMo).toInt; omega)⟩
            · rw [i_le] at c_23
              exact So.one ⟨I_18, I_sMlists, I_sMlengths, (by show 0 ≤ (Mo_thrown sMo_10).toInt; omega), (by show (Mo_thrown sMo_10).toInt ≤ 2; omega), (by show (Mo_used sMo_10).toInt = (Mo_used sMo).toInt; omega), (by show (Mo_taped sMo_10).toInt = (Mo_taped sMo).toInt; omega)⟩
          · rw [i_eq] at c_13
            have f_33 := A_Mlengths_at I_sMlengths (a0.toNatClampNeg)
            have f_34 := i_natm a0
            have k_35 : (8 : Int32).toInt = 8 := by decide
            unfold Mod_append_j70
            refine So.ite (fun c_36 => ?_) (fun c_36 => ?_)
            · rw [i_le] at c_36
              refine So.gd (i_in.mpr (by omega)) ?_
              have k_37 : (24 : Int32).toInt = 24 := by decide
              first | have f_38 := i_mull 24 a0 (24) (by decide) (by omega) (by omega) | have f_38 := i_mullm 24 a0 (24) (by decide)
              first | have f_39 := i_add (a := (24 * a0)) (b := (sMlengths (a0.toNatClampNeg))) (by omega) (by omega) | have f_39 := i_addm (24 * a0) (sMlengths (a0.toNatClampNeg))
              refine So.gd (i_in.mpr (by omega)) ?_
              refine So.lt2 fun sMlists_14 e_40 => ?_
              have f_41 := i_natm ((24 * a0) + (sMlengths (a0.toNatClampNeg)))
              have I_42 : A_Mlists sMlists_14 := by rw [e_40]; exact (A_Mlists_upd I_sMlists (by show (0 ≤ (a1 : Int32).toInt ∧ (a1 : Int32).toInt ≤ 63) ∨ (100 ≤ (a1 : Int32).toInt ∧ (a1 : Int32).toInt ≤ 115) ∨ (216 ≤ (a1 : Int32).toInt ∧ (a1 : Int32).toInt ≤ 343) ∨ (400 ≤ (a1 : Int32).toInt ∧ (a1 : Int32).toInt ≤ 487) ∨ (501 ≤ (a1 : Int32).toInt ∧ (a1 : Int32).toInt ≤ 516) ∨ (a1 : Int32).toInt = 520; omega))
              refine So.gd (i_in.mpr (by omega)) ?_
              refine So.gd (i_in.mpr (by omega)) ?_
              refine So.lt2 fun sMlengths_17 e_43 => ?_
              first | have f_44 := i_add (a := (sMlengths (a0.toNatClampNeg))) (b := 1) (by omega) (by omega) | have f_44 := i_addm (sMlengths (a0.toNatClampNeg)) 1
              have I_45 : A_Mlengths sMlengths_17 := by rw [e_43]; exact (A_Mlengths_upd I_sMlengths (by show 0 ≤ (((sMlengths (a0.toNatClampNeg)) + 1) : Int32).toInt ∧ (((sMlengths (a0.toNatClampNeg)) + 1) : Int32).toInt ≤ 24 ∧ ((a0.toNatClampNeg) < 16 → (((sMlengths (a0.toNatClampNeg)) + 1) : Int32).toInt ≤ 8); omega))
              refine So.gd (i_in.mpr (by omega)) ?_
              exact So.one ⟨I_4, I_42, I_45, (by show 0 ≤ (Mo_thrown sMo_5).toInt; omega), (by show (Mo_thrown sMo_5).toInt ≤ 2; omega), (by show (Mo_used sMo_5).toInt = (Mo_used sMo).toInt; omega), (by show (Mo_taped sMo_5).toInt = (Mo_taped sMo).toInt; omega)⟩
            · rw [i_le] at c_36
              exact So.one ⟨I_4, I_sMlists, I_sMlengths, (by show 0 ≤ (Mo_thrown sMo_5).toInt; omega), (by show (Mo_thrown sMo_5).toInt ≤ 2; omega), (by show (Mo_used sMo_5).toInt = (Mo_used sMo).toInt; omega), (by show (Mo_taped sMo_5).toInt = (Mo_taped sMo).toInt; omega)⟩
        · rw [i_le] at c_12
          unfold Mod_append_j62
          refine So.ite (fun c_46 => ?_) (fun c_46 => ?_)
          · rw [i_eq] at c_46
            have f_47 := A_Mlengths_at I_sMlengths (a0.toNatClampNeg)
            have f_48 := i_natm a0
            have k_49 : (24 : Int32).toInt = 24 := by decide
            refine So.lt2 fun sMo_10 e_50 => ?_
            have I_51 : I_Mo sMo_10 := by rw [e_50]; exact (I_Mo_set_thrown I_4)
            have k_52 : (2 : Int32).toInt = 2 := by decide
            have f_53 : (Mo_thrown sMo_10).toInt = (2 : Int32).toInt := by subst e_50; rfl
            have f_54 : (Mo_used sMo_10).toInt = (Mo_used sMo_5).toInt := by subst e_50; rfl
            have f_55 : (Mo_taped sMo_10).toInt = (Mo_taped sMo_5).toInt := by subst e_50; rfl
            unfold Mod_append_j70
            refine So.ite (fun c_56 => ?_) (fun c_56 => ?_)
            · rw [i_le] at c_56
              refine So.gd (i_in.mpr (by omega)) ?_
              first | have f_57 := i_mull 24 a0 (24) (by decide) (by omega) (by omega) | have f_57 := i_mullm 24 a0 (24) (by decide)
              first | have f_58 := i_add (a := (24 * a0)) (b := (sMlengths (a0.toNatClampNeg))) (by omega) (by omega) | have f_58 := i_addm (24 * a0) (sMlengths (a0.toNatClampNeg))
              refine So.gd (i_in.mpr (by omega)) ?_
              refine So.lt2 fun sMlists_14 e_59 => ?_
              have f_60 := i_natm ((24 * a0) + (sMlengths (a0.toNatClampNeg)))
              have I_61 : A_Mlists sMlists_14 := by rw [e_59]; exact (A_Mlists_upd I_sMlists (by show (0 ≤ (a1 : Int32).toInt ∧ (a1 : Int32).toInt ≤ 63) ∨ (100 ≤ (a1 : Int32).toInt ∧ (a1 : Int32).toInt ≤ 115) ∨ (216 ≤ (a1 : Int32).toInt ∧ (a1 : Int32).toInt ≤ 343) ∨ (400 ≤ (a1 : Int32).toInt ∧ (a1 : Int32).toInt ≤ 487) ∨ (501 ≤ (a1 : Int32).toInt ∧ (a1 : Int32).toInt ≤ 516) ∨ (a1 : Int32).toInt = 520; omega))
              refine So.gd (i_in.mpr (by omega)) ?_
              refine So.gd (i_in.mpr (by omega)) ?_
              refine So.lt2 fun sMlengths_17 e_62 => ?_
              first | have f_63 := i_add (a := (sMlengths (a0.toNatClampNeg))) (b := 1) (by omega) (by omega) | have f_63 := i_addm (sMlengths (a0.toNatClampNeg)) 1
              have I_64 : A_Mlengths sMlengths_17 := by rw [e_62]; exact (A_Mlengths_upd I_sMlengths (by show 0 ≤ (((sMlengths (a0.toNatClampNeg)) + 1) : Int32).toInt ∧ (((sMlengths (a0.toNatClampNeg)) + 1) : Int32).toInt ≤ 24 ∧ ((a0.toNatClampNeg) < 16 → (((sMlengths (a0.toNatClampNeg)) + 1) : Int32).toInt ≤ 8); omega))
              refine So.gd (i_in.mpr (by omega)) ?_
              exact So.one ⟨I_51, I_61, I_64, (by show 0 ≤ (Mo_thrown sMo_10).toInt; omega), (by show (Mo_thrown sMo_10).toInt ≤ 2; omega), (by show (Mo_used sMo_10).toInt = (Mo_used sMo).toInt; omega), (by show (Mo_taped sMo_10).toInt = (Mo_taped sMo).toInt; omega)⟩
            · rw [i_le] at c_56
              exact So.one ⟨I_51, I_sMlists, I_sMlengths, (by show 0 ≤ (Mo_thrown sMo_10).toInt; omega), (by show (Mo_thrown sMo_10).toInt ≤ 2; omega), (by show (Mo_used sMo_10).toInt = (Mo_used sMo).toInt; omega), (by show (Mo_taped sMo_10).toInt = (Mo_taped sMo).toInt; omega)⟩
          · rw [i_eq] at c_46
            have f_65 := A_Mlengths_at I_sMlengths (a0.toNatClampNeg)
            have f_66 := i_natm a0
            have k_67 : (24 : Int32).toInt = 24 := by decide
            unfold Mod_append_j70
            refine So.ite (fun c_68 => ?_) (fun c_68 => ?_)
            · rw [i_le] at c_68
              refine So.gd (i_in.mpr (by omega)) ?_
              first | have f_69 := i_mull 24 a0 (24) (by decide) (by omega) (by omega) | have f_69 := i_mullm 24 a0 (24) (by decide)
              first | have f_70 := i_add (a := (24 * a0)) (b := (sMlengths (a0.toNatClampNeg))) (by omega) (by omega) | have f_70 := i_addm (24 * a0) (sMlengths (a0.toNatClampNeg))
              refine So.gd (i_in.mpr (by omega)) ?_
              refine So.lt2 fun sMlists_14 e_71 => ?_
              have f_72 := i_natm ((24 * a0) + (sMlengths (a0.toNatClampNeg)))
              have I_73 : A_Mlists sMlists_14 := by rw [e_71]; exact (A_Mlists_upd I_sMlists (by show (0 ≤ (a1 : Int32).toInt ∧ (a1 : Int32).toInt ≤ 63) ∨ (100 ≤ (a1 : Int32).toInt ∧ (a1 : Int32).toInt ≤ 115) ∨ (216 ≤ (a1 : Int32).toInt ∧ (a1 : Int32).toInt ≤ 343) ∨ (400 ≤ (a1 : Int32).toInt ∧ (a1 : Int32).toInt ≤ 487) ∨ (501 ≤ (a1 : Int32).toInt ∧ (a1 : Int32).toInt ≤ 516) ∨ (a1 : Int32).toInt = 520; omega))
              refine So.gd (i_in.mpr (by omega)) ?_
              refine So.gd (i_in.mpr (by omega)) ?_
              refine So.lt2 fun sMlengths_17 e_74 => ?_
              first | have f_75 := i_add (a := (sMlengths (a0.toNatClampNeg))) (b := 1) (by omega) (by omega) | have f_75 := i_addm (sMlengths (a0.toNatClampNeg)) 1
              have I_76 : A_Mlengths sMlengths_17 := by rw [e_74]; exact (A_Mlengths_upd I_sMlengths (by show 0 ≤ (((sMlengths (a0.toNatClampNeg)) + 1) : Int32).toInt ∧ (((sMlengths (a0.toNatClampNeg)) + 1) : Int32).toInt ≤ 24 ∧ ((a0.toNatClampNeg) < 16 → (((sMlengths (a0.toNatClampNeg)) + 1) : Int32).toInt ≤ 8); omega))
              refine So.gd (i_in.mpr (by omega)) ?_
              exact So.one ⟨I_4, I_73, I_76, (by show 0 ≤ (Mo_thrown sMo_5).toInt; omega), (by show (Mo_thrown sMo_5).toInt ≤ 2; omega), (by show (Mo_used sMo_5).toInt = (Mo_used sMo).toInt; omega), (by show (Mo_taped sMo_5).toInt = (Mo_taped sMo).toInt; omega)⟩
            · rw [i_le] at c_68
              exact So.one ⟨I_4, I_sMlists, I_sMlengths, (by show 0 ≤ (Mo_thrown sMo_5).toInt; omega), (by show (Mo_thrown sMo_5).toInt ≤ 2; omega), (by show (Mo_used sMo_5).toInt = (Mo_used sMo).toInt; omega), (by show (Mo_taped sMo_5).toInt = (Mo_taped sMo).toInt; omega)⟩
      · rw [i_eq] at c_11
        unfold Mod_append_j70
        refine So.ite (fun c_77 => ?_) (fun c_77 => ?_)
        · rw [i_le] at c_77
          refine So.gd (i_in.mpr (by omega)) ?_
          have k_78 : (24 : Int32).toInt = 24 := by decide
          first | have f_79 := i_mull 24 a0 (24) (by decide) (by omega) (by omega) | have f_79 := i_mullm 24 a0 (24) (by decide)
          have f_80 := A_Mlengths_at I_sMlengths (a0.toNatClampNeg)
          have f_81 := i_natm a0
          first | have f_82 := i_add (a := (24 * a0)) (b := (sMlengths (a0.toNatClampNeg))) (by omega) (by omega) | have f_82 := i_addm (24 * a0) (sMlengths (a0.toNatClampNeg))
          refine So.gd (i_in.mpr (by omega)) ?_
          refine So.lt2 fun sMlists_14 e_83 => ?_
          have f_84 := i_natm ((24 * a0) + (sMlengths (a0.toNatClampNeg)))
          have I_85 : A_Mlists sMlists_14 := by rw [e_83]; exact (A_Mlists_upd I_sMlists (by show (0 ≤ (a1 : Int32).toInt ∧ (a1 : Int32).toInt ≤ 63) ∨ (100 ≤ (a1 : Int32).toInt ∧ (a1 : Int32).toInt ≤ 115) ∨ (216 ≤ (a1 : Int32).toInt ∧ (a1 : Int32).toInt ≤ 343) ∨ (400 ≤ (a1 : Int32).toInt ∧ (a1 : Int32).toInt ≤ 487) ∨ (501 ≤ (a1 : Int32).toInt ∧ (a1 : Int32).toInt ≤ 516) ∨ (a1 : Int32).toInt = 520; omega))
          refine So.gd (i_in.mpr (by omega)) ?_
          refine So.gd (i_in.mpr (by omega)) ?_
          refine So.lt2 fun sMlengths_17 e_86 => ?_
          first | have f_87 := i_add (a := (sMlengths (a0.toNatClampNeg))) (b := 1) (by omega) (by omega) | have f_87 := i_addm (sMlengths (a0.toNatClampNeg)) 1
          have I_88 : A_Mlengths sMlengths_17 := by rw [e_86]; exact (A_Mlengths_upd I_sMlengths (by show 0 ≤ (((sMlengths (a0.toNatClampNeg)) + 1) : Int32).toInt ∧ (((sMlengths (a0.toNatClampNeg)) + 1) : Int32).toInt ≤ 24 ∧ ((a0.toNatClampNeg) < 16 → (((sMlengths (a0.toNatClampNeg)) + 1) : Int32).toInt ≤ 8); omega))
          refine So.gd (i_in.mpr (by omega)) ?_
          exact So.one ⟨I_4, I_85, I_88, (by show 0 ≤ (Mo_thrown sMo_5).toInt; omega), (by show (Mo_thrown sMo_5).toInt ≤ 2; omega), (by show (Mo_used sMo_5).toInt = (Mo_used sMo).toInt; omega), (by show (Mo_taped sMo_5).toInt = (Mo_taped sMo).toInt; omega)⟩
        · rw [i_le] at c_77
          exact So.one ⟨I_4, I_sMlists, I_sMlengths, (by show 0 ≤ (Mo_thrown sMo_5).toInt; omega), (by show (Mo_thrown sMo_5).toInt ≤ 2; omega), (by show (Mo_used sMo_5).toInt = (Mo_used sMo).toInt; omega), (by show (Mo_taped sMo_5).toInt = (Mo_taped sMo).toInt; omega)⟩
    · rw [i_le] at c_9
      have k_89 : (0 : Int32).toInt = 0 := by decide
      unfold Mod_append_j37
      refine So.ite (fun c_90 => ?_) (fun c_90 => ?_)
      · rw [i_eq] at c_90
        have k_91 : (16 : Int32).toInt = 16 := by decide
        refine So.gd (i_in.mpr (by omega)) ?_
        refine So.ite (fun c_92 => ?_) (fun c_92 => ?_)
        · rw [i_le] at c_92
          unfold Mod_append_j62
          refine So.ite (fun c_93 => ?_) (fun c_93 => ?_)
          · rw [i_eq] at c_93
            have f_94 := A_Mlengths_at I_sMlengths ((16 : Int32).toNatClampNeg)
            have f_95 := i_natm (16 : Int32)
            have k_96 : (8 : Int32).toInt = 8 := by decide
            refine So.lt2 fun sMo_10 e_97 => ?_
            have I_98 : I_Mo sMo_10 := by rw [e_97]; exact (I_Mo_set_thrown I_4)
            have k_99 : (2 : Int32).toInt = 2 := by decide
            have f_100 : (Mo_thrown sMo_10).toInt = (2 : Int32).toInt := by subst e_97; rfl
            have f_101 : (Mo_used sMo_10).toInt = (Mo_used sMo_5).toInt := by subst e_97; rfl
            have f_102 : (Mo_taped sMo_10).toInt = (Mo_taped sMo_5).toInt := by subst e_97; rfl
            unfold Mod_append_j70
            refine So.ite (fun c_103 => ?_) (fun c_103 => ?_)
            · rw [i_le] at c_103
              refine So.gd (i_in.mpr (by omega)) ?_
              have k_104 : ((24 * 16) : Int32).toInt = 384 := by decide
              first | have f_105 := i_add (a := ((24 * 16) : Int32)) (b := (sMlengths ((16 : Int32).toNatClampNeg))) (by omega) (by omega) | have f_105 := i_addm ((24 * 16) : Int32) (sMlengths ((16 : Int32).toNatClampNeg))
              refine So.gd (i_in.mpr (by omega)) ?_
              refine So.lt2 fun sMlists_14 e_106 => ?_
              have f_107 := i_natm ((24 * 16) + (sMlengths ((16 : Int32).toNatClampNeg)))
              have I_108 : A_Mlists sMlists_14 := by rw [e_106]; exact (A_Mlists_upd I_sMlists (by show (0 ≤ (a1 : Int32).toInt ∧ (a1 : Int32).toInt ≤ 63) ∨ (100 ≤ (a1 : Int32).toInt ∧ (a1 : Int32).toInt ≤ 115) ∨ (216 ≤ (a1 : Int32).toInt ∧ (a1 : Int32).toInt ≤ 343) ∨ (400 ≤ (a1 : Int32).toInt ∧ (a1 : Int32).toInt ≤ 487) ∨ (501 ≤ (a1 : Int32).toInt ∧ (a1 : Int32).toInt ≤ 516) ∨ (a1 : Int32).toInt = 520; omega))
              refine So.gd (i_in.mpr (by omega)) ?_
              refine So.gd (i_in.mpr (by omega)) ?_
              refine So.lt2 fun sMlengths_17 e_109 => ?_
              first | have f_110 := i_add (a := (sMlengths ((16 : Int32).toNatClampNeg))) (b := 1) (by omega) (by omega) | have f_110 := i_addm (sMlengths ((16 : Int32).toNatClampNeg)) 1
              have I_111 : A_Mlengths sMlengths_17 := by rw [e_109]; exact (A_Mlengths_upd I_sMlengths (by show 0 ≤ (((sMlengths ((16 : Int32).toNatClampNeg)) + 1) : Int32).toInt ∧ (((sMlengths ((16 : Int32).toNatClampNeg)) + 1) : Int32).toInt ≤ 24 ∧ (((16 : Int32).toNatClampNeg) < 16 → (((sMlengths ((16 : Int32).toNatClampNeg)) + 1) : Int32).toInt ≤ 8); omega))
              refine So.gd (i_in.mpr (by omega)) ?_
              exact So.one ⟨I_98, I_108, I_111, (by show 0 ≤ (Mo_thrown sMo_10).toInt; omega), (by show (Mo_thrown sMo_10).toInt ≤ 2; omega), (by show (Mo_used sMo_10).toInt = (Mo_used sMo).toInt; omega), (by show (Mo_taped sMo_10).toInt = (Mo_taped sMo).toInt; omega)⟩
            · rw [i_le] at c_103
              exact So.one ⟨I_98, I_sMlists, I_sMlengths, (by show 0 ≤ (Mo_thrown sMo_10).toInt; omega), (by show (Mo_thrown sMo_10).toInt ≤ 2; omega), (by show (Mo_used sMo_10).toInt = (Mo_used sMo).toInt; omega), (by show (Mo_taped sMo_10).toInt = (Mo_taped sMo).toInt; omega)⟩
          · rw [i_eq] at c_93
            have f_112 := A_Mlengths_at I_sMlengths ((16 : Int32).toNatClampNeg)
            have f_113 := i_natm (16 : Int32)
            have k_114 : (8 : Int32).toInt = 8 := by decide
            unfold Mod_append_j70
            refine So.ite (fun c_115 => ?_) (fun c_115 => ?_)
            · rw [i_le] at c_115
              refine So.gd (i_in.mpr (by omega)) ?_
              have k_116 : ((24 * 16) : Int32).toInt = 384 := by decide
              first | have f_117 := i_add (a := ((24 * 16) : Int32)) (b := (sMlengths ((16 : Int32).toNatClampNeg))) (by omega) (by omega) | have f_117 := i_addm ((24 * 16) : Int32) (sMlengths ((16 : Int32).toNatClampNeg))
              refine So.gd (i_in.mpr (by omega)) ?_
              refine So.lt2 fun sMlists_14 e_118 => ?_
              have f_119 := i_natm ((24 * 16) + (sMlengths ((16 : Int32).toNatClampNeg)))
              have I_120 : A_Mlists sMlists_14 := by rw [e_118]; exact (A_Mlists_upd I_sMlists (by show (0 ≤ (a1 : Int32).toInt ∧ (a1 : Int32).toInt ≤ 63) ∨ (100 ≤ (a1 : Int32).toInt ∧ (a1 : Int32).toInt ≤ 115) ∨ (216 ≤ (a1 : Int32).toInt ∧ (a1 : Int32).toInt ≤ 343) ∨ (400 ≤ (a1 : Int32).toInt ∧ (a1 : Int32).toInt ≤ 487) ∨ (501 ≤ (a1 : Int32).toInt ∧ (a1 : Int32).toInt ≤ 516) ∨ (a1 : Int32).toInt = 520; omega))
              refine So.gd (i_in.mpr (by omega)) ?_
              refine So.gd (i_in.mpr (by omega)) ?_
              refine So.lt2 fun sMlengths_17 e_121 => ?_
              first | have f_122 := i_add (a := (sMlengths ((16 : Int32).toNatClampNeg))) (b := 1) (by omega) (by omega) | have f_122 := i_addm (sMlengths ((16 : Int32).toNatClampNeg)) 1
              have I_123 : A_Mlengths sMlengths_17 := by rw [e_121]; exact (A_Mlengths_upd I_sMlengths (by show 0 ≤ (((sMlengths ((16 : Int32).toNatClampNeg)) + 1) : Int32).toInt ∧ (((sMlengths ((16 : Int32).toNatClampNeg)) + 1) : Int32).toInt ≤ 24 ∧ (((16 : Int32).toNatClampNeg) < 16 → (((sMlengths ((16 : Int32).toNatClampNeg)) + 1) : Int32).toInt ≤ 8); omega))
              refine So.gd (i_in.mpr (by omega)) ?_
              exact So.one ⟨I_4, I_120, I_123, (by show 0 ≤ (Mo_thrown sMo_5).toInt; omega), (by show (Mo_thrown sMo_5).toInt ≤ 2; omega), (by show (Mo_used sMo_5).toInt = (Mo_used sMo).toInt; omega), (by show (Mo_taped sMo_5).toInt = (Mo_taped sMo).toInt; omega)⟩
            · rw [i_le] at c_115
              exact So.one ⟨I_4, I_sMlists, I_sMlengths, (by show 0 ≤ (Mo_thrown sMo_5).toInt; omega), (by show (Mo_thrown sMo_5).toInt ≤ 2; omega), (by show (Mo_used sMo_5).toInt = (Mo_used sMo).toInt; omega), (by show (Mo_taped sMo_5).toInt = (Mo_taped sMo).toInt; omega)⟩
        · rw [i_le] at c_92
          unfold Mod_append_j62
          refine So.ite (fun c_124 => ?_) (fun c_124 => ?_)
          · rw [i_eq] at c_124
            have f_125 := A_Mlengths_at I_sMlengths ((16 : Int32).toNatClampNeg)
            have f_126 := i_natm (16 : Int32)
            have k_127 : (24 : Int32).toInt = 24 := by decide
            refine So.lt2 fun sMo_10 e_128 => ?_
            have I_129 : I_Mo sMo_10 := by rw [e_128]; exact (I_Mo_set_thrown I_4)
            have k_130 : (2 : Int32).toInt = 2 := by decide
            have f_131 : (Mo_thrown sMo_10).toInt = (2 : Int32).toInt := by subst e_128; rfl
            have f_132 : (Mo_used sMo_10).toInt = (Mo_used sMo_5).toInt := by subst e_128; rfl
            have f_133 : (Mo_taped sMo_10).toInt = (Mo_taped sMo_5).toInt := by subst e_128; rfl
            unfold Mod_append_j70
            refine So.ite (fun c_134 => ?_) (fun c_134 => ?_)
            · rw [i_le] at c_134
              refine So.gd (i_in.mpr (by omega)) ?_
              have k_135 : ((24 * 16) : Int32).toInt = 384 := by decide
              first | have f_136 := i_add (a := ((24 * 16) : Int32)) (b := (sMlengths ((16 : Int32).toNatClampNeg))) (by omega) (by omega) | have f_136 := i_addm ((24 * 16) : Int32) (sMlengths ((16 : Int32).toNatClampNeg))
              refine So.gd (i_in.mpr (by omega)) ?_
              refine So.lt2 fun sMlists_14 e_137 => ?_
              have f_138 := i_natm ((24 * 16) + (sMlengths ((16 : Int32).toNatClampNeg)))
              have I_139 : A_Mlists sMlists_14 := by rw [e_137]; exact (A_Mlists_upd I_sMlists (by show (0 ≤ (a1 : Int32).toInt ∧ (a1 : Int32).toInt ≤ 63) ∨ (100 ≤ (a1 : Int32).toInt ∧ (a1 : Int32).toInt ≤ 115) ∨ (216 ≤ (a1 : Int32).toInt ∧ (a1 : Int32).toInt ≤ 343) ∨ (400 ≤ (a1 : Int32).toInt ∧ (a1 : Int32).toInt ≤ 487) ∨ (501 ≤ (a1 : Int32).toInt ∧ (a1 : Int32).toInt ≤ 516) ∨ (a1 : Int32).toInt = 520; omega))
              refine So.gd (i_in.mpr (by omega)) ?_
              refine So.gd (i_in.mpr (by omega)) ?_
              refine So.lt2 fun sMlengths_17 e_140 => ?_
              first | have f_141 := i_add (a := (sMlengths ((16 : Int32).toNatClampNeg))) (b := 1) (by omega) (by omega) | have f_141 := i_addm (sMlengths ((16 : Int32).toNatClampNeg)) 1
              have I_142 : A_Mlengths sMlengths_17 := by rw [e_140]; exact (A_Mlengths_upd I_sMlengths (by show 0 ≤ (((sMlengths ((16 : Int32).toNatClampNeg)) + 1) : Int32).toInt ∧ (((sMlengths ((16 : Int32).toNatClampNeg)) + 1) : Int32).toInt ≤ 24 ∧ (((16 : Int32).toNatClampNeg) < 16 → (((sMlengths ((16 : Int32).toNatClampNeg)) + 1) : Int32).toInt ≤ 8); omega))
              refine So.gd (i_in.mpr (by omega)) ?_
              exact So.one ⟨I_129, I_139, I_142, (by show 0 ≤ (Mo_thrown sMo_10).toInt; omega), (by show (Mo_thrown sMo_10).toInt ≤ 2; omega), (by show (Mo_used sMo_10).toInt = (Mo_used sMo).toInt; omega), (by show (Mo_taped sMo_10).toInt = (Mo_taped sMo).toInt; omega)⟩
            · rw [i_le] at c_134
              exact So.one ⟨I_129, I_sMlists, I_sMlengths, (by show 0 ≤ (Mo_thrown sMo_10).toInt; omega), (by show (Mo_thrown sMo_10).toInt ≤ 2; omega), (by show (Mo_used sMo_10).toInt = (Mo_used sMo).toInt; omega), (by show (Mo_taped sMo_10).toInt = (Mo_taped sMo).toInt; omega)⟩
          · rw [i_eq] at c_124
            have f_143 := A_Mlengths_at I_sMlengths ((16 : Int32).toNatClampNeg)
            have f_144 := i_natm (16 : Int32)
            have k_145 : (24 : Int32).toInt = 24 := by decide
            unfold Mod_append_j70
            refine So.ite (fun c_146 => ?_) (fun c_146 => ?_)
            · rw [i_le] at c_146
              refine So.gd (i_in.mpr (by omega)) ?_
              have k_147 : ((24 * 16) : Int32).toInt = 384 := by decide
              first | have f_148 := i_add (a := ((24 * 16) : Int32)) (b := (sMlengths ((16 : Int32).toNatClampNeg))) (by omega) (by omega) | have f_148 := i_addm ((24 * 16) : Int32) (sMlengths ((16 : Int32).toNatClampNeg))
              refine So.gd (i_in.mpr (by omega)) ?_
              refine So.lt2 fun sMlists_14 e_149 => ?_
              have f_150 := i_natm ((24 * 16) + (sMlengths ((16 : Int32).toNatClampNeg)))
              have I_151 : A_Mlists sMlists_14 := by rw [e_149]; exact (A_Mlists_upd I_sMlists (by show (0 ≤ (a1 : Int32).toInt ∧ (a1 : Int32).toInt ≤ 63) ∨ (100 ≤ (a1 : Int32).toInt ∧ (a1 : Int32).toInt ≤ 115) ∨ (216 ≤ (a1 : Int32).toInt ∧ (a1 : Int32).toInt ≤ 343) ∨ (400 ≤ (a1 : Int32).toInt ∧ (a1 : Int32).toInt ≤ 487) ∨ (501 ≤ (a1 : Int32).toInt ∧ (a1 : Int32).toInt ≤ 516) ∨ (a1 : Int32).toInt = 520; omega))
              refine So.gd (i_in.mpr (by omega)) ?_
              refine So.gd (i_in.mpr (by omega)) ?_
              refine So.lt2 fun sMlengths_17 e_152 => ?_
              first | have f_153 := i_add (a := (sMlengths ((16 : Int32).toNatClampNeg))) (b := 1) (by omega) (by omega) | have f_153 := i_addm (sMlengths ((16 : Int32).toNatClampNeg)) 1
              have I_154 : A_Mlengths sMlengths_17 := by rw [e_152]; exact (A_Mlengths_upd I_sMlengths (by show 0 ≤ (((sMlengths ((16 : Int32).toNatClampNeg)) + 1) : Int32).toInt ∧ (((sMlengths ((16 : Int32).toNatClampNeg)) + 1) : Int32).toInt ≤ 24 ∧ (((16 : Int32).toNatClampNeg) < 16 → (((sMlengths ((16 : Int32).toNatClampNeg)) + 1) : Int32).toInt ≤ 8); omega))
              refine So.gd (i_in.mpr (by omega)) ?_
              exact So.one ⟨I_4, I_151, I_154, (by show 0 ≤ (Mo_thrown sMo_5).toInt; omega), (by show (Mo_thrown sMo_5).toInt ≤ 2; omega), (by show (Mo_used sMo_5).toInt = (Mo_used sMo).toInt; omega), (by show (Mo_taped sMo_5).toInt = (Mo_taped sMo).toInt; omega)⟩
            · rw [i_le] at c_146
              exact So.one ⟨I_4, I_sMlists, I_sMlengths, (by show 0 ≤ (Mo_thrown sMo_5).toInt; omega), (by show (Mo_thrown sMo_5).toInt ≤ 2; omega), (by show (Mo_used sMo_5).toInt = (Mo_used sMo).toInt; omega), (by show (Mo_taped sMo_5).toInt = (Mo_taped sMo).toInt; omega)⟩
      · rw [i_eq] at c_90
        unfold Mod_append_j70
        refine So.ite (fun c_155 => ?_) (fun c_155 => ?_)
        · rw [i_le] at c_155
          have k_156 : (16 : Int32).toInt = 16 := by decide
          refine So.gd (i_in.mpr (by omega)) ?_
          have k_157 : ((24 * 16) : Int32).toInt = 384 := by decide
          have f_158 := A_Mlengths_at I_sMlengths ((16 : Int32).toNatClampNeg)
          have f_159 := i_natm (16 : Int32)
          first | have f_160 := i_add (a := ((24 * 16) : Int32)) (b := (sMlengths ((16 : Int32).toNatClampNeg))) (by omega) (by omega) | have f_160 := i_addm ((24 * 16) : Int32) (sMlengths ((16 : Int32).toNatClampNeg))
          refine So.gd (i_in.mpr (by omega)) ?_
          refine So.lt2 fun sMlists_14 e_161 => ?_
          have f_162 := i_natm ((24 * 16) + (sMlengths ((16 : Int32).toNatClampNeg)))
          have I_163 : A_Mlists sMlists_14 := by rw [e_161]; exact (A_Mlists_upd I_sMlists (by show (0 ≤ (a1 : Int32).toInt ∧ (a1 : Int32).toInt ≤ 63) ∨ (100 ≤ (a1 : Int32).toInt ∧ (a1 : Int32).toInt ≤ 115) ∨ (216 ≤ (a1 : Int32).toInt ∧ (a1 : Int32).toInt ≤ 343) ∨ (400 ≤ (a1 : Int32).toInt ∧ (a1 : Int32).toInt ≤ 487) ∨ (501 ≤ (a1 : Int32).toInt ∧ (a1 : Int32).toInt ≤ 516) ∨ (a1 : Int32).toInt = 520; omega))
          refine So.gd (i_in.mpr (by omega)) ?_
          refine So.gd (i_in.mpr (by omega)) ?_
          refine So.lt2 fun sMlengths_17 e_164 => ?_
          first | have f_165 := i_add (a := (sMlengths ((16 : Int32).toNatClampNeg))) (b := 1) (by omega) (by omega) | have f_165 := i_addm (sMlengths ((16 : Int32).toNatClampNeg)) 1
          have I_166 : A_Mlengths sMlengths_17 := by rw [e_164]; exact (A_Mlengths_upd I_sMlengths (by show 0 ≤ (((sMlengths ((16 : Int32).toNatClampNeg)) + 1) : Int32).toInt ∧ (((sMlengths ((16 : Int32).toNatClampNeg)) + 1) : Int32).toInt ≤ 24 ∧ (((16 : Int32).toNatClampNeg) < 16 → (((sMlengths ((16 : Int32).toNatClampNeg)) + 1) : Int32).toInt ≤ 8); omega))
          refine So.gd (i_in.mpr (by omega)) ?_
          exact So.one ⟨I_4, I_163, I_166, (by show 0 ≤ (Mo_thrown sMo_5).toInt; omega), (by show (Mo_thrown sMo_5).toInt ≤ 2; omega), (by show (Mo_used sMo_5).toInt = (Mo_used sMo).toInt; omega), (by show (Mo_taped sMo_5).toInt = (Mo_taped sMo).toInt; omega)⟩
        · rw [i_le] at c_155
          exact So.one ⟨I_4, I_sMlists, I_sMlengths, (by show 0 ≤ (Mo_thrown sMo_5).toInt; omega), (by show (Mo_thrown sMo_5).toInt ≤ 2; omega), (by show (Mo_used sMo_5).toInt = (Mo_used sMo).toInt; omega), (by show (Mo_taped sMo_5).toInt = (Mo_taped sMo).toInt; omega)⟩
  · rw [i_lt] at c_1
    have k_167 : ((-1) : Int32).toInt = -1 := by decide
    refine So.ite (fun c_168 => ?_) (fun c_168 => ?_)
    · rw [i_lt] at c_168
      have k_169 : (15 : Int32).toInt = 15 := by decide
      unfold Mod_append_j19
      unfold Mod_append_j24
      refine So.lt2 fun sMo_5 e_170 => ?_
      have I_171 : I_Mo sMo_5 := by rw [e_170]; exact (I_Mo_set_thrown I_sMo)
      have k_172 : (1 : Int32).toInt = 1 := by decide
      have f_173 : (Mo_thrown sMo_5).toInt = (1 : Int32).toInt := by subst e_170; rfl
      have f_174 : (Mo_used sMo_5).toInt = (Mo_used sMo).toInt := by subst e_170; rfl
      have f_175 : (Mo_taped sMo_5).toInt = (Mo_taped sMo).toInt := by subst e_170; rfl
      refine So.ite (fun c_176 => ?_) (fun c_176 => ?_)
      · rw [i_le] at c_176
        have k_177 : (0 : Int32).toInt = 0 := by decide
        unfold Mod_append_j37
        refine So.ite (fun c_178 => ?_) (fun c_178 => ?_)
        · rw [i_eq] at c_178
          refine So.gd (i_in.mpr (by omega)) ?_
          refine So.ite (fun c_179 => ?_) (fun c_179 => ?_)
          · rw [i_le] at c_179
            unfold Mod_append_j62
            refine So.ite (fun c_180 => ?_) (fun c_180 => ?_)
            · rw [i_eq] at c_180
              have f_181 := A_Mlengths_at I_sMlengths (a0.toNatClampNeg)
              have f_182 := i_natm a0
              have k_183 : (8 : Int32).toInt = 8 := by decide
              refine So.lt2 fun sMo_10 e_184 => ?_
              have I_185 : I_Mo sMo_10 := by rw [e_184]; exact (I_Mo_set_thrown I_171)
              have k_186 : (2 : Int32).toInt = 2 := by decide
              have f_187 : (Mo_thrown sMo_10).toInt = (2 : Int32).toInt := by subst e_184; rfl
              have f_188 : (Mo_used sMo_10).toInt = (Mo_used sMo_5).toInt := by subst e_184; rfl
              have f_189 : (Mo_taped sMo_10).toInt = (Mo_taped sMo_5).toInt := by subst e_184; rfl
              unfold Mod_append_j70
              refine So.ite (fun c_190 => ?_) (fun c_190 => ?_)
              · rw [i_le] at c_190
                refine So.gd (i_in.mpr (by omega)) ?_
                have k_191 : (24 : Int32).toInt = 24 := by decide
                first | have f_192 := i_mull 24 a0 (24) (by decide) (by omega) (by omega) | have f_192 := i_mullm 24 a0 (24) (by decide)
                first | have f_193 := i_add (a := (24 * a0)) (b := (sMlengths (a0.toNatClampNeg))) (by omega) (by omega) | have f_193 := i_addm (24 * a0) (sMlengths (a0.toNatClampNeg))
                refine So.gd (i_in.mpr (by omega)) ?_
                refine So.lt2 fun sMlists_14 e_194 => ?_
                have f_195 := i_natm ((24 * a0) + (sMlengths (a0.toNatClampNeg)))
                have I_196 : A_Mlists sMlists_14 := by rw [e_194]; exact (A_Mlists_upd I_sMlists (by show (0 ≤ (a1 : Int32).toInt ∧ (a1 : Int32).toInt ≤ 63) ∨ (100 ≤ (a1 : Int32).toInt ∧ (a1 : Int32).toInt ≤ 115) ∨ (216 ≤ (a1 : Int32).toInt ∧ (a1 : Int32).toInt ≤ 343) ∨ (400 ≤ (a1 : Int32).toInt ∧ (a1 : Int32).toInt ≤ 487) ∨ (501 ≤ (a1 : Int32).toInt ∧ (a1 : Int32).toInt ≤ 516) ∨ (a1 : Int32).toInt = 520; omega))
                refine So.gd (i_in.mpr (by omega)) ?_
                refine So.gd (i_in.mpr (by omega)) ?_
                refine So.lt2 fun sMlengths_17 e_197 => ?_
                first | have f_198 := i_add (a := (sMlengths (a0.toNatClampNeg))) (b := 1) (by omega) (by omega) | have f_198 := i_addm (sMlengths (a0.toNatClampNeg)) 1
                have I_199 : A_Mlengths sMlengths_17 := by rw [e_197]; exact (A_Mlengths_upd I_sMlengths (by show 0 ≤ (((sMlengths (a0.toNatClampNeg)) + 1) : Int32).toInt ∧ (((sMlengths (a0.toNatClampNeg)) + 1) : Int32).toInt ≤ 24 ∧ ((a0.toNatClampNeg) < 16 → (((sMlengths (a0.toNatClampNeg)) + 1) : Int32).toInt ≤ 8); omega))
                refine So.gd (i_in.mpr (by omega)) ?_
                exact So.one ⟨I_185, I_196, I_199, (by show 0 ≤ (Mo_thrown sMo_10).toInt; omega), (by show (Mo_thrown sMo_10).toInt ≤ 2; omega), (by show (Mo_used sMo_10).toInt = (Mo_used sMo).toInt; omega), (by show (Mo_taped sMo_10).toInt = (Mo_taped sMo).toInt; omega)⟩
              · rw [i_le] at c_190
                exact So.one ⟨I_185, I_sMlists, I_sMlengths, (by show 0 ≤ (Mo_thrown sMo_10).toInt; omega), (by show (Mo_thrown sMo_10).toInt ≤ 2; omega), (by show (Mo_used sMo_10).toInt = (Mo_used sMo).toInt; omega), (by show (Mo_taped sMo_10).toInt = (Mo_taped sMo).toInt; omega)⟩
            · rw [i_eq] at c_180
              have f_200 := A_Mlengths_at I_sMlengths (a0.toNatClampNeg)
              have f_201 := i_natm a0
              have k_202 : (8 : Int32).toInt = 8 := by decide
              unfold Mod_append_j70
              refine So.ite (fun c_203 => ?_) (fun c_203 => ?_)
              · rw [i_le] at c_203
                refine So.gd (i_in.mpr (by omega)) ?_
                have k_204 : (24 : Int32).toInt = 24 := by decide
                first | have f_205 := i_mull 24 a0 (24) (by decide) (by omega) (by omega) | have f_205 := i_mullm 24 a0 (24) (by decide)
                first | have f_206 := i_add (a := (24 * a0)) (b := (sMlengths (a0.toNatClampNeg))) (by omega) (by omega) | have f_206 := i_addm (24 * a0) (sMlengths (a0.toNatClampNeg))
                refine So.gd (i_in.mpr (by omega)) ?_
                refine So.lt2 fun sMlists_14 e_207 => ?_
                have f_208 := i_natm ((24 * a0) + (sMlengths (a0.toNatClampNeg)))
                have I_209 : A_Mlists sMlists_14 := by rw [e_207]; exact (A_Mlists_upd I_sMlists (by show (0 ≤ (a1 : Int32).toInt ∧ (a1 : Int32).toInt ≤ 63) ∨ (100 ≤ (a1 : Int32).toInt ∧ (a1 : Int32).toInt ≤ 115) ∨ (216 ≤ (a1 : Int32).toInt ∧ (a1 : Int32).toInt ≤ 343) ∨ (400 ≤ (a1 : Int32).toInt ∧ (a1 : Int32).toInt ≤ 487) ∨ (501 ≤ (a1 : Int32).toInt ∧ (a1 : Int32).toInt ≤ 516) ∨ (a1 : Int32).toInt = 520; omega))
                refine So.gd (i_in.mpr (by omega)) ?_
                refine So.gd (i_in.mpr (by omega)) ?_
                refine So.lt2 fun sMlengths_17 e_210 => ?_
                first | have f_211 := i_add (a := (sMlengths (a0.toNatClampNeg))) (b := 1) (by omega) (by omega) | have f_211 := i_addm (sMlengths (a0.toNatClampNeg)) 1
                have I_212 : A_Mlengths sMlengths_17 := by rw [e_210]; exact (A_Mlengths_upd I_sMlengths (by show 0 ≤ (((sMlengths (a0.toNatClampNeg)) + 1) : Int32).toInt ∧ (((sMlengths (a0.toNatClampNeg)) + 1) : Int32).toInt ≤ 24 ∧ ((a0.toNatClampNeg) < 16 → (((sMlengths (a0.toNatClampNeg)) + 1) : Int32).toInt ≤ 8); omega))
                refine So.gd (i_in.mpr (by omega)) ?_
                exact So.one ⟨I_171, I_209, I_212, (by show 0 ≤ (Mo_thrown sMo_5).toInt; omega), (by show (Mo_thrown sMo_5).toInt ≤ 2; omega), (by show (Mo_used sMo_5).toInt = (Mo_used sMo).toInt; omega), (by show (Mo_taped sMo_5).toInt = (Mo_taped sMo).toInt; omega)⟩
              · rw [i_le] at c_203
                exact So.one ⟨I_171, I_sMlists, I_sMlengths, (by show 0 ≤ (Mo_thrown sMo_5).toInt; omega), (by show (Mo_thrown sMo_5).toInt ≤ 2; omega), (by show (Mo_used sMo_5).toInt = (Mo_used sMo).toInt; omega), (by show (Mo_taped sMo_5).toInt = (Mo_taped sMo).toInt; omega)⟩
          · rw [i_le] at c_179
            unfold Mod_append_j62
            refine So.ite (fun c_213 => ?_) (fun c_213 => ?_)
            · rw [i_eq] at c_213
              have f_214 := A_Mlengths_at I_sMlengths (a0.toNatClampNeg)
              have f_215 := i_natm a0
              have k_216 : (24 : Int32).toInt = 24 := by decide
              refine So.lt2 fun sMo_10 e_217 => ?_
              have I_218 : I_Mo sMo_10 := by rw [e_217]; exact (I_Mo_set_thrown I_171)
              have k_219 : (2 : Int32).toInt = 2 := by decide
              have f_220 : (Mo_thrown sMo_10).toInt = (2 : Int32).toInt := by subst e_217; rfl
              have f_221 : (Mo_used sMo_10).toInt = (Mo_used sMo_5).toInt := by subst e_217; rfl
              have f_222 : (Mo_taped sMo_10).toInt = (Mo_taped sMo_5).toInt := by subst e_217; rfl
              unfold Mod_append_j70
              refine So.ite (fun c_223 => ?_) (fun c_223 => ?_)
              · rw [i_le] at c_223
                refine So.gd (i_in.mpr (by omega)) ?_
                first | have f_224 := i_mull 24 a0 (24) (by decide) (by omega) (by omega) | have f_224 := i_mullm 24 a0 (24) (by decide)
                first | have f_225 := i_add (a := (24 * a0)) (b := (sMlengths (a0.toNatClampNeg))) (by omega) (by omega) | have f_225 := i_addm (24 * a0) (sMlengths (a0.toNatClampNeg))
                refine So.gd (i_in.mpr (by omega)) ?_
                refine So.lt2 fun sMlists_14 e_226 => ?_
                have f_227 := i_natm ((24 * a0) + (sMlengths (a0.toNatClampNeg)))
                have I_228 : A_Mlists sMlists_14 := by rw [e_226]; exact (A_Mlists_upd I_sMlists (by show (0 ≤ (a1 : Int32).toInt ∧ (a1 : Int32).toInt ≤ 63) ∨ (100 ≤ (a1 : Int32).toInt ∧ (a1 : Int32).toInt ≤ 115) ∨ (216 ≤ (a1 : Int32).toInt ∧ (a1 : Int32).toInt ≤ 343) ∨ (400 ≤ (a1 : Int32).toInt ∧ (a1 : Int32).toInt ≤ 487) ∨ (501 ≤ (a1 : Int32).toInt ∧ (a1 : Int32).toInt ≤ 516) ∨ (a1 : Int32).toInt = 520; omega))
                refine So.gd (i_in.mpr (by omega)) ?_
                refine So.gd (i_in.mpr (by omega)) ?_
                refine So.lt2 fun sMlengths_17 e_229 => ?_
                first | have f_230 := i_add (a := (sMlengths (a0.toNatClampNeg))) (b := 1) (by omega) (by omega) | have f_230 := i_addm (sMlengths (a0.toNatClampNeg)) 1
                have I_231 : A_Mlengths sMlengths_17 := by rw [e_229]; exact (A_Mlengths_upd I_sMlengths (by show 0 ≤ (((sMlengths (a0.toNatClampNeg)) + 1) : Int32).toInt ∧ (((sMlengths (a0.toNatClampNeg)) + 1) : Int32).toInt ≤ 24 ∧ ((a0.toNatClampNeg) < 16 → (((sMlengths (a0.toNatClampNeg)) + 1) : Int32).toInt ≤ 8); omega))
                refine So.gd (i_in.mpr (by omega)) ?_
                exact So.one ⟨I_218, I_228, I_231, (by show 0 ≤ (Mo_thrown sMo_10).toInt; omega), (by show (Mo_thrown sMo_10).toInt ≤ 2; omega), (by show (Mo_used sMo_10).toInt = (Mo_used sMo).toInt; omega), (by show (Mo_taped sMo_10).toInt = (Mo_taped sMo).toInt; omega)⟩
              · rw [i_le] at c_223
                exact So.one ⟨I_218, I_sMlists, I_sMlengths, (by show 0 ≤ (Mo_thrown sMo_10).toInt; omega), (by show (Mo_thrown sMo_10).toInt ≤ 2; omega), (by show (Mo_used sMo_10).toInt = (Mo_used sMo).toInt; omega), (by show (Mo_taped sMo_10).toInt = (Mo_taped sMo).toInt; omega)⟩
            · rw [i_eq] at c_213
              have f_232 := A_Mlengths_at I_sMlengths (a0.toNatClampNeg)
              have f_233 := i_natm a0
              have k_234 : (24 : Int32).toInt = 24 := by decide
              unfold Mod_append_j70
              refine So.ite (fun c_235 => ?_) (fun c_235 => ?_)
              · rw [i_le] at c_235
                refine So.gd (i_in.mpr (by omega)) ?_
                first | have f_236 := i_mull 24 a0 (24) (by decide) (by omega) (by omega) | have f_236 := i_mullm 24 a0 (24) (by decide)
                first | have f_237 := i_add (a := (24 * a0)) (b := (sMlengths (a0.toNatClampNeg))) (by omega) (by omega) | have f_237 := i_addm (24 * a0) (sMlengths (a0.toNatClampNeg))
                refine So.gd (i_in.mpr (by omega)) ?_
                refine So.lt2 fun sMlists_14 e_238 => ?_
                have f_239 := i_natm ((24 * a0) + (sMlengths (a0.toNatClampNeg)))
                have I_240 : A_Mlists sMlists_14 := by rw [e_238]; exact (A_Mlists_upd I_sMlists (by show (0 ≤ (a1 : Int32).toInt ∧ (a1 : Int32).toInt ≤ 63) ∨ (100 ≤ (a1 : Int32).toInt ∧ (a1 : Int32).toInt ≤ 115) ∨ (216 ≤ (a1 : Int32).toInt ∧ (a1 : Int32).toInt ≤ 343) ∨ (400 ≤ (a1 : Int32).toInt ∧ (a1 : Int32).toInt ≤ 487) ∨ (501 ≤ (a1 : Int32).toInt ∧ (a1 : Int32).toInt ≤ 516) ∨ (a1 : Int32).toInt = 520; omega))
                refine So.gd (i_in.mpr (by omega)) ?_
                refine So.gd (i_in.mpr (by omega)) ?_
                refine So.lt2 fun sMlengths_17 e_241 => ?_
                first | have f_242 := i_add (a := (sMlengths (a0.toNatClampNeg))) (b := 1) (by omega) (by omega) | have f_242 := i_addm (sMlengths (a0.toNatClampNeg)) 1
                have I_243 : A_Mlengths sMlengths_17 := by rw [e_241]; exact (A_Mlengths_upd I_sMlengths (by show 0 ≤ (((sMlengths (a0.toNatClampNeg)) + 1) : Int32).toInt ∧ (((sMlengths (a0.toNatClampNeg)) + 1) : Int32).toInt ≤ 24 ∧ ((a0.toNatClampNeg) < 16 → (((sMlengths (a0.toNatClampNeg)) + 1) : Int32).toInt ≤ 8); omega))
                refine So.gd (i_in.mpr (by omega)) ?_
                exact So.one ⟨I_171, I_240, I_243, (by show 0 ≤ (Mo_thrown sMo_5).toInt; omega), (by show (Mo_thrown sMo_5).toInt ≤ 2; omega), (by show (Mo_used sMo_5).toInt = (Mo_used sMo).toInt; omega), (by show (Mo_taped sMo_5).toInt = (Mo_taped sMo).toInt; omega)⟩
              · rw [i_le] at c_235
                exact So.one ⟨I_171, I_sMlists, I_sMlengths, (by show 0 ≤ (Mo_thrown sMo_5).toInt; omega), (by show (Mo_thrown sMo_5).toInt ≤ 2; omega), (by show (Mo_used sMo_5).toInt = (Mo_used sMo).toInt; omega), (by show (Mo_taped sMo_5).toInt = (Mo_taped sMo).toInt; omega)⟩
        · rw [i_eq] at c_178
          unfold Mod_append_j70
          refine So.ite (fun c_244 => ?_) (fun c_244 => ?_)
          · rw [i_le] at c_244
            refine So.gd (i_in.mpr (by omega)) ?_
            have k_245 : (24 : Int32).toInt = 24 := by decide
            first | have f_246 := i_mull 24 a0 (24) (by decide) (by omega) (by omega) | have f_246 := i_mullm 24 a0 (24) (by decide)
            have f_247 := A_Mlengths_at I_sMlengths (a0.toNatClampNeg)
            have f_248 := i_natm a0
            first | have f_249 := i_add (a := (24 * a0)) (b := (sMlengths (a0.toNatClampNeg))) (by omega) (by omega) | have f_249 := i_addm (24 * a0) (sMlengths (a0.toNatClampNeg))
            refine So.gd (i_in.mpr (by omega)) ?_
            refine So.lt2 fun sMlists_14 e_250 => ?_
            have f_251 := i_natm ((24 * a0) + (sMlengths (a0.toNatClampNeg)))
            have I_252 : A_Mlists sMlists_14 := by rw [e_250]; exact (A_Mlists_upd I_sMlists (by show (0 ≤ (a1 : Int32).toInt ∧ (a1 : Int32).toInt ≤ 63) ∨ (100 ≤ (a1 : Int32).toInt ∧ (a1 : Int32).toInt ≤ 115) ∨ (216 ≤ (a1 : Int32).toInt ∧ (a1 : Int32).toInt ≤ 343) ∨ (400 ≤ (a1 : Int32).toInt ∧ (a1 : Int32).toInt ≤ 487) ∨ (501 ≤ (a1 : Int32).toInt ∧ (a1 : Int32).toInt ≤ 516) ∨ (a1 : Int32).toInt = 520; omega))
            refine So.gd (i_in.mpr (by omega)) ?_
            refine So.gd (i_in.mpr (by omega)) ?_
            refine So.lt2 fun sMlengths_17 e_253 => ?_
            first | have f_254 := i_add (a := (sMlengths (a0.toNatClampNeg))) (b := 1) (by omega) (by omega) | have f_254 := i_addm (sMlengths (a0.toNatClampNeg)) 1
            have I_255 : A_Mlengths sMlengths_17 := by rw [e_253]; exact (A_Mlengths_upd I_sMlengths (by show 0 ≤ (((sMlengths (a0.toNatClampNeg)) + 1) : Int32).toInt ∧ (((sMlengths (a0.toNatClampNeg)) + 1) : Int32).toInt ≤ 24 ∧ ((a0.toNatClampNeg) < 16 → (((sMlengths (a0.toNatClampNeg)) + 1) : Int32).toInt ≤ 8); omega))
            refine So.gd (i_in.mpr (by omega)) ?_
            exact So.one ⟨I_171, I_252, I_255, (by show 0 ≤ (Mo_thrown sMo_5).toInt; omega), (by show (Mo_thrown sMo_5).toInt ≤ 2; omega), (by show (Mo_used sMo_5).toInt = (Mo_used sMo).toInt; omega), (by show (Mo_taped sMo_5).toInt = (Mo_taped sMo).toInt; omega)⟩
          · rw [i_le] at c_244
            exact So.one ⟨I_171, I_sMlists, I_sMlengths, (by show 0 ≤ (Mo_thrown sMo_5).toInt; omega), (by show (Mo_thrown sMo_5).toInt ≤ 2; omega), (by show (Mo_used sMo_5).toInt = (Mo_used sMo).toInt; omega), (by show (Mo_taped sMo_5).toInt = (Mo_taped sMo).toInt; omega)⟩
      · rw [i_le] at c_176
        have k_256 : (0 : Int32).toInt = 0 := by decide
        unfold Mod_append_j37
        refine So.ite (fun c_257 => ?_) (fun c_257 => ?_)
        · rw [i_eq] at c_257
          have k_258 : (16 : Int32).toInt = 16 := by decide
          refine So.gd (i_in.mpr (by omega)) ?_
          refine So.ite (fun c_259 => ?_) (fun c_259 => ?_)
          · rw [i_le] at c_259
            unfold Mod_append_j62
            refine So.ite (fun c_260 => ?_) (fun c_260 => ?_)
            · rw [i_eq] at c_260
              have f_261 := A_Mlengths_at I_sMlengths ((16 : Int32).toNatClampNeg)
              have f_262 := i_natm (16 : Int32)
              have k_263 : (8 : Int32).toInt = 8 := by decide
              refine So.lt2 fun sMo_10 e_264 => ?_
              have I_265 : I_Mo sMo_10 := by rw [e_264]; exact (I_Mo_set_thrown I_171)
              have k_266 : (2 : Int32).toInt = 2 := by decide
              have f_267 : (Mo_thrown sMo_10).toInt = (2 : Int32).toInt := by subst e_264; rfl
              have f_268 : (Mo_used sMo_10).toInt = (Mo_used sMo_5).toInt := by subst e_264; rfl
              have f_269 : (Mo_taped sMo_10).toInt = (Mo_taped sMo_5).toInt := by subst e_264; rfl
              unfold Mod_append_j70
              refine So.ite (fun c_270 => ?_) (fun c_270 => ?_)
              · rw [i_le] at c_270
                refine So.gd (i_in.mpr (by omega)) ?_
                have k_271 : ((24 * 16) : Int32).toInt = 384 := by decide
                first | have f_272 := i_add (a := ((24 * 16) : Int32)) (b := (sMlengths ((16 : Int32).toNatClampNeg))) (by omega) (by omega) | have f_272 := i_addm ((24 * 16) : Int32) (sMlengths ((16 : Int32).toNatClampNeg))
                refine So.gd (i_in.mpr (by omega)) ?_
                refine So.lt2 fun sMlists_14 e_273 => ?_
                have f_274 := i_natm ((24 * 16) + (sMlengths ((16 : Int32).toNatClampNeg)))
                have I_275 : A_Mlists sMlists_14 := by rw [e_273]; exact (A_Mlists_upd I_sMlists (by show (0 ≤ (a1 : Int32).toInt ∧ (a1 : Int32).toInt ≤ 63) ∨ (100 ≤ (a1 : Int32).toInt ∧ (a1 : Int32).toInt ≤ 115) ∨ (216 ≤ (a1 : Int32).toInt ∧ (a1 : Int32).toInt ≤ 343) ∨ (400 ≤ (a1 : Int32).toInt ∧ (a1 : Int32).toInt ≤ 487) ∨ (501 ≤ (a1 : Int32).toInt ∧ (a1 : Int32).toInt ≤ 516) ∨ (a1 : Int32).toInt = 520; omega))
                refine So.gd (i_in.mpr (by omega)) ?_
                refine So.gd (i_in.mpr (by omega)) ?_
                refine So.lt2 fun sMlengths_17 e_276 => ?_
                first | have f_277 := i_add (a := (sMlengths ((16 : Int32).toNatClampNeg))) (b := 1) (by omega) (by omega) | have f_277 := i_addm (sMlengths ((16 : Int32).toNatClampNeg)) 1
                have I_278 : A_Mlengths sMlengths_17 := by rw [e_276]; exact (A_Mlengths_upd I_sMlengths (by show 0 ≤ (((sMlengths ((16 : Int32).toNatClampNeg)) + 1) : Int32).toInt ∧ (((sMlengths ((16 : Int32).toNatClampNeg)) + 1) : Int32).toInt ≤ 24 ∧ (((16 : Int32).toNatClampNeg) < 16 → (((sMlengths ((16 : Int32).toNatClampNeg)) + 1) : Int32).toInt ≤ 8); omega))
                refine So.gd (i_in.mpr (by omega)) ?_
                exact So.one ⟨I_265, I_275, I_278, (by show 0 ≤ (Mo_thrown sMo_10).toInt; omega), (by show (Mo_thrown sMo_10).toInt ≤ 2; omega), (by show (Mo_used sMo_10).toInt = (Mo_used sMo).toInt; omega), (by show (Mo_taped sMo_10).toInt = (Mo_taped sMo).toInt; omega)⟩
              · rw [i_le] at c_270
                exact So.one ⟨I_265, I_sMlists, I_sMlengths, (by show 0 ≤ (Mo_thrown sMo_10).toInt; omega), (by show (Mo_thrown sMo_10).toInt ≤ 2; omega), (by show (Mo_used sMo_10).toInt = (Mo_used sMo).toInt; omega), (by show (Mo_taped sMo_10).toInt = (Mo_taped sMo).toInt; omega)⟩
            · rw [i_eq] at c_260
              have f_279 := A_Mlengths_at I_sMlengths ((16 : Int32).toNatClampNeg)
              have f_280 := i_natm (16 : Int32)
              have k_281 : (8 : Int32).toInt = 8 := by decide
              unfold Mod_append_j70
              refine So.ite (fun c_282 => ?_) (fun c_282 => ?_)
              · rw [i_le] at c_282
                refine So.gd (i_in.mpr (by omega)) ?_
                have k_283 : ((24 * 16) : Int32).toInt = 384 := by decide
                first | have f_284 := i_add (a := ((24 * 16) : Int32)) (b := (sMlengths ((16 : Int32).toNatClampNeg))) (by omega) (by omega) | have f_284 := i_addm ((24 * 16) : Int32) (sMlengths ((16 : Int32).toNatClampNeg))
                refine So.gd (i_in.mpr (by omega)) ?_
                refine So.lt2 fun sMlists_14 e_285 => ?_
                have f_286 := i_natm ((24 * 16) + (sMlengths ((16 : Int32).toNatClampNeg)))
                have I_287 : A_Mlists sMlists_14 := by rw [e_285]; exact (A_Mlists_upd I_sMlists (by show (0 ≤ (a1 : Int32).toInt ∧ (a1 : Int32).toInt ≤ 63) ∨ (100 ≤ (a1 : Int32).toInt ∧ (a1 : Int32).toInt ≤ 115) ∨ (216 ≤ (a1 : Int32).toInt ∧ (a1 : Int32).toInt ≤ 343) ∨ (400 ≤ (a1 : Int32).toInt ∧ (a1 : Int32).toInt ≤ 487) ∨ (501 ≤ (a1 : Int32).toInt ∧ (a1 : Int32).toInt ≤ 516) ∨ (a1 : Int32).toInt = 520; omega))
                refine So.gd (i_in.mpr (by omega)) ?_
                refine So.gd (i_in.mpr (by omega)) ?_
                refine So.lt2 fun sMlengths_17 e_288 => ?_
                first | have f_289 := i_add (a := (sMlengths ((16 : Int32).toNatClampNeg))) (b := 1) (by omega) (by omega) | have f_289 := i_addm (sMlengths ((16 : Int32).toNatClampNeg)) 1
                have I_290 : A_Mlengths sMlengths_17 := by rw [e_288]; exact (A_Mlengths_upd I_sMlengths (by show 0 ≤ (((sMlengths ((16 : Int32).toNatClampNeg)) + 1) : Int32).toInt ∧ (((sMlengths ((16 : Int32).toNatClampNeg)) + 1) : Int32).toInt ≤ 24 ∧ (((16 : Int32).toNatClampNeg) < 16 → (((sMlengths ((16 : Int32).toNatClampNeg)) + 1) : Int32).toInt ≤ 8); omega))
                refine So.gd (i_in.mpr (by omega)) ?_
                exact So.one ⟨I_171, I_287, I_290, (by show 0 ≤ (Mo_thrown sMo_5).toInt; omega), (by show (Mo_thrown sMo_5).toInt ≤ 2; omega), (by show (Mo_used sMo_5).toInt = (Mo_used sMo).toInt; omega), (by show (Mo_taped sMo_5).toInt = (Mo_taped sMo).toInt; omega)⟩
              · rw [i_le] at c_282
                exact So.one ⟨I_171, I_sMlists, I_sMlengths, (by show 0 ≤ (Mo_thrown sMo_5).toInt; omega), (by show (Mo_thrown sMo_5).toInt ≤ 2; omega), (by show (Mo_used sMo_5).toInt = (Mo_used sMo).toInt; omega), (by show (Mo_taped sMo_5).toInt = (Mo_taped sMo).toInt; omega)⟩
          · rw [i_le] at c_259
            unfold Mod_append_j62
            refine So.ite (fun c_291 => ?_) (fun c_291 => ?_)
            · rw [i_eq] at c_291
              have f_292 := A_Mlengths_at I_sMlengths ((16 : Int32).toNatClampNeg)
              have f_293 := i_natm (16 : Int32)
              have k_294 : (24 : Int32).toInt = 24 := by decide
              refine So.lt2 fun sMo_10 e_295 => ?_
              have I_296 : I_Mo sMo_10 := by rw [e_295]; exact (I_Mo_set_thrown I_171)
              have k_297 : (2 : Int32).toInt = 2 := by decide
              have f_298 : (Mo_thrown sMo_10).toInt = (2 : Int32).toInt := by subst e_295; rfl
              have f_299 : (Mo_used sMo_10).toInt = (Mo_used sMo_5).toInt := by subst e_295; rfl
              have f_300 : (Mo_taped sMo_10).toInt = (Mo_taped sMo_5).toInt := by subst e_295; rfl
              unfold Mod_append_j70
              refine So.ite (fun c_301 => ?_) (fun c_301 => ?_)
              · rw [i_le] at c_301
                refine So.gd (i_in.mpr (by omega)) ?_
                have k_302 : ((24 * 16) : Int32).toInt = 384 := by decide
                first | have f_303 := i_add (a := ((24 * 16) : Int32)) (b := (sMlengths ((16 : Int32).toNatClampNeg))) (by omega) (by omega) | have f_303 := i_addm ((24 * 16) : Int32) (sMlengths ((16 : Int32).toNatClampNeg))
                refine So.gd (i_in.mpr (by omega)) ?_
                refine So.lt2 fun sMlists_14 e_304 => ?_
                have f_305 := i_natm ((24 * 16) + (sMlengths ((16 : Int32).toNatClampNeg)))
                have I_306 : A_Mlists sMlists_14 := by rw [e_304]; exact (A_Mlists_upd I_sMlists (by show (0 ≤ (a1 : Int32).toInt ∧ (a1 : Int32).toInt ≤ 63) ∨ (100 ≤ (a1 : Int32).toInt ∧ (a1 : Int32).toInt ≤ 115) ∨ (216 ≤ (a1 : Int32).toInt ∧ (a1 : Int32).toInt ≤ 343) ∨ (400 ≤ (a1 : Int32).toInt ∧ (a1 : Int32).toInt ≤ 487) ∨ (501 ≤ (a1 : Int32).toInt ∧ (a1 : Int32).toInt ≤ 516) ∨ (a1 : Int32).toInt = 520; omega))
                refine So.gd (i_in.mpr (by omega)) ?_
                refine So.gd (i_in.mpr (by omega)) ?_
                refine So.lt2 fun sMlengths_17 e_307 => ?_
                first | have f_308 := i_add (a := (sMlengths ((16 : Int32).toNatClampNeg))) (b := 1) (by omega) (by omega) | have f_308 := i_addm (sMlengths ((16 : Int32).toNatClampNeg)) 1
                have I_309 : A_Mlengths sMlengths_17 := by rw [e_307]; exact (A_Mlengths_upd I_sMlengths (by show 0 ≤ (((sMlengths ((16 : Int32).toNatClampNeg)) + 1) : Int32).toInt ∧ (((sMlengths ((16 : Int32).toNatClampNeg)) + 1) : Int32).toInt ≤ 24 ∧ (((16 : Int32).toNatClampNeg) < 16 → (((sMlengths ((16 : Int32).toNatClampNeg)) + 1) : Int32).toInt ≤ 8); omega))
                refine So.gd (i_in.mpr (by omega)) ?_
                exact So.one ⟨I_296, I_306, I_309, (by show 0 ≤ (Mo_thrown sMo_10).toInt; omega), (by show (Mo_thrown sMo_10).toInt ≤ 2; omega), (by show (Mo_used sMo_10).toInt = (Mo_used sMo).toInt; omega), (by show (Mo_taped sMo_10).toInt = (Mo_taped sMo).toInt; omega)⟩
              · rw [i_le] at c_301
                exact So.one ⟨I_296, I_sMlists, I_sMlengths, (by show 0 ≤ (Mo_thrown sMo_10).toInt; omega), (by show (Mo_thrown sMo_10).toInt ≤ 2; omega), (by show (Mo_used sMo_10).toInt = (Mo_used sMo).toInt; omega), (by show (Mo_taped sMo_10).toInt = (Mo_taped sMo).toInt; omega)⟩
            · rw [i_eq] at c_291
              have f_310 := A_Mlengths_at I_sMlengths ((16 : Int32).toNatClampNeg)
              have f_311 := i_natm (16 : Int32)
              have k_312 : (24 : Int32).toInt = 24 := by decide
              unfold Mod_append_j70
              refine So.ite (fun c_313 => ?_) (fun c_313 => ?_)
              · rw [i_le] at c_313
                refine So.gd (i_in.mpr (by omega)) ?_
                have k_314 : ((24 * 16) : Int32).toInt = 384 := by decide
                first | have f_315 := i_add (a := ((24 * 16) : Int32)) (b := (sMlengths ((16 : Int32).toNatClampNeg))) (by omega) (by omega) | have f_315 := i_addm ((24 * 16) : Int32) (sMlengths ((16 : Int32).toNatClampNeg))
                refine So.gd (i_in.mpr (by omega)) ?_
                refine So.lt2 fun sMlists_14 e_316 => ?_
                have f_317 := i_natm ((24 * 16) + (sMlengths ((16 : Int32).toNatClampNeg)))
                have I_318 : A_Mlists sMlists_14 := by rw [e_316]; exact (A_Mlists_upd I_sMlists (by show (0 ≤ (a1 : Int32).toInt ∧ (a1 : Int32).toInt ≤ 63) ∨ (100 ≤ (a1 : Int32).toInt ∧ (a1 : Int32).toInt ≤ 115) ∨ (216 ≤ (a1 : Int32).toInt ∧ (a1 : Int32).toInt ≤ 343) ∨ (400 ≤ (a1 : Int32).toInt ∧ (a1 : Int32).toInt ≤ 487) ∨ (501 ≤ (a1 : Int32).toInt ∧ (a1 : Int32).toInt ≤ 516) ∨ (a1 : Int32).toInt = 520; omega))
                refine So.gd (i_in.mpr (by omega)) ?_
                refine So.gd (i_in.mpr (by omega)) ?_
                refine So.lt2 fun sMlengths_17 e_319 => ?_
                first | have f_320 := i_add (a := (sMlengths ((16 : Int32).toNatClampNeg))) (b := 1) (by omega) (by omega) | have f_320 := i_addm (sMlengths ((16 : Int32).toNatClampNeg)) 1
                have I_321 : A_Mlengths sMlengths_17 := by rw [e_319]; exact (A_Mlengths_upd I_sMlengths (by show 0 ≤ (((sMlengths ((16 : Int32).toNatClampNeg)) + 1) : Int32).toInt ∧ (((sMlengths ((16 : Int32).toNatClampNeg)) + 1) : Int32).toInt ≤ 24 ∧ (((16 : Int32).toNatClampNeg) < 16 → (((sMlengths ((16 : Int32).toNatClampNeg)) + 1) : Int32).toInt ≤ 8); omega))
                refine So.gd (i_in.mpr (by omega)) ?_
                exact So.one ⟨I_171, I_318, I_321, (by show 0 ≤ (Mo_thrown sMo_5).toInt; omega), (by show (Mo_thrown sMo_5).toInt ≤ 2; omega), (by show (Mo_used sMo_5).toInt = (Mo_used sMo).toInt; omega), (by show (Mo_taped sMo_5).toInt = (Mo_taped sMo).toInt; omega)⟩
              · rw [i_le] at c_313
                exact So.one ⟨I_171, I_sMlists, I_sMlengths, (by show 0 ≤ (Mo_thrown sMo_5).toInt; omega), (by show (Mo_thrown sMo_5).toInt ≤ 2; omega), (by show (Mo_used sMo_5).toInt = (Mo_used sMo).toInt; omega), (by show (Mo_taped sMo_5).toInt = (Mo_taped sMo).toInt; omega)⟩
        · rw [i_eq] at c_257
          unfold Mod_append_j70
          refine So.ite (fun c_322 => ?_) (fun c_322 => ?_)
          · rw [i_le] at c_322
            have k_323 : (16 : Int32).toInt = 16 := by decide
            refine So.gd (i_in.mpr (by omega)) ?_
            have k_324 : ((24 * 16) : Int32).toInt = 384 := by decide
            have f_325 := A_Mlengths_at I_sMlengths ((16 : Int32).toNatClampNeg)
            have f_326 := i_natm (16 : Int32)
            first | have f_327 := i_add (a := ((24 * 16) : Int32)) (b := (sMlengths ((16 : Int32).toNatClampNeg))) (by omega) (by omega) | have f_327 := i_addm ((24 * 16) : Int32) (sMlengths ((16 : Int32).toNatClampNeg))
            refine So.gd (i_in.mpr (by omega)) ?_
            refine So.lt2 fun sMlists_14 e_328 => ?_
            have f_329 := i_natm ((24 * 16) + (sMlengths ((16 : Int32).toNatClampNeg)))
            have I_330 : A_Mlists sMlists_14 := by rw [e_328]; exact (A_Mlists_upd I_sMlists (by show (0 ≤ (a1 : Int32).toInt ∧ (a1 : Int32).toInt ≤ 63) ∨ (100 ≤ (a1 : Int32).toInt ∧ (a1 : Int32).toInt ≤ 115) ∨ (216 ≤ (a1 : Int32).toInt ∧ (a1 : Int32).toInt ≤ 343) ∨ (400 ≤ (a1 : Int32).toInt ∧ (a1 : Int32).toInt ≤ 487) ∨ (501 ≤ (a1 : Int32).toInt ∧ (a1 : Int32).toInt ≤ 516) ∨ (a1 : Int32).toInt = 520; omega))
            refine So.gd (i_in.mpr (by omega)) ?_
            refine So.gd (i_in.mpr (by omega)) ?_
            refine So.lt2 fun sMlengths_17 e_331 => ?_
            first | have f_332 := i_add (a := (sMlengths ((16 : Int32).toNatClampNeg))) (b := 1) (by omega) (by omega) | have f_332 := i_addm (sMlengths ((16 : Int32).toNatClampNeg)) 1
            have I_333 : A_Mlengths sMlengths_17 := by rw [e_331]; exact (A_Mlengths_upd I_sMlengths (by show 0 ≤ (((sMlengths ((16 : Int32).toNatClampNeg)) + 1) : Int32).toInt ∧ (((sMlengths ((16 : Int32).toNatClampNeg)) + 1) : Int32).toInt ≤ 24 ∧ (((16 : Int32).toNatClampNeg) < 16 → (((sMlengths ((16 : Int32).toNatClampNeg)) + 1) : Int32).toInt ≤ 8); omega))
            refine So.gd (i_in.mpr (by omega)) ?_
            exact So.one ⟨I_171, I_330, I_333, (by show 0 ≤ (Mo_thrown sMo_5).toInt; omega), (by show (Mo_thrown sMo_5).toInt ≤ 2; omega), (by show (Mo_used sMo_5).toInt = (Mo_used sMo).toInt; omega), (by show (Mo_taped sMo_5).toInt = (Mo_taped sMo).toInt; omega)⟩
          · rw [i_le] at c_322
            exact So.one ⟨I_171, I_sMlists, I_sMlengths, (by show 0 ≤ (Mo_thrown sMo_5).toInt; omega), (by show (Mo_thrown sMo_5).toInt ≤ 2; omega), (by show (Mo_used sMo_5).toInt = (Mo_used sMo).toInt; omega), (by show (Mo_taped sMo_5).toInt = (Mo_taped sMo).toInt; omega)⟩
    · rw [i_lt] at c_168
      have k_334 : (15 : Int32).toInt = 15 := by decide
      refine So.bd (t_Mod_isDescriptor ) fun q1 h_335 => ?_
      have p_336 := h_335
      refine So.ite (fun c_337 => ?_) (fun c_337 => ?_)
      · rw [i_eq] at c_337
        have k_338 : (0 : Int32).toInt = 0 := by decide
        unfold Mod_append_j19
        unfold Mod_append_j24
        refine So.lt2 fun sMo_5 e_339 => ?_
        have I_340 : I_Mo sMo_5 := by rw [e_339]; exact (I_Mo_set_thrown I_sMo)
        have k_341 : (1 : Int32).toInt = 1 := by decide
        have f_342 : (Mo_thrown sMo_5).toInt = (1 : Int32).toInt := by subst e_339; rfl
        have f_343 : (Mo_used sMo_5).toInt = (Mo_used sMo).toInt := by subst e_339; rfl
        have f_344 : (Mo_taped sMo_5).toInt = (Mo_taped sMo).toInt := by subst e_339; rfl
        refine So.ite (fun c_345 => ?_) (fun c_345 => ?_)
        · rw [i_le] at c_345
          unfold Mod_append_j37
          refine So.ite (fun c_346 => ?_) (fun c_346 => ?_)
          · rw [i_eq] at c_346
            refine So.gd (i_in.mpr (by omega)) ?_
            refine So.ite (fun c_347 => ?_) (fun c_347 => ?_)
            · rw [i_le] at c_347
              unfold Mod_append_j62
              refine So.ite (fun c_348 => ?_) (fun c_348 => ?_)
              · rw [i_eq] at c_348
                have f_349 := A_Mlengths_at I_sMlengths (a0.toNatClampNeg)
                have f_350 := i_natm a0
                have k_351 : (8 : Int32).toInt = 8 := by decide
                refine So.lt2 fun sMo_10 e_352 => ?_
                have I_353 : I_Mo sMo_10 := by rw [e_352]; exact (I_Mo_set_thrown I_340)
                have k_354 : (2 : Int32).toInt = 2 := by decide
                have f_355 : (Mo_thrown sMo_10).toInt = (2 : Int32).toInt := by subst e_352; rfl
                have f_356 : (Mo_used sMo_10).toInt = (Mo_used sMo_5).toInt := by subst e_352; rfl
                have f_357 : (Mo_taped sMo_10).toInt = (Mo_taped sMo_5).toInt := by subst e_352; rfl
                unfold Mod_append_j70
                refine So.ite (fun c_358 => ?_) (fun c_358 => ?_)
                · rw [i_le] at c_358
                  refine So.gd (i_in.mpr (by omega)) ?_
                  have k_359 : (24 : Int32).toInt = 24 := by decide
                  first | have f_360 := i_mull 24 a0 (24) (by decide) (by omega) (by omega) | have f_360 := i_mullm 24 a0 (24) (by decide)
                  first | have f_361 := i_add (a := (24 * a0)) (b := (sMlengths (a0.toNatClampNeg))) (by omega) (by omega) | have f_361 := i_addm (24 * a0) (sMlengths (a0.toNatClampNeg))
                  refine So.gd (i_in.mpr (by omega)) ?_
                  refine So.lt2 fun sMlists_14 e_362 => ?_
                  have f_363 := i_natm ((24 * a0) + (sMlengths (a0.toNatClampNeg)))
                  have I_364 : A_Mlists sMlists_14 := by rw [e_362]; exact (A_Mlists_upd I_sMlists (by show (0 ≤ (a1 : Int32).toInt ∧ (a1 : Int32).toInt ≤ 63) ∨ (100 ≤ (a1 : Int32).toInt ∧ (a1 : Int32).toInt ≤ 115) ∨ (216 ≤ (a1 : Int32).toInt ∧ (a1 : Int32).toInt ≤ 343) ∨ (400 ≤ (a1 : Int32).toInt ∧ (a1 : Int32).toInt ≤ 487) ∨ (501 ≤ (a1 : Int32).toInt ∧ (a1 : Int32).toInt ≤ 516) ∨ (a1 : Int32).toInt = 520; omega))
                  refine So.gd (i_in.mpr (by omega)) ?_
                  refine So.gd (i_in.mpr (by omega)) ?_
                  refine So.lt2 fun sMlengths_17 e_365 => ?_
                  first | have f_366 := i_add (a := (sMlengths (a0.toNatClampNeg))) (b := 1) (by omega) (by omega) | have f_366 := i_addm (sMlengths (a0.toNatClampNeg)) 1
                  have I_367 : A_Mlengths sMlengths_17 := by rw [e_365]; exact (A_Mlengths_upd I_sMlengths (by show 0 ≤ (((sMlengths (a0.toNatClampNeg)) + 1) : Int32).toInt ∧ (((sMlengths (a0.toNatClampNeg)) + 1) : Int32).toInt ≤ 24 ∧ ((a0.toNatClampNeg) < 16 → (((sMlengths (a0.toNatClampNeg)) + 1) : Int32).toInt ≤ 8); omega))
                  refine So.gd (i_in.mpr (by omega)) ?_
                  exact So.one ⟨I_353, I_364, I_367, (by show 0 ≤ (Mo_thrown sMo_10).toInt; omega), (by show (Mo_thrown sMo_10).toInt ≤ 2; omega), (by show (Mo_used sMo_10).toInt = (Mo_used sMo).toInt; omega), (by show (Mo_taped sMo_10).toInt = (Mo_taped sMo).toInt; omega)⟩
                · rw [i_le] at c_358
                  exact So.one ⟨I_353, I_sMlists, I_sMlengths, (by show 0 ≤ (Mo_thrown sMo_10).toInt; omega), (by show (Mo_thrown sMo_10).toInt ≤ 2; omega), (by show (Mo_used sMo_10).toInt = (Mo_used sMo).toInt; omega), (by show (Mo_taped sMo_10).toInt = (Mo_taped sMo).toInt; omega)⟩
              · rw [i_eq] at c_348
                have f_368 := A_Mlengths_at I_sMlengths (a0.toNatClampNeg)
                have f_369 := i_natm a0
                have k_370 : (8 : Int32).toInt = 8 := by decide
                unfold Mod_append_j70
                refine So.ite (fun c_371 => ?_) (fun c_371 => ?_)
                · rw [i_le] at c_371
                  refine So.gd (i_in.mpr (by omega)) ?_
                  have k_372 : (24 : Int32).toInt = 24 := by decide
                  first | have f_373 := i_mull 24 a0 (24) (by decide) (by omega) (by omega) | have f_373 := i_mullm 24 a0 (24) (by decide)
                  first | have f_374 := i_add (a := (24 * a0)) (b := (sMlengths (a0.toNatClampNeg))) (by omega) (by omega) | have f_374 := i_addm (24 * a0) (sMlengths (a0.toNatClampNeg))
                  refine So.gd (i_in.mpr (by omega)) ?_
                  refine So.lt2 fun sMlists_14 e_375 => ?_
                  have f_376 := i_natm ((24 * a0) + (sMlengths (a0.toNatClampNeg)))
                  have I_377 : A_Mlists sMlists_14 := by rw [e_375]; exact (A_Mlists_upd I_sMlists (by show (0 ≤ (a1 : Int32).toInt ∧ (a1 : Int32).toInt ≤ 63) ∨ (100 ≤ (a1 : Int32).toInt ∧ (a1 : Int32).toInt ≤ 115) ∨ (216 ≤ (a1 : Int32).toInt ∧ (a1 : Int32).toInt ≤ 343) ∨ (400 ≤ (a1 : Int32).toInt ∧ (a1 : Int32).toInt ≤ 487) ∨ (501 ≤ (a1 : Int32).toInt ∧ (a1 : Int32).toInt ≤ 516) ∨ (a1 : Int32).toInt = 520; omega))
                  refine So.gd (i_in.mpr (by omega)) ?_
                  refine So.gd (i_in.mpr (by omega)) ?_
                  refine So.lt2 fun sMlengths_17 e_378 => ?_
                  first | have f_379 := i_add (a := (sMlengths (a0.toNatClampNeg))) (b := 1) (by omega) (by omega) | have f_379 := i_addm (sMlengths (a0.toNatClampNeg)) 1
                  have I_380 : A_Mlengths sMlengths_17 := by rw [e_378]; exact (A_Mlengths_upd I_sMlengths (by show 0 ≤ (((sMlengths (a0.toNatClampNeg)) + 1) : Int32).toInt ∧ (((sMlengths (a0.toNatClampNeg)) + 1) : Int32).toInt ≤ 24 ∧ ((a0.toNatClampNeg) < 16 → (((sMlengths (a0.toNatClampNeg)) + 1) : Int32).toInt ≤ 8); omega))
                  refine So.gd (i_in.mpr (by omega)) ?_
                  exact So.one ⟨I_340, I_377, I_380, (by show 0 ≤ (Mo_thrown sMo_5).toInt; omega), (by show (Mo_thrown sMo_5).toInt ≤ 2; omega), (by show (Mo_used sMo_5).toInt = (Mo_used sMo).toInt; omega), (by show (Mo_taped sMo_5).toInt = (Mo_taped sMo).toInt; omega)⟩
                · rw [i_le] at c_371
                  exact So.one ⟨I_340, I_sMlists, I_sMlengths, (by show 0 ≤ (Mo_thrown sMo_5).toInt; omega), (by show (Mo_thrown sMo_5).toInt ≤ 2; omega), (by show (Mo_used sMo_5).toInt = (Mo_used sMo).toInt; omega), (by show (Mo_taped sMo_5).toInt = (Mo_taped sMo).toInt; omega)⟩
            · rw [i_le] at c_347
              unfold Mod_append_j62
              refine So.ite (fun c_381 => ?_) (fun c_381 => ?_)
              · rw [i_eq] at c_381
                have f_382 := A_Mlengths_at I_sMlengths (a0.toNatClampNeg)
                have f_383 := i_natm a0
                have k_384 : (24 : Int32).toInt = 24 := by decide
                refine So.lt2 fun sMo_10 e_385 => ?_
                have I_386 : I_Mo sMo_10 := by rw [e_385]; exact (I_Mo_set_thrown I_340)
                have k_387 : (2 : Int32).toInt = 2 := by decide
                have f_388 : (Mo_thrown sMo_10).toInt = (2 : Int32).toInt := by subst e_385; rfl
                have f_389 : (Mo_used sMo_10).toInt = (Mo_used sMo_5).toInt := by subst e_385; rfl
                have f_390 : (Mo_taped sMo_10).toInt = (Mo_taped sMo_5).toInt := by subst e_385; rfl
                unfold Mod_append_j70
                refine So.ite (fun c_391 => ?_) (fun c_391 => ?_)
                · rw [i_le] at c_391
                  refine So.gd (i_in.mpr (by omega)) ?_
                  first | have f_392 := i_mull 24 a0 (24) (by decide) (by omega) (by omega) | have f_392 := i_mullm 24 a0 (24) (by decide)
                  first | have f_393 := i_add (a := (24 * a0)) (b := (sMlengths (a0.toNatClampNeg))) (by omega) (by omega) | have f_393 := i_addm (24 * a0) (sMlengths (a0.toNatClampNeg))
                  refine So.gd (i_in.mpr (by omega)) ?_
                  refine So.lt2 fun sMlists_14 e_394 => ?_
                  have f_395 := i_natm ((24 * a0) + (sMlengths (a0.toNatClampNeg)))
                  have I_396 : A_Mlists sMlists_14 := by rw [e_394]; exact (A_Mlists_upd I_sMlists (by show (0 ≤ (a1 : Int32).toInt ∧ (a1 : Int32).toInt ≤ 63) ∨ (100 ≤ (a1 : Int32).toInt ∧ (a1 : Int32).toInt ≤ 115) ∨ (216 ≤ (a1 : Int32).toInt ∧ (a1 : Int32).toInt ≤ 343) ∨ (400 ≤ (a1 : Int32).toInt ∧ (a1 : Int32).toInt ≤ 487) ∨ (501 ≤ (a1 : Int32).toInt ∧ (a1 : Int32).toInt ≤ 516) ∨ (a1 : Int32).toInt = 520; omega))
                  refine So.gd (i_in.mpr (by omega)) ?_
                  refine So.gd (i_in.mpr (by omega)) ?_
                  refine So.lt2 fun sMlengths_17 e_397 => ?_
                  first | have f_398 := i_add (a := (sMlengths (a0.toNatClampNeg))) (b := 1) (by omega) (by omega) | have f_398 := i_addm (sMlengths (a0.toNatClampNeg)) 1
                  have I_399 : A_Mlengths sMlengths_17 := by rw [e_397]; exact (A_Mlengths_upd I_sMlengths (by show 0 ≤ (((sMlengths (a0.toNatClampNeg)) + 1) : Int32).toInt ∧ (((sMlengths (a0.toNatClampNeg)) + 1) : Int32).toInt ≤ 24 ∧ ((a0.toNatClampNeg) < 16 → (((sMlengths (a0.toNatClampNeg)) + 1) : Int32).toInt ≤ 8); omega))
                  refine So.gd (i_in.mpr (by omega)) ?_
                  exact So.one ⟨I_386, I_396, I_399, (by show 0 ≤ (Mo_thrown sMo_10).toInt; omega), (by show (Mo_thrown sMo_10).toInt ≤ 2; omega), (by show (Mo_used sMo_10).toInt = (Mo_used sMo).toInt; omega), (by show (Mo_taped sMo_10).toInt = (Mo_taped sMo).toInt; omega)⟩
                · rw [i_le] at c_391
                  exact So.one ⟨I_386, I_sMlists, I_sMlengths, (by show 0 ≤ (Mo_thrown sMo_10).toInt; omega), (by show (Mo_thrown sMo_10).toInt ≤ 2; omega), (by show (Mo_used sMo_10).toInt = (Mo_used sMo).toInt; omega), (by show (Mo_taped sMo_10).toInt = (Mo_taped sMo).toInt; omega)⟩
              · rw [i_eq] at c_381
                have f_400 := A_Mlengths_at I_sMlengths (a0.toNatClampNeg)
                have f_401 := i_natm a0
                have k_402 : (24 : Int32).toInt = 24 := by decide
                unfold Mod_append_j70
                refine So.ite (fun c_403 => ?_) (fun c_403 => ?_)
                · rw [i_le] at c_403
                  refine So.gd (i_in.mpr (by omega)) ?_
                  first | have f_404 := i_mull 24 a0 (24) (by decide) (by omega) (by omega) | have f_404 := i_mullm 24 a0 (24) (by decide)
                  first | have f_405 := i_add (a := (24 * a0)) (b := (sMlengths (a0.toNatClampNeg))) (by omega) (by omega) | have f_405 := i_addm (24 * a0) (sMlengths (a0.toNatClampNeg))
                  refine So.gd (i_in.mpr (by omega)) ?_
                  refine So.lt2 fun sMlists_14 e_406 => ?_
                  have f_407 := i_natm ((24 * a0) + (sMlengths (a0.toNatClampNeg)))
                  have I_408 : A_Mlists sMlists_14 := by rw [e_406]; exact (A_Mlists_upd I_sMlists (by show (0 ≤ (a1 : Int32).toInt ∧ (a1 : Int32).toInt ≤ 63) ∨ (100 ≤ (a1 : Int32).toInt ∧ (a1 : Int32).toInt ≤ 115) ∨ (216 ≤ (a1 : Int32).toInt ∧ (a1 : Int32).toInt ≤ 343) ∨ (400 ≤ (a1 : Int32).toInt ∧ (a1 : Int32).toInt ≤ 487) ∨ (501 ≤ (a1 : Int32).toInt ∧ (a1 : Int32).toInt ≤ 516) ∨ (a1 : Int32).toInt = 520; omega))
                  refine So.gd (i_in.mpr (by omega)) ?_
                  refine So.gd (i_in.mpr (by omega)) ?_
                  refine So.lt2 fun sMlengths_17 e_409 => ?_
                  first | have f_410 := i_add (a := (sMlengths (a0.toNatClampNeg))) (b := 1) (by omega) (by omega) | have f_410 := i_addm (sMlengths (a0.toNatClampNeg)) 1
                  have I_411 : A_Mlengths sMlengths_17 := by rw [e_409]; exact (A_Mlengths_upd I_sMlengths (by show 0 ≤ (((sMlengths (a0.toNatClampNeg)) + 1) : Int32).toInt ∧ (((sMlengths (a0.toNatClampNeg)) + 1) : Int32).toInt ≤ 24 ∧ ((a0.toNatClampNeg) < 16 → (((sMlengths (a0.toNatClampNeg)) + 1) : Int32).toInt ≤ 8); omega))
                  refine So.gd (i_in.mpr (by omega)) ?_
                  exact So.one ⟨I_340, I_408, I_411, (by show 0 ≤ (Mo_thrown sMo_5).toInt; omega), (by show (Mo_thrown sMo_5).toInt ≤ 2; omega), (by show (Mo_used sMo_5).toInt = (Mo_used sMo).toInt; omega), (by show (Mo_taped sMo_5).toInt = (Mo_taped sMo).toInt; omega)⟩
                · rw [i_le] at c_403
                  exact So.one ⟨I_340, I_sMlists, I_sMlengths, (by show 0 ≤ (Mo_thrown sMo_5).toInt; omega), (by show (Mo_thrown sMo_5).toInt ≤ 2; omega), (by show (Mo_used sMo_5).toInt = (Mo_used sMo).toInt; omega), (by show (Mo_taped sMo_5).toInt = (Mo_taped sMo).toInt; omega)⟩
          · rw [i_eq] at c_346
            unfold Mod_append_j70
            refine So.ite (fun c_412 => ?_) (fun c_412 => ?_)
            · rw [i_le] at c_412
              refine So.gd (i_in.mpr (by omega)) ?_
              have k_413 : (24 : Int32).toInt = 24 := by decide
              first | have f_414 := i_mull 24 a0 (24) (by decide) (by omega) (by omega) | have f_414 := i_mullm 24 a0 (24) (by decide)
              have f_415 := A_Mlengths_at I_sMlengths (a0.toNatClampNeg)
              have f_416 := i_natm a0
              first | have f_417 := i_add (a := (24 * a0)) (b := (sMlengths (a0.toNatClampNeg))) (by omega) (by omega) | have f_417 := i_addm (24 * a0) (sMlengths (a0.toNatClampNeg))
              refine So.gd (i_in.mpr (by omega)) ?_
              refine So.lt2 fun sMlists_14 e_418 => ?_
              have f_419 := i_natm ((24 * a0) + (sMlengths (a0.toNatClampNeg)))
              have I_420 : A_Mlists sMlists_14 := by rw [e_418]; exact (A_Mlists_upd I_sMlists (by show (0 ≤ (a1 : Int32).toInt ∧ (a1 : Int32).toInt ≤ 63) ∨ (100 ≤ (a1 : Int32).toInt ∧ (a1 : Int32).toInt ≤ 115) ∨ (216 ≤ (a1 : Int32).toInt ∧ (a1 : Int32).toInt ≤ 343) ∨ (400 ≤ (a1 : Int32).toInt ∧ (a1 : Int32).toInt ≤ 487) ∨ (501 ≤ (a1 : Int32).toInt ∧ (a1 : Int32).toInt ≤ 516) ∨ (a1 : Int32).toInt = 520; omega))
              refine So.gd (i_in.mpr (by omega)) ?_
              refine So.gd (i_in.mpr (by omega)) ?_
              refine So.lt2 fun sMlengths_17 e_421 => ?_
              first | have f_422 := i_add (a := (sMlengths (a0.toNatClampNeg))) (b := 1) (by omega) (by omega) | have f_422 := i_addm (sMlengths (a0.toNatClampNeg)) 1
              have I_423 : A_Mlengths sMlengths_17 := by rw [e_421]; exact (A_Mlengths_upd I_sMlengths (by show 0 ≤ (((sMlengths (a0.toNatClampNeg)) + 1) : Int32).toInt ∧ (((sMlengths (a0.toNatClampNeg)) + 1) : Int32).toInt ≤ 24 ∧ ((a0.toNatClampNeg) < 16 → (((sMlengths (a0.toNatClampNeg)) + 1) : Int32).toInt ≤ 8); omega))
              refine So.gd (i_in.mpr (by omega)) ?_
              exact So.one ⟨I_340, I_420, I_423, (by show 0 ≤ (Mo_thrown sMo_5).toInt; omega), (by show (Mo_thrown sMo_5).toInt ≤ 2; omega), (by show (Mo_used sMo_5).toInt = (Mo_used sMo).toInt; omega), (by show (Mo_taped sMo_5).toInt = (Mo_taped sMo).toInt; omega)⟩
            · rw [i_le] at c_412
              exact So.one ⟨I_340, I_sMlists, I_sMlengths, (by show 0 ≤ (Mo_thrown sMo_5).toInt; omega), (by show (Mo_thrown sMo_5).toInt ≤ 2; omega), (by show (Mo_used sMo_5).toInt = (Mo_used sMo).toInt; omega), (by show (Mo_taped sMo_5).toInt = (Mo_taped sMo).toInt; omega)⟩
        · rw [i_le] at c_345
          unfold Mod_append_j37
          refine So.ite (fun c_424 => ?_) (fun c_424 => ?_)
          · rw [i_eq] at c_424
            have k_425 : (16 : Int32).toInt = 16 := by decide
            refine So.gd (i_in.mpr (by omega)) ?_
            refine So.ite (fun c_426 => ?_) (fun c_426 => ?_)
            · rw [i_le] at c_426
              unfold Mod_append_j62
              refine So.ite (fun c_427 => ?_) (fun c_427 => ?_)
              · rw [i_eq] at c_427
                have f_428 := A_Mlengths_at I_sMlengths ((16 : Int32).toNatClampNeg)
                have f_429 := i_natm (16 : Int32)
                have k_430 : (8 : Int32).toInt = 8 := by decide
                refine So.lt2 fun sMo_10 e_431 => ?_
                have I_432 : I_Mo sMo_10 := by rw [e_431]; exact (I_Mo_set_thrown I_340)
                have k_433 : (2 : Int32).toInt = 2 := by decide
                have f_434 : (Mo_thrown sMo_10).toInt = (2 : Int32).toInt := by subst e_431; rfl
                have f_435 : (Mo_used sMo_10).toInt = (Mo_used sMo_5).toInt := by subst e_431; rfl
                have f_436 : (Mo_taped sMo_10).toInt = (Mo_taped sMo_5).toInt := by subst e_431; rfl
                unfold Mod_append_j70
                refine So.ite (fun c_437 => ?_) (fun c_437 => ?_)
                · rw [i_le] at c_437
                  refine So.gd (i_in.mpr (by omega)) ?_
                  have k_438 : ((24 * 16) : Int32).toInt = 384 := by decide
                  first | have f_439 := i_add (a := ((24 * 16) : Int32)) (b := (sMlengths ((16 : Int32).toNatClampNeg))) (by omega) (by omega) | have f_439 := i_addm ((24 * 16) : Int32) (sMlengths ((16 : Int32).toNatClampNeg))
                  refine So.gd (i_in.mpr (by omega)) ?_
                  refine So.lt2 fun sMlists_14 e_440 => ?_
                  have f_441 := i_natm ((24 * 16) + (sMlengths ((16 : Int32).toNatClampNeg)))
                  have I_442 : A_Mlists sMlists_14 := by rw [e_440]; exact (A_Mlists_upd I_sMlists (by show (0 ≤ (a1 : Int32).toInt ∧ (a1 : Int32).toInt ≤ 63) ∨ (100 ≤ (a1 : Int32).toInt ∧ (a1 : Int32).toInt ≤ 115) ∨ (216 ≤ (a1 : Int32).toInt ∧ (a1 : Int32).toInt ≤ 343) ∨ (400 ≤ (a1 : Int32).toInt ∧ (a1 : Int32).toInt ≤ 487) ∨ (501 ≤ (a1 : Int32).toInt ∧ (a1 : Int32).toInt ≤ 516) ∨ (a1 : Int32).toInt = 520; omega))
                  refine So.gd (i_in.mpr (by omega)) ?_
                  refine So.gd (i_in.mpr (by omega)) ?_
                  refine So.lt2 fun sMlengths_17 e_443 => ?_
                  first | have f_444 := i_add (a := (sMlengths ((16 : Int32).toNatClampNeg))) (b := 1) (by omega) (by omega) | have f_444 := i_addm (sMlengths ((16 : Int32).toNatClampNeg)) 1
                  have I_445 : A_Mlengths sMlengths_17 := by rw [e_443]; exact (A_Mlengths_upd I_sMlengths (by show 0 ≤ (((sMlengths ((16 : Int32).toNatClampNeg)) + 1) : Int32).toInt ∧ (((sMlengths ((16 : Int32).toNatClampNeg)) + 1) : Int32).toInt ≤ 24 ∧ (((16 : Int32).toNatClampNeg) < 16 → (((sMlengths ((16 : Int32).toNatClampNeg)) + 1) : Int32).toInt ≤ 8); omega))
                  refine So.gd (i_in.mpr (by omega)) ?_
                  exact So.one ⟨I_432, I_442, I_445, (by show 0 ≤ (Mo_thrown sMo_10).toInt; omega), (by show (Mo_thrown sMo_10).toInt ≤ 2; omega), (by show (Mo_used sMo_10).toInt = (Mo_used sMo).toInt; omega), (by show (Mo_taped sMo_10).toInt = (Mo_taped sMo).toInt; omega)⟩
                · rw [i_le] at c_437
                  exact So.one ⟨I_432, I_sMlists, I_sMlengths, (by show 0 ≤ (Mo_thrown sMo_10).toInt; omega), (by show (Mo_thrown sMo_10).toInt ≤ 2; omega), (by show (Mo_used sMo_10).toInt = (Mo_used sMo).toInt; omega), (by show (Mo_taped sMo_10).toInt = (Mo_taped sMo).toInt; omega)⟩
              · rw [i_eq] at c_427
                have f_446 := A_Mlengths_at I_sMlengths ((16 : Int32).toNatClampNeg)
                have f_447 := i_natm (16 : Int32)
                have k_448 : (8 : Int32).toInt = 8 := by decide
                unfold Mod_append_j70
                refine So.ite (fun c_449 => ?_) (fun c_449 => ?_)
                · rw [i_le] at c_449
                  refine So.gd (i_in.mpr (by omega)) ?_
                  have k_450 : ((24 * 16) : Int32).toInt = 384 := by decide
                  first | have f_451 := i_add (a := ((24 * 16) : Int32)) (b := (sMlengths ((16 : Int32).toNatClampNeg))) (by omega) (by omega) | have f_451 := i_addm ((24 * 16) : Int32) (sMlengths ((16 : Int32).toNatClampNeg))
                  refine So.gd (i_in.mpr (by omega)) ?_
                  refine So.lt2 fun sMlists_14 e_452 => ?_
                  have f_453 := i_natm ((24 * 16) + (sMlengths ((16 : Int32).toNatClampNeg)))
                  have I_454 : A_Mlists sMlists_14 := by rw [e_452]; exact (A_Mlists_upd I_sMlists (by show (0 ≤ (a1 : Int32).toInt ∧ (a1 : Int32).toInt ≤ 63) ∨ (100 ≤ (a1 : Int32).toInt ∧ (a1 : Int32).toInt ≤ 115) ∨ (216 ≤ (a1 : Int32).toInt ∧ (a1 : Int32).toInt ≤ 343) ∨ (400 ≤ (a1 : Int32).toInt ∧ (a1 : Int32).toInt ≤ 487) ∨ (501 ≤ (a1 : Int32).toInt ∧ (a1 : Int32).toInt ≤ 516) ∨ (a1 : Int32).toInt = 520; omega))
                  refine So.gd (i_in.mpr (by omega)) ?_
                  refine So.gd (i_in.mpr (by omega)) ?_
                  refine So.lt2 fun sMlengths_17 e_455 => ?_
                  first | have f_456 := i_add (a := (sMlengths ((16 : Int32).toNatClampNeg))) (b := 1) (by omega) (by omega) | have f_456 := i_addm (sMlengths ((16 : Int32).toNatClampNeg)) 1
                  have I_457 : A_Mlengths sMlengths_17 := by rw [e_455]; exact (A_Mlengths_upd I_sMlengths (by show 0 ≤ (((sMlengths ((16 : Int32).toNatClampNeg)) + 1) : Int32).toInt ∧ (((sMlengths ((16 : Int32).toNatClampNeg)) + 1) : Int32).toInt ≤ 24 ∧ (((16 : Int32).toNatClampNeg) < 16 → (((sMlengths ((16 : Int32).toNatClampNeg)) + 1) : Int32).toInt ≤ 8); omega))
                  refine So.gd (i_in.mpr (by omega)) ?_
                  exact So.one ⟨I_340, I_454, I_457, (by show 0 ≤ (Mo_thrown sMo_5).toInt; omega), (by show (Mo_thrown sMo_5).toInt ≤ 2; omega), (by show (Mo_used sMo_5).toInt = (Mo_used sMo).toInt; omega), (by show (Mo_taped sMo_5).toInt = (Mo_taped sMo).toInt; omega)⟩
                · rw [i_le] at c_449
                  exact So.one ⟨I_340, I_sMlists, I_sMlengths, (by show 0 ≤ (Mo_thrown sMo_5).toInt; omega), (by show (Mo_thrown sMo_5).toInt ≤ 2; omega), (by show (Mo_used sMo_5).toInt = (Mo_used sMo).toInt; omega), (by show (Mo_taped sMo_5).toInt = (Mo_taped sMo).toInt; omega)⟩
            · rw [i_le] at c_426
              unfold Mod_append_j62
              refine So.ite (fun c_458 => ?_) (fun c_458 => ?_)
              · rw [i_eq] at c_458
                have f_459 := A_Mlengths_at I_sMlengths ((16 : Int32).toNatClampNeg)
                have f_460 := i_natm (16 : Int32)
                have k_461 : (24 : Int32).toInt = 24 := by decide
                refine So.lt2 fun sMo_10 e_462 => ?_
                have I_463 : I_Mo sMo_10 := by rw [e_462]; exact (I_Mo_set_thrown I_340)
                have k_464 : (2 : Int32).toInt = 2 := by decide
                have f_465 : (Mo_thrown sMo_10).toInt = (2 : Int32).toInt := by subst e_462; rfl
                have f_466 : (Mo_used sMo_10).toInt = (Mo_used sMo_5).toInt := by subst e_462; rfl
                have f_467 : (Mo_taped sMo_10).toInt = (Mo_taped sMo_5).toInt := by subst e_462; rfl
                unfold Mod_append_j70
                refine So.ite (fun c_468 => ?_) (fun c_468 => ?_)
                · rw [i_le] at c_468
                  refine So.gd (i_in.mpr (by omega)) ?_
                  have k_469 : ((24 * 16) : Int32).toInt = 384 := by decide
                  first | have f_470 := i_add (a := ((24 * 16) : Int32)) (b := (sMlengths ((16 : Int32).toNatClampNeg))) (by omega) (by omega) | have f_470 := i_addm ((24 * 16) : Int32) (sMlengths ((16 : Int32).toNatClampNeg))
                  refine So.gd (i_in.mpr (by omega)) ?_
                  refine So.lt2 fun sMlists_14 e_471 => ?_
                  have f_472 := i_natm ((24 * 16) + (sMlengths ((16 : Int32).toNatClampNeg)))
                  have I_473 : A_Mlists sMlists_14 := by rw [e_471]; exact (A_Mlists_upd I_sMlists (by show (0 ≤ (a1 : Int32).toInt ∧ (a1 : Int32).toInt ≤ 63) ∨ (100 ≤ (a1 : Int32).toInt ∧ (a1 : Int32).toInt ≤ 115) ∨ (216 ≤ (a1 : Int32).toInt ∧ (a1 : Int32).toInt ≤ 343) ∨ (400 ≤ (a1 : Int32).toInt ∧ (a1 : Int32).toInt ≤ 487) ∨ (501 ≤ (a1 : Int32).toInt ∧ (a1 : Int32).toInt ≤ 516) ∨ (a1 : Int32).toInt = 520; omega))
                  refine So.gd (i_in.mpr (by omega)) ?_
                  refine So.gd (i_in.mpr (by omega)) ?_
                  refine So.lt2 fun sMlengths_17 e_474 => ?_
                  first | have f_475 := i_add (a := (sMlengths ((16 : Int32).toNatClampNeg))) (b := 1) (by omega) (by omega) | have f_475 := i_addm (sMlengths ((16 : Int32).toNatClampNeg)) 1
                  have I_476 : A_Mlengths sMlengths_17 := by rw [e_474]; exact (A_Mlengths_upd I_sMlengths (by show 0 ≤ (((sMlengths ((16 : Int32).toNatClampNeg)) + 1) : Int32).toInt ∧ (((sMlengths ((16 : Int32).toNatClampNeg)) + 1) : Int32).toInt ≤ 24 ∧ (((16 : Int32).toNatClampNeg) < 16 → (((sMlengths ((16 : Int32).toNatClampNeg)) + 1) : Int32).toInt ≤ 8); omega))
                  refine So.gd (i_in.mpr (by omega)) ?_
                  exact So.one ⟨I_463, I_473, I_476, (by show 0 ≤ (Mo_thrown sMo_10).toInt; omega), (by show (Mo_thrown sMo_10).toInt ≤ 2; omega), (by show (Mo_used sMo_10).toInt = (Mo_used sMo).toInt; omega), (by show (Mo_taped sMo_10).toInt = (Mo_taped sMo).toInt; omega)⟩
                · rw [i_le] at c_468
                  exact So.one ⟨I_463, I_sMlists, I_sMlengths, (by show 0 ≤ (Mo_thrown sMo_10).toInt; omega), (by show (Mo_thrown sMo_10).toInt ≤ 2; omega), (by show (Mo_used sMo_10).toInt = (Mo_used sMo).toInt; omega), (by show (Mo_taped sMo_10).toInt = (Mo_taped sMo).toInt; omega)⟩
              · rw [i_eq] at c_458
                have f_477 := A_Mlengths_at I_sMlengths ((16 : Int32).toNatClampNeg)
                have f_478 := i_natm (16 : Int32)
                have k_479 : (24 : Int32).toInt = 24 := by decide
                unfold Mod_append_j70
                refine So.ite (fun c_480 => ?_) (fun c_480 => ?_)
                · rw [i_le] at c_480
                  refine So.gd (i_in.mpr (by omega)) ?_
                  have k_481 : ((24 * 16) : Int32).toInt = 384 := by decide
                  first | have f_482 := i_add (a := ((24 * 16) : Int32)) (b := (sMlengths ((16 : Int32).toNatClampNeg))) (by omega) (by omega) | have f_482 := i_addm ((24 * 16) : Int32) (sMlengths ((16 : Int32).toNatClampNeg))
                  refine So.gd (i_in.mpr (by omega)) ?_
                  refine So.lt2 fun sMlists_14 e_483 => ?_
                  have f_484 := i_natm ((24 * 16) + (sMlengths ((16 : Int32).toNatClampNeg)))
                  have I_485 : A_Mlists sMlists_14 := by rw [e_483]; exact (A_Mlists_upd I_sMlists (by show (0 ≤ (a1 : Int32).toInt ∧ (a1 : Int32).toInt ≤ 63) ∨ (100 ≤ (a1 : Int32).toInt ∧ (a1 : Int32).toInt ≤ 115) ∨ (216 ≤ (a1 : Int32).toInt ∧ (a1 : Int32).toInt ≤ 343) ∨ (400 ≤ (a1 : Int32).toInt ∧ (a1 : Int32).toInt ≤ 487) ∨ (501 ≤ (a1 : Int32).toInt ∧ (a1 : Int32).toInt ≤ 516) ∨ (a1 : Int32).toInt = 520; omega))
                  refine So.gd (i_in.mpr (by omega)) ?_
                  refine So.gd (i_in.mpr (by omega)) ?_
                  refine So.lt2 fun sMlengths_17 e_486 => ?_
                  first | have f_487 := i_add (a := (sMlengths ((16 : Int32).toNatClampNeg))) (b := 1) (by omega) (by omega) | have f_487 := i_addm (sMlengths ((16 : Int32).toNatClampNeg)) 1
                  have I_488 : A_Mlengths sMlengths_17 := by rw [e_486]; exact (A_Mlengths_upd I_sMlengths (by show 0 ≤ (((sMlengths ((16 : Int32).toNatClampNeg)) + 1) : Int32).toInt ∧ (((sMlengths ((16 : Int32).toNatClampNeg)) + 1) : Int32).toInt ≤ 24 ∧ (((16 : Int32).toNatClampNeg) < 16 → (((sMlengths ((16 : Int32).toNatClampNeg)) + 1) : Int32).toInt ≤ 8); omega))
                  refine So.gd (i_in.mpr (by omega)) ?_
                  exact So.one ⟨I_340, I_485, I_488, (by show 0 ≤ (Mo_thrown sMo_5).toInt; omega), (by show (Mo_thrown sMo_5).toInt ≤ 2; omega), (by show (Mo_used sMo_5).toInt = (Mo_used sMo).toInt; omega), (by show (Mo_taped sMo_5).toInt = (Mo_taped sMo).toInt; omega)⟩
                · rw [i_le] at c_480
                  exact So.one ⟨I_340, I_sMlists, I_sMlengths, (by show 0 ≤ (Mo_thrown sMo_5).toInt; omega), (by show (Mo_thrown sMo_5).toInt ≤ 2; omega), (by show (Mo_used sMo_5).toInt = (Mo_used sMo).toInt; omega), (by show (Mo_taped sMo_5).toInt = (Mo_taped sMo).toInt; omega)⟩
          · rw [i_eq] at c_424
            unfold Mod_append_j70
            refine So.ite (fun c_489 => ?_) (fun c_489 => ?_)
            · rw [i_le] at c_489
              have k_490 : (16 : Int32).toInt = 16 := by decide
              refine So.gd (i_in.mpr (by omega)) ?_
              have k_491 : ((24 * 16) : Int32).toInt = 384 := by decide
              have f_492 := A_Mlengths_at I_sMlengths ((16 : Int32).toNatClampNeg)
              have f_493 := i_natm (16 : Int32)
              first | have f_494 := i_add (a := ((24 * 16) : Int32)) (b := (sMlengths ((16 : Int32).toNatClampNeg))) (by omega) (by omega) | have f_494 := i_addm ((24 * 16) : Int32) (sMlengths ((16 : Int32).toNatClampNeg))
              refine So.gd (i_in.mpr (by omega)) ?_
              refine So.lt2 fun sMlists_14 e_495 => ?_
              have f_496 := i_natm ((24 * 16) + (sMlengths ((16 : Int32).toNatClampNeg)))
              have I_497 : A_Mlists sMlists_14 := by rw [e_495]; exact (A_Mlists_upd I_sMlists (by show (0 ≤ (a1 : Int32).toInt ∧ (a1 : Int32).toInt ≤ 63) ∨ (100 ≤ (a1 : Int32).toInt ∧ (a1 : Int32).toInt ≤ 115) ∨ (216 ≤ (a1 : Int32).toInt ∧ (a1 : Int32).toInt ≤ 343) ∨ (400 ≤ (a1 : Int32).toInt ∧ (a1 : Int32).toInt ≤ 487) ∨ (501 ≤ (a1 : Int32).toInt ∧ (a1 : Int32).toInt ≤ 516) ∨ (a1 : Int32).toInt = 520; omega))
              refine So.gd (i_in.mpr (by omega)) ?_
              refine So.gd (i_in.mpr (by omega)) ?_
              refine So.lt2 fun sMlengths_17 e_498 => ?_
              first | have f_499 := i_add (a := (sMlengths ((16 : Int32).toNatClampNeg))) (b := 1) (by omega) (by omega) | have f_499 := i_addm (sMlengths ((16 : Int32).toNatClampNeg)) 1
              have I_500 : A_Mlengths sMlengths_17 := by rw [e_498]; exact (A_Mlengths_upd I_sMlengths (by show 0 ≤ (((sMlengths ((16 : Int32).toNatClampNeg)) + 1) : Int32).toInt ∧ (((sMlengths ((16 : Int32).toNatClampNeg)) + 1) : Int32).toInt ≤ 24 ∧ (((16 : Int32).toNatClampNeg) < 16 → (((sMlengths ((16 : Int32).toNatClampNeg)) + 1) : Int32).toInt ≤ 8); omega))
              refine So.gd (i_in.mpr (by omega)) ?_
              exact So.one ⟨I_340, I_497, I_500, (by show 0 ≤ (Mo_thrown sMo_5).toInt; omega), (by show (Mo_thrown sMo_5).toInt ≤ 2; omega), (by show (Mo_used sMo_5).toInt = (Mo_used sMo).toInt; omega), (by show (Mo_taped sMo_5).toInt = (Mo_taped sMo).toInt; omega)⟩
            · rw [i_le] at c_489
              exact So.one ⟨I_340, I_sMlists, I_sMlengths, (by show 0 ≤ (Mo_thrown sMo_5).toInt; omega), (by show (Mo_thrown sMo_5).toInt ≤ 2; omega), (by show (Mo_used sMo_5).toInt = (Mo_used sMo).toInt; omega), (by show (Mo_taped sMo_5).toInt = (Mo_taped sMo).toInt; omega)⟩
      · rw [i_eq] at c_337
        have k_501 : (0 : Int32).toInt = 0 := by decide
        unfold Mod_append_j24
        refine So.lt2 fun sMo_5 e_502 => ?_
        have I_503 : I_Mo sMo_5 := by rw [e_502]; exact (I_Mo_set_thrown I_sMo)
        have f_504 : (Mo_thrown sMo_5).toInt = (0 : Int32).toInt := by subst e_502; rfl
        have f_505 : (Mo_used sMo_5).toInt = (Mo_used sMo).toInt := by subst e_502; rfl
        have f_506 : (Mo_taped sMo_5).toInt = (Mo_taped sMo).toInt := by subst e_502; rfl
        refine So.ite (fun c_507 => ?_) (fun c_507 => ?_)
        · rw [i_le] at c_507
          unfold Mod_append_j37
          refine So.ite (fun c_508 => ?_) (fun c_508 => ?_)
          · rw [i_eq] at c_508
            refine So.gd (i_in.mpr (by omega)) ?_
            refine So.ite (fun c_509 => ?_) (fun c_509 => ?_)
            · rw [i_le] at c_509
              unfold Mod_append_j62
              refine So.ite (fun c_510 => ?_) (fun c_510 => ?_)
              · rw [i_eq] at c_510
                have f_511 := A_Mlengths_at I_sMlengths (a0.toNatClampNeg)
                have f_512 := i_natm a0
                have k_513 : (8 : Int32).toInt = 8 := by decide
                refine So.lt2 fun sMo_10 e_514 => ?_
                have I_515 : I_Mo sMo_10 := by rw [e_514]; exact (I_Mo_set_thrown I_503)
                have k_516 : (2 : Int32).toInt = 2 := by decide
                have f_517 : (Mo_thrown sMo_10).toInt = (2 : Int32).toInt := by subst e_514; rfl
                have f_518 : (Mo_used sMo_10).toInt = (Mo_used sMo_5).toInt := by subst e_514; rfl
                have f_519 : (Mo_taped sMo_10).toInt = (Mo_taped sMo_5).toInt := by subst e_514; rfl
                unfold Mod_append_j70
                refine So.ite (fun c_520 => ?_) (fun c_520 => ?_)
                · rw [i_le] at c_520
                  refine So.gd (i_in.mpr (by omega)) ?_
                  have k_521 : (24 : Int32).toInt = 24 := by decide
                  first | have f_522 := i_mull 24 a0 (24) (by decide) (by omega) (by omega) | have f_522 := i_mullm 24 a0 (24) (by decide)
                  first | have f_523 := i_add (a := (24 * a0)) (b := (sMlengths (a0.toNatClampNeg))) (by omega) (by omega) | have f_523 := i_addm (24 * a0) (sMlengths (a0.toNatClampNeg))
                  refine So.gd (i_in.mpr (by omega)) ?_
                  refine So.lt2 fun sMlists_14 e_524 => ?_
                  have f_525 := i_natm ((24 * a0) + (sMlengths (a0.toNatClampNeg)))
                  have I_526 : A_Mlists sMlists_14 := by rw [e_524]; exact (A_Mlists_upd I_sMlists (by show (0 ≤ (a1 : Int32).toInt ∧ (a1 : Int32).toInt ≤ 63) ∨ (100 ≤ (a1 : Int32).toInt ∧ (a1 : Int32).toInt ≤ 115) ∨ (216 ≤ (a1 : Int32).toInt ∧ (a1 : Int32).toInt ≤ 343) ∨ (400 ≤ (a1 : Int32).toInt ∧ (a1 : Int32).toInt ≤ 487) ∨ (501 ≤ (a1 : Int32).toInt ∧ (a1 : Int32).toInt ≤ 516) ∨ (a1 : Int32).toInt = 520; omega))
                  refine So.gd (i_in.mpr (by omega)) ?_
                  refine So.gd (i_in.mpr (by omega)) ?_
                  refine So.lt2 fun sMlengths_17 e_527 => ?_
                  have k_528 : (1 : Int32).toInt = 1 := by decide
                  first | have f_529 := i_add (a := (sMlengths (a0.toNatClampNeg))) (b := 1) (by omega) (by omega) | have f_529 := i_addm (sMlengths (a0.toNatClampNeg)) 1
                  have I_530 : A_Mlengths sMlengths_17 := by rw [e_527]; exact (A_Mlengths_upd I_sMlengths (by show 0 ≤ (((sMlengths (a0.toNatClampNeg)) + 1) : Int32).toInt ∧ (((sMlengths (a0.toNatClampNeg)) + 1) : Int32).toInt ≤ 24 ∧ ((a0.toNatClampNeg) < 16 → (((sMlengths (a0.toNatClampNeg)) + 1) : Int32).toInt ≤ 8); omega))
                  refine So.gd (i_in.mpr (by omega)) ?_
                  exact So.one ⟨I_515, I_526, I_530, (by show 0 ≤ (Mo_thrown sMo_10).toInt; omega), (by show (Mo_thrown sMo_10).toInt ≤ 2; omega), (by show (Mo_used sMo_10).toInt = (Mo_used sMo).toInt; omega), (by show (Mo_taped sMo_10).toInt = (Mo_taped sMo).toInt; omega)⟩
                · rw [i_le] at c_520
                  exact So.one ⟨I_515, I_sMlists, I_sMlengths, (by show 0 ≤ (Mo_thrown sMo_10).toInt; omega), (by show (Mo_thrown sMo_10).toInt ≤ 2; omega), (by show (Mo_used sMo_10).toInt = (Mo_used sMo).toInt; omega), (by show (Mo_taped sMo_10).toInt = (Mo_taped sMo).toInt; omega)⟩
              · rw [i_eq] at c_510
                have f_531 := A_Mlengths_at I_sMlengths (a0.toNatClampNeg)
                have f_532 := i_natm a0
                have k_533 : (8 : Int32).toInt = 8 := by decide
                unfold Mod_append_j70
                refine So.ite (fun c_534 => ?_) (fun c_534 => ?_)
                · rw [i_le] at c_534
                  refine So.gd (i_in.mpr (by omega)) ?_
                  have k_535 : (24 : Int32).toInt = 24 := by decide
                  first | have f_536 := i_mull 24 a0 (24) (by decide) (by omega) (by omega) | have f_536 := i_mullm 24 a0 (24) (by decide)
                  first | have f_537 := i_add (a := (24 * a0)) (b := (sMlengths (a0.toNatClampNeg))) (by omega) (by omega) | have f_537 := i_addm (24 * a0) (sMlengths (a0.toNatClampNeg))
                  refine So.gd (i_in.mpr (by omega)) ?_
                  refine So.lt2 fun sMlists_14 e_538 => ?_
                  have f_539 := i_natm ((24 * a0) + (sMlengths (a0.toNatClampNeg)))
                  have I_540 : A_Mlists sMlists_14 := by rw [e_538]; exact (A_Mlists_upd I_sMlists (by show (0 ≤ (a1 : Int32).toInt ∧ (a1 : Int32).toInt ≤ 63) ∨ (100 ≤ (a1 : Int32).toInt ∧ (a1 : Int32).toInt ≤ 115) ∨ (216 ≤ (a1 : Int32).toInt ∧ (a1 : Int32).toInt ≤ 343) ∨ (400 ≤ (a1 : Int32).toInt ∧ (a1 : Int32).toInt ≤ 487) ∨ (501 ≤ (a1 : Int32).toInt ∧ (a1 : Int32).toInt ≤ 516) ∨ (a1 : Int32).toInt = 520; omega))
                  refine So.gd (i_in.mpr (by omega)) ?_
                  refine So.gd (i_in.mpr (by omega)) ?_
                  refine So.lt2 fun sMlengths_17 e_541 => ?_
                  have k_542 : (1 : Int32).toInt = 1 := by decide
                  first | have f_543 := i_add (a := (sMlengths (a0.toNatClampNeg))) (b := 1) (by omega) (by omega) | have f_543 := i_addm (sMlengths (a0.toNatClampNeg)) 1
                  have I_544 : A_Mlengths sMlengths_17 := by rw [e_541]; exact (A_Mlengths_upd I_sMlengths (by show 0 ≤ (((sMlengths (a0.toNatClampNeg)) + 1) : Int32).toInt ∧ (((sMlengths (a0.toNatClampNeg)) + 1) : Int32).toInt ≤ 24 ∧ ((a0.toNatClampNeg) < 16 → (((sMlengths (a0.toNatClampNeg)) + 1) : Int32).toInt ≤ 8); omega))
                  refine So.gd (i_in.mpr (by omega)) ?_
                  exact So.one ⟨I_503, I_540, I_544, (by show 0 ≤ (Mo_thrown sMo_5).toInt; omega), (by show (Mo_thrown sMo_5).toInt ≤ 2; omega), (by show (Mo_used sMo_5).toInt = (Mo_used sMo).toInt; omega), (by show (Mo_taped sMo_5).toInt = (Mo_taped sMo).toInt; omega)⟩
                · rw [i_le] at c_534
                  exact So.one ⟨I_503, I_sMlists, I_sMlengths, (by show 0 ≤ (Mo_thrown sMo_5).toInt; omega), (by show (Mo_thrown sMo_5).toInt ≤ 2; omega), (by show (Mo_used sMo_5).toInt = (Mo_used sMo).toInt; omega), (by show (Mo_taped sMo_5).toInt = (Mo_taped sMo).toInt; omega)⟩
            · rw [i_le] at c_509
              unfold Mod_append_j62
              refine So.ite (fun c_545 => ?_) (fun c_545 => ?_)
              · rw [i_eq] at c_545
                have f_546 := A_Mlengths_at I_sMlengths (a0.toNatClampNeg)
                have f_547 := i_natm a0
                have k_548 : (24 : Int32).toInt = 24 := by decide
                refine So.lt2 fun sMo_10 e_549 => ?_
                have I_550 : I_Mo sMo_10 := by rw [e_549]; exact (I_Mo_set_thrown I_503)
                have k_551 : (2 : Int32).toInt = 2 := by decide
                have f_552 : (Mo_thrown sMo_10).toInt = (2 : Int32).toInt := by subst e_549; rfl
                have f_553 : (Mo_used sMo_10).toInt = (Mo_used sMo_5).toInt := by subst e_549; rfl
                have f_554 : (Mo_taped sMo_10).toInt = (Mo_taped sMo_5).toInt := by subst e_549; rfl
                unfold Mod_append_j70
                refine So.ite (fun c_555 => ?_) (fun c_555 => ?_)
                · rw [i_le] at c_555
                  refine So.gd (i_in.mpr (by omega)) ?_
                  first | have f_556 := i_mull 24 a0 (24) (by decide) (by omega) (by omega) | have f_556 := i_mullm 24 a0 (24) (by decide)
                  first | have f_557 := i_add (a := (24 * a0)) (b := (sMlengths (a0.toNatClampNeg))) (by omega) (by omega) | have f_557 := i_addm (24 * a0) (sMlengths (a0.toNatClampNeg))
                  refine So.gd (i_in.mpr (by omega)) ?_
                  refine So.lt2 fun sMlists_14 e_558 => ?_
                  have f_559 := i_natm ((24 * a0) + (sMlengths (a0.toNatClampNeg)))
                  have I_560 : A_Mlists sMlists_14 := by rw [e_558]; exact (A_Mlists_upd I_sMlists (by show (0 ≤ (a1 : Int32).toInt ∧ (a1 : Int32).toInt ≤ 63) ∨ (100 ≤ (a1 : Int32).toInt ∧ (a1 : Int32).toInt ≤ 115) ∨ (216 ≤ (a1 : Int32).toInt ∧ (a1 : Int32).toInt ≤ 343) ∨ (400 ≤ (a1 : Int32).toInt ∧ (a1 : Int32).toInt ≤ 487) ∨ (501 ≤ (a1 : Int32).toInt ∧ (a1 : Int32).toInt ≤ 516) ∨ (a1 : Int32).toInt = 520; omega))
                  refine So.gd (i_in.mpr (by omega)) ?_
                  refine So.gd (i_in.mpr (by omega)) ?_
                  refine So.lt2 fun sMlengths_17 e_561 => ?_
                  have k_562 : (1 : Int32).toInt = 1 := by decide
                  first | have f_563 := i_add (a := (sMlengths (a0.toNatClampNeg))) (b := 1) (by omega) (by omega) | have f_563 := i_addm (sMlengths (a0.toNatClampNeg)) 1
                  have I_564 : A_Mlengths sMlengths_17 := by rw [e_561]; exact (A_Mlengths_upd I_sMlengths (by show 0 ≤ (((sMlengths (a0.toNatClampNeg)) + 1) : Int32).toInt ∧ (((sMlengths (a0.toNatClampNeg)) + 1) : Int32).toInt ≤ 24 ∧ ((a0.toNatClampNeg) < 16 → (((sMlengths (a0.toNatClampNeg)) + 1) : Int32).toInt ≤ 8); omega))
                  refine So.gd (i_in.mpr (by omega)) ?_
                  exact So.one ⟨I_550, I_560, I_564, (by show 0 ≤ (Mo_thrown sMo_10).toInt; omega), (by show (Mo_thrown sMo_10).toInt ≤ 2; omega), (by show (Mo_used sMo_10).toInt = (Mo_used sMo).toInt; omega), (by show (Mo_taped sMo_10).toInt = (Mo_taped sMo).toInt; omega)⟩
                · rw [i_le] at c_555
                  exact So.one ⟨I_550, I_sMlists, I_sMlengths, (by show 0 ≤ (Mo_thrown sMo_10).toInt; omega), (by show (Mo_thrown sMo_10).toInt ≤ 2; omega), (by show (Mo_used sMo_10).toInt = (Mo_used sMo).toInt; omega), (by show (Mo_taped sMo_10).toInt = (Mo_taped sMo).toInt; omega)⟩
              · rw [i_eq] at c_545
                have f_565 := A_Mlengths_at I_sMlengths (a0.toNatClampNeg)
                have f_566 := i_natm a0
                have k_567 : (24 : Int32).toInt = 24 := by decide
                unfold Mod_append_j70
                refine So.ite (fun c_568 => ?_) (fun c_568 => ?_)
                · rw [i_le] at c_568
                  refine So.gd (i_in.mpr (by omega)) ?_
                  first | have f_569 := i_mull 24 a0 (24) (by decide) (by omega) (by omega) | have f_569 := i_mullm 24 a0 (24) (by decide)
                  first | have f_570 := i_add (a := (24 * a0)) (b := (sMlengths (a0.toNatClampNeg))) (by omega) (by omega) | have f_570 := i_addm (24 * a0) (sMlengths (a0.toNatClampNeg))
                  refine So.gd (i_in.mpr (by omega)) ?_
                  refine So.lt2 fun sMlists_14 e_571 => ?_
                  have f_572 := i_natm ((24 * a0) + (sMlengths (a0.toNatClampNeg)))
                  have I_573 : A_Mlists sMlists_14 := by rw [e_571]; exact (A_Mlists_upd I_sMlists (by show (0 ≤ (a1 : Int32).toInt ∧ (a1 : Int32).toInt ≤ 63) ∨ (100 ≤ (a1 : Int32).toInt ∧ (a1 : Int32).toInt ≤ 115) ∨ (216 ≤ (a1 : Int32).toInt ∧ (a1 : Int32).toInt ≤ 343) ∨ (400 ≤ (a1 : Int32).toInt ∧ (a1 : Int32).toInt ≤ 487) ∨ (501 ≤ (a1 : Int32).toInt ∧ (a1 : Int32).toInt ≤ 516) ∨ (a1 : Int32).toInt = 520; omega))
                  refine So.gd (i_in.mpr (by omega)) ?_
                  refine So.gd (i_in.mpr (by omega)) ?_
                  refine So.lt2 fun sMlengths_17 e_574 => ?_
                  have k_575 : (1 : Int32).toInt = 1 := by decide
                  first | have f_576 := i_add (a := (sMlengths (a0.toNatClampNeg))) (b := 1) (by omega) (by omega) | have f_576 := i_addm (sMlengths (a0.toNatClampNeg)) 1
                  have I_577 : A_Mlengths sMlengths_17 := by rw [e_574]; exact (A_Mlengths_upd I_sMlengths (by show 0 ≤ (((sMlengths (a0.toNatClampNeg)) + 1) : Int32).toInt ∧ (((sMlengths (a0.toNatClampNeg)) + 1) : Int32).toInt ≤ 24 ∧ ((a0.toNatClampNeg) < 16 → (((sMlengths (a0.toNatClampNeg)) + 1) : Int32).toInt ≤ 8); omega))
                  refine So.gd (i_in.mpr (by omega)) ?_
                  exact So.one ⟨I_503, I_573, I_577, (by show 0 ≤ (Mo_thrown sMo_5).toInt; omega), (by show (Mo_thrown sMo_5).toInt ≤ 2; omega), (by show (Mo_used sMo_5).toInt = (Mo_used sMo).toInt; omega), (by show (Mo_taped sMo_5).toInt = (Mo_taped sMo).toInt; omega)⟩
                · rw [i_le] at c_568
                  exact So.one ⟨I_503, I_sMlists, I_sMlengths, (by show 0 ≤ (Mo_thrown sMo_5).toInt; omega), (by show (Mo_thrown sMo_5).toInt ≤ 2; omega), (by show (Mo_used sMo_5).toInt = (Mo_used sMo).toInt; omega), (by show (Mo_taped sMo_5).toInt = (Mo_taped sMo).toInt; omega)⟩
          · rw [i_eq] at c_508
            unfold Mod_append_j70
            refine So.ite (fun c_578 => ?_) (fun c_578 => ?_)
            · rw [i_le] at c_578
              refine So.gd (i_in.mpr (by omega)) ?_
              have k_579 : (24 : Int32).toInt = 24 := by decide
              first | have f_580 := i_mull 24 a0 (24) (by decide) (by omega) (by omega) | have f_580 := i_mullm 24 a0 (24) (by decide)
              have f_581 := A_Mlengths_at I_sMlengths (a0.toNatClampNeg)
              have f_582 := i_natm a0
              first | have f_583 := i_add (a := (24 * a0)) (b := (sMlengths (a0.toNatClampNeg))) (by omega) (by omega) | have f_583 := i_addm (24 * a0) (sMlengths (a0.toNatClampNeg))
              refine So.gd (i_in.mpr (by omega)) ?_
              refine So.lt2 fun sMlists_14 e_584 => ?_
              have f_585 := i_natm ((24 * a0) + (sMlengths (a0.toNatClampNeg)))
              have I_586 : A_Mlists sMlists_14 := by rw [e_584]; exact (A_Mlists_upd I_sMlists (by show (0 ≤ (a1 : Int32).toInt ∧ (a1 : Int32).toInt ≤ 63) ∨ (100 ≤ (a1 : Int32).toInt ∧ (a1 : Int32).toInt ≤ 115) ∨ (216 ≤ (a1 : Int32).toInt ∧ (a1 : Int32).toInt ≤ 343) ∨ (400 ≤ (a1 : Int32).toInt ∧ (a1 : Int32).toInt ≤ 487) ∨ (501 ≤ (a1 : Int32).toInt ∧ (a1 : Int32).toInt ≤ 516) ∨ (a1 : Int32).toInt = 520; omega))
              refine So.gd (i_in.mpr (by omega)) ?_
              refine So.gd (i_in.mpr (by omega)) ?_
              refine So.lt2 fun sMlengths_17 e_587 => ?_
              have k_588 : (1 : Int32).toInt = 1 := by decide
              first | have f_589 := i_add (a := (sMlengths (a0.toNatClampNeg))) (b := 1) (by omega) (by omega) | have f_589 := i_addm (sMlengths (a0.toNatClampNeg)) 1
              have I_590 : A_Mlengths sMlengths_17 := by rw [e_587]; exact (A_Mlengths_upd I_sMlengths (by show 0 ≤ (((sMlengths (a0.toNatClampNeg)) + 1) : Int32).toInt ∧ (((sMlengths (a0.toNatClampNeg)) + 1) : Int32).toInt ≤ 24 ∧ ((a0.toNatClampNeg) < 16 → (((sMlengths (a0.toNatClampNeg)) + 1) : Int32).toInt ≤ 8); omega))
              refine So.gd (i_in.mpr (by omega)) ?_
              exact So.one ⟨I_503, I_586, I_590, (by show 0 ≤ (Mo_thrown sMo_5).toInt; omega), (by show (Mo_thrown sMo_5).toInt ≤ 2; omega), (by show (Mo_used sMo_5).toInt = (Mo_used sMo).toInt; omega), (by show (Mo_taped sMo_5).toInt = (Mo_taped sMo).toInt; omega)⟩
            · rw [i_le] at c_578
              exact So.one ⟨I_503, I_sMlists, I_sMlengths, (by show 0 ≤ (Mo_thrown sMo_5).toInt; omega), (by show (Mo_thrown sMo_5).toInt ≤ 2; omega), (by show (Mo_used sMo_5).toInt = (Mo_used sMo).toInt; omega), (by show (Mo_taped sMo_5).toInt = (Mo_taped sMo).toInt; omega)⟩
        · rw [i_le] at c_507
          unfold Mod_append_j37
          refine So.ite (fun c_591 => ?_) (fun c_591 => ?_)
          · rw [i_eq] at c_591
            have k_592 : (16 : Int32).toInt = 16 := by decide
            refine So.gd (i_in.mpr (by omega)) ?_
            refine So.ite (fun c_593 => ?_) (fun c_593 => ?_)
            · rw [i_le] at c_593
              unfold Mod_append_j62
              refine So.ite (fun c_594 => ?_) (fun c_594 => ?_)
              · rw [i_eq] at c_594
                have f_595 := A_Mlengths_at I_sMlengths ((16 : Int32).toNatClampNeg)
                have f_596 := i_natm (16 : Int32)
                have k_597 : (8 : Int32).toInt = 8 := by decide
                refine So.lt2 fun sMo_10 e_598 => ?_
                have I_599 : I_Mo sMo_10 := by rw [e_598]; exact (I_Mo_set_thrown I_503)
                have k_600 : (2 : Int32).toInt = 2 := by decide
                have f_601 : (Mo_thrown sMo_10).toInt = (2 : Int32).toInt := by subst e_598; rfl
                have f_602 : (Mo_used sMo_10).toInt = (Mo_used sMo_5).toInt := by subst e_598; rfl
                have f_603 : (Mo_taped sMo_10).toInt = (Mo_taped sMo_5).toInt := by subst e_598; rfl
                unfold Mod_append_j70
                refine So.ite (fun c_604 => ?_) (fun c_604 => ?_)
                · rw [i_le] at c_604
                  refine So.gd (i_in.mpr (by omega)) ?_
                  have k_605 : ((24 * 16) : Int32).toInt = 384 := by decide
                  first | have f_606 := i_add (a := ((24 * 16) : Int32)) (b := (sMlengths ((16 : Int32).toNatClampNeg))) (by omega) (by omega) | have f_606 := i_addm ((24 * 16) : Int32) (sMlengths ((16 : Int32).toNatClampNeg))
                  refine So.gd (i_in.mpr (by omega)) ?_
                  refine So.lt2 fun sMlists_14 e_607 => ?_
                  have f_608 := i_natm ((24 * 16) + (sMlengths ((16 : Int32).toNatClampNeg)))
                  have I_609 : A_Mlists sMlists_14 := by rw [e_607]; exact (A_Mlists_upd I_sMlists (by show (0 ≤ (a1 : Int32).toInt ∧ (a1 : Int32).toInt ≤ 63) ∨ (100 ≤ (a1 : Int32).toInt ∧ (a1 : Int32).toInt ≤ 115) ∨ (216 ≤ (a1 : Int32).toInt ∧ (a1 : Int32).toInt ≤ 343) ∨ (400 ≤ (a1 : Int32).toInt ∧ (a1 : Int32).toInt ≤ 487) ∨ (501 ≤ (a1 : Int32).toInt ∧ (a1 : Int32).toInt ≤ 516) ∨ (a1 : Int32).toInt = 520; omega))
                  refine So.gd (i_in.mpr (by omega)) ?_
                  refine So.gd (i_in.mpr (by omega)) ?_
                  refine So.lt2 fun sMlengths_17 e_610 => ?_
                  have k_611 : (1 : Int32).toInt = 1 := by decide
                  first | have f_612 := i_add (a := (sMlengths ((16 : Int32).toNatClampNeg))) (b := 1) (by omega) (by omega) | have f_612 := i_addm (sMlengths ((16 : Int32).toNatClampNeg)) 1
                  have I_613 : A_Mlengths sMlengths_17 := by rw [e_610]; exact (A_Mlengths_upd I_sMlengths (by show 0 ≤ (((sMlengths ((16 : Int32).toNatClampNeg)) + 1) : Int32).toInt ∧ (((sMlengths ((16 : Int32).toNatClampNeg)) + 1) : Int32).toInt ≤ 24 ∧ (((16 : Int32).toNatClampNeg) < 16 → (((sMlengths ((16 : Int32).toNatClampNeg)) + 1) : Int32).toInt ≤ 8); omega))
                  refine So.gd (i_in.mpr (by omega)) ?_
                  exact So.one ⟨I_599, I_609, I_613, (by show 0 ≤ (Mo_thrown sMo_10).toInt; omega), (by show (Mo_thrown sMo_10).toInt ≤ 2; omega), (by show (Mo_used sMo_10).toInt = (Mo_used sMo).toInt; omega), (by show (Mo_taped sMo_10).toInt = (Mo_taped sMo).toInt; omega)⟩
                · rw [i_le] at c_604
                  exact So.one ⟨I_599, I_sMlists, I_sMlengths, (by show 0 ≤ (Mo_thrown sMo_10).toInt; omega), (by show (Mo_thrown sMo_10).toInt ≤ 2; omega), (by show (Mo_used sMo_10).toInt = (Mo_used sMo).toInt; omega), (by show (Mo_taped sMo_10).toInt = (Mo_taped sMo).toInt; omega)⟩
              · rw [i_eq] at c_594
                have f_614 := A_Mlengths_at I_sMlengths ((16 : Int32).toNatClampNeg)
                have f_615 := i_natm (16 : Int32)
                have k_616 : (8 : Int32).toInt = 8 := by decide
                unfold Mod_append_j70
                refine So.ite (fun c_617 => ?_) (fun c_617 => ?_)
                · rw [i_le] at c_617
                  refine So.gd (i_in.mpr (by omega)) ?_
                  have k_618 : ((24 * 16) : Int32).toInt = 384 := by decide
                  first | have f_619 := i_add (a := ((24 * 16) : Int32)) (b := (sMlengths ((16 : Int32).toNatClampNeg))) (by omega) (by omega) | have f_619 := i_addm ((24 * 16) : Int32) (sMlengths ((16 : Int32).toNatClampNeg))
                  refine So.gd (i_in.mpr (by omega)) ?_
                  refine So.lt2 fun sMlists_14 e_620 => ?_
                  have f_621 := i_natm ((24 * 16) + (sMlengths ((16 : Int32).toNatClampNeg)))
                  have I_622 : A_Mlists sMlists_14 := by rw [e_620]; exact (A_Mlists_upd I_sMlists (by show (0 ≤ (a1 : Int32).toInt ∧ (a1 : Int32).toInt ≤ 63) ∨ (100 ≤ (a1 : Int32).toInt ∧ (a1 : Int32).toInt ≤ 115) ∨ (216 ≤ (a1 : Int32).toInt ∧ (a1 : Int32).toInt ≤ 343) ∨ (400 ≤ (a1 : Int32).toInt ∧ (a1 : Int32).toInt ≤ 487) ∨ (501 ≤ (a1 : Int32).toInt ∧ (a1 : Int32).toInt ≤ 516) ∨ (a1 : Int32).toInt = 520; omega))
                  refine So.gd (i_in.mpr (by omega)) ?_
                  refine So.gd (i_in.mpr (by omega)) ?_
                  refine So.lt2 fun sMlengths_17 e_623 => ?_
                  have k_624 : (1 : Int32).toInt = 1 := by decide
                  first | have f_625 := i_add (a := (sMlengths ((16 : Int32).toNatClampNeg))) (b := 1) (by omega) (by omega) | have f_625 := i_addm (sMlengths ((16 : Int32).toNatClampNeg)) 1
                  have I_626 : A_Mlengths sMlengths_17 := by rw [e_623]; exact (A_Mlengths_upd I_sMlengths (by show 0 ≤ (((sMlengths ((16 : Int32).toNatClampNeg)) + 1) : Int32).toInt ∧ (((sMlengths ((16 : Int32).toNatClampNeg)) + 1) : Int32).toInt ≤ 24 ∧ (((16 : Int32).toNatClampNeg) < 16 → (((sMlengths ((16 : Int32).toNatClampNeg)) + 1) : Int32).toInt ≤ 8); omega))
                  refine So.gd (i_in.mpr (by omega)) ?_
                  exact So.one ⟨I_503, I_622, I_626, (by show 0 ≤ (Mo_thrown sMo_5).toInt; omega), (by show (Mo_thrown sMo_5).toInt ≤ 2; omega), (by show (Mo_used sMo_5).toInt = (Mo_used sMo).toInt; omega), (by show (Mo_taped sMo_5).toInt = (Mo_taped sMo).toInt; omega)⟩
                · rw [i_le] at c_617
                  exact So.one ⟨I_503, I_sMlists, I_sMlengths, (by show 0 ≤ (Mo_thrown sMo_5).toInt; omega), (by show (Mo_thrown sMo_5).toInt ≤ 2; omega), (by show (Mo_used sMo_5).toInt = (Mo_used sMo).toInt; omega), (by show (Mo_taped sMo_5).toInt = (Mo_taped sMo).toInt; omega)⟩
            · rw [i_le] at c_593
              unfold Mod_append_j62
              refine So.ite (fun c_627 => ?_) (fun c_627 => ?_)
              · rw [i_eq] at c_627
                have f_628 := A_Mlengths_at I_sMlengths ((16 : Int32).toNatClampNeg)
                have f_629 := i_natm (16 : Int32)
                have k_630 : (24 : Int32).toInt = 24 := by decide
                refine So.lt2 fun sMo_10 e_631 => ?_
                have I_632 : I_Mo sMo_10 := by rw [e_631]; exact (I_Mo_set_thrown I_503)
                have k_633 : (2 : Int32).toInt = 2 := by decide
                have f_634 : (Mo_thrown sMo_10).toInt = (2 : Int32).toInt := by subst e_631; rfl
                have f_635 : (Mo_used sMo_10).toInt = (Mo_used sMo_5).toInt := by subst e_631; rfl
                have f_636 : (Mo_taped sMo_10).toInt = (Mo_taped sMo_5).toInt := by subst e_631; rfl
                unfold Mod_append_j70
                refine So.ite (fun c_637 => ?_) (fun c_637 => ?_)
                · rw [i_le] at c_637
                  refine So.gd (i_in.mpr (by omega)) ?_
                  have k_638 : ((24 * 16) : Int32).toInt = 384 := by decide
                  first | have f_639 := i_add (a := ((24 * 16) : Int32)) (b := (sMlengths ((16 : Int32).toNatClampNeg))) (by omega) (by omega) | have f_639 := i_addm ((24 * 16) : Int32) (sMlengths ((16 : Int32).toNatClampNeg))
                  refine So.gd (i_in.mpr (by omega)) ?_
                  refine So.lt2 fun sMlists_14 e_640 => ?_
                  have f_641 := i_natm ((24 * 16) + (sMlengths ((16 : Int32).toNatClampNeg)))
                  have I_642 : A_Mlists sMlists_14 := by rw [e_640]; exact (A_Mlists_upd I_sMlists (by show (0 ≤ (a1 : Int32).toInt ∧ (a1 : Int32).toInt ≤ 63) ∨ (100 ≤ (a1 : Int32).toInt ∧ (a1 : Int32).toInt ≤ 115) ∨ (216 ≤ (a1 : Int32).toInt ∧ (a1 : Int32).toInt ≤ 343) ∨ (400 ≤ (a1 : Int32).toInt ∧ (a1 : Int32).toInt ≤ 487) ∨ (501 ≤ (a1 : Int32).toInt ∧ (a1 : Int32).toInt ≤ 516) ∨ (a1 : Int32).toInt = 520; omega))
                  refine So.gd (i_in.mpr (by omega)) ?_
                  refine So.gd (i_in.mpr (by omega)) ?_
                  refine So.lt2 fun sMlengths_17 e_643 => ?_
                  have k_644 : (1 : Int32).toInt = 1 := by decide
                  first | have f_645 := i_add (a := (sMlengths ((16 : Int32).toNatClampNeg))) (b := 1) (by omega) (by omega) | have f_645 := i_addm (sMlengths ((16 : Int32).toNatClampNeg)) 1
                  have I_646 : A_Mlengths sMlengths_17 := by rw [e_643]; exact (A_Mlengths_upd I_sMlengths (by show 0 ≤ (((sMlengths ((16 : Int32).toNatClampNeg)) + 1) : Int32).toInt ∧ (((sMlengths ((16 : Int32).toNatClampNeg)) + 1) : Int32).toInt ≤ 24 ∧ (((16 : Int32).toNatClampNeg) < 16 → (((sMlengths ((16 : Int32).toNatClampNeg)) + 1) : Int32).toInt ≤ 8); omega))
                  refine So.gd (i_in.mpr (by omega)) ?_
                  exact So.one ⟨I_632, I_642, I_646, (by show 0 ≤ (Mo_thrown sMo_10).toInt; omega), (by show (Mo_thrown sMo_10).toInt ≤ 2; omega), (by show (Mo_used sMo_10).toInt = (Mo_used sMo).toInt; omega), (by show (Mo_taped sMo_10).toInt = (Mo_taped sMo).toInt; omega)⟩
                · rw [i_le] at c_637
                  exact So.one ⟨I_632, I_sMlists, I_sMlengths, (by show 0 ≤ (Mo_thrown sMo_10).toInt; omega), (by show (Mo_thrown sMo_10).toInt ≤ 2; omega), (by show (Mo_used sMo_10).toInt = (Mo_used sMo).toInt; omega), (by show (Mo_taped sMo_10).toInt = (Mo_taped sMo).toInt; omega)⟩
              · rw [i_eq] at c_627
                have f_647 := A_Mlengths_at I_sMlengths ((16 : Int32).toNatClampNeg)
                have f_648 := i_natm (16 : Int32)
                have k_649 : (24 : Int32).toInt = 24 := by decide
                unfold Mod_append_j70
                refine So.ite (fun c_650 => ?_) (fun c_650 => ?_)
                · rw [i_le] at c_650
                  refine So.gd (i_in.mpr (by omega)) ?_
                  have k_651 : ((24 * 16) : Int32).toInt = 384 := by decide
                  first | have f_652 := i_add (a := ((24 * 16) : Int32)) (b := (sMlengths ((16 : Int32).toNatClampNeg))) (by omega) (by omega) | have f_652 := i_addm ((24 * 16) : Int32) (sMlengths ((16 : Int32).toNatClampNeg))
                  refine So.gd (i_in.mpr (by omega)) ?_
                  refine So.lt2 fun sMlists_14 e_653 => ?_
                  have f_654 := i_natm ((24 * 16) + (sMlengths ((16 : Int32).toNatClampNeg)))
                  have I_655 : A_Mlists sMlists_14 := by rw [e_653]; exact (A_Mlists_upd I_sMlists (by show (0 ≤ (a1 : Int32).toInt ∧ (a1 : Int32).toInt ≤ 63) ∨ (100 ≤ (a1 : Int32).toInt ∧ (a1 : Int32).toInt ≤ 115) ∨ (216 ≤ (a1 : Int32).toInt ∧ (a1 : Int32).toInt ≤ 343) ∨ (400 ≤ (a1 : Int32).toInt ∧ (a1 : Int32).toInt ≤ 487) ∨ (501 ≤ (a1 : Int32).toInt ∧ (a1 : Int32).toInt ≤ 516) ∨ (a1 : Int32).toInt = 520; omega))
                  refine So.gd (i_in.mpr (by omega)) ?_
                  refine So.gd (i_in.mpr (by omega)) ?_
                  refine So.lt2 fun sMlengths_17 e_656 => ?_
                  have k_657 : (1 : Int32).toInt = 1 := by decide
                  first | have f_658 := i_add (a := (sMlengths ((16 : Int32).toNatClampNeg))) (b := 1) (by omega) (by omega) | have f_658 := i_addm (sMlengths ((16 : Int32).toNatClampNeg)) 1
                  have I_659 : A_Mlengths sMlengths_17 := by rw [e_656]; exact (A_Mlengths_upd I_sMlengths (by show 0 ≤ (((sMlengths ((16 : Int32).toNatClampNeg)) + 1) : Int32).toInt ∧ (((sMlengths ((16 : Int32).toNatClampNeg)) + 1) : Int32).toInt ≤ 24 ∧ (((16 : Int32).toNatClampNeg) < 16 → (((sMlengths ((16 : Int32).toNatClampNeg)) + 1) : Int32).toInt ≤ 8); omega))
                  refine So.gd (i_in.mpr (by omega)) ?_
                  exact So.one ⟨I_503, I_655, I_659, (by show 0 ≤ (Mo_thrown sMo_5).toInt; omega), (by show (Mo_thrown sMo_5).toInt ≤ 2; omega), (by show (Mo_used sMo_5).toInt = (Mo_used sMo).toInt; omega), (by show (Mo_taped sMo_5).toInt = (Mo_taped sMo).toInt; omega)⟩
                · rw [i_le] at c_650
                  exact So.one ⟨I_503, I_sMlists, I_sMlengths, (by show 0 ≤ (Mo_thrown sMo_5).toInt; omega), (by show (Mo_thrown sMo_5).toInt ≤ 2; omega), (by show (Mo_used sMo_5).toInt = (Mo_used sMo).toInt; omega), (by show (Mo_taped sMo_5).toInt = (Mo_taped sMo).toInt; omega)⟩
          · rw [i_eq] at c_591
            unfold Mod_append_j70
            refine So.ite (fun c_660 => ?_) (fun c_660 => ?_)
            · rw [i_le] at c_660
              have k_661 : (16 : Int32).toInt = 16 := by decide
              refine So.gd (i_in.mpr (by omega)) ?_
              have k_662 : ((24 * 16) : Int32).toInt = 384 := by decide
              have f_663 := A_Mlengths_at I_sMlengths ((16 : Int32).toNatClampNeg)
              have f_664 := i_natm (16 : Int32)
              first | have f_665 := i_add (a := ((24 * 16) : Int32)) (b := (sMlengths ((16 : Int32).toNatClampNeg))) (by omega) (by omega) | have f_665 := i_addm ((24 * 16) : Int32) (sMlengths ((16 : Int32).toNatClampNeg))
              refine So.gd (i_in.mpr (by omega)) ?_
              refine So.lt2 fun sMlists_14 e_666 => ?_
              have f_667 := i_natm ((24 * 16) + (sMlengths ((16 : Int32).toNatClampNeg)))
              have I_668 : A_Mlists sMlists_14 := by rw [e_666]; exact (A_Mlists_upd I_sMlists (by show (0 ≤ (a1 : Int32).toInt ∧ (a1 : Int32).toInt ≤ 63) ∨ (100 ≤ (a1 : Int32).toInt ∧ (a1 : Int32).toInt ≤ 115) ∨ (216 ≤ (a1 : Int32).toInt ∧ (a1 : Int32).toInt ≤ 343) ∨ (400 ≤ (a1 : Int32).toInt ∧ (a1 : Int32).toInt ≤ 487) ∨ (501 ≤ (a1 : Int32).toInt ∧ (a1 : Int32).toInt ≤ 516) ∨ (a1 : Int32).toInt = 520; omega))
              refine So.gd (i_in.mpr (by omega)) ?_
              refine So.gd (i_in.mpr (by omega)) ?_
              refine So.lt2 fun sMlengths_17 e_669 => ?_
              have k_670 : (1 : Int32).toInt = 1 := by decide
              first | have f_671 := i_add (a := (sMlengths ((16 : Int32).toNatClampNeg))) (b := 1) (by omega) (by omega) | have f_671 := i_addm (sMlengths ((16 : Int32).toNatClampNeg)) 1
              have I_672 : A_Mlengths sMlengths_17 := by rw [e_669]; exact (A_Mlengths_upd I_sMlengths (by show 0 ≤ (((sMlengths ((16 : Int32).toNatClampNeg)) + 1) : Int32).toInt ∧ (((sMlengths ((16 : Int32).toNatClampNeg)) + 1) : Int32).toInt ≤ 24 ∧ (((16 : Int32).toNatClampNeg) < 16 → (((sMlengths ((16 : Int32).toNatClampNeg)) + 1) : Int32).toInt ≤ 8); omega))
              refine So.gd (i_in.mpr (by omega)) ?_
              exact So.one ⟨I_503, I_668, I_672, (by show 0 ≤ (Mo_thrown sMo_5).toInt; omega), (by show (Mo_thrown sMo_5).toInt ≤ 2; omega), (by show (Mo_used sMo_5).toInt = (Mo_used sMo).toInt; omega), (by show (Mo_taped sMo_5).toInt = (Mo_taped sMo).toInt; omega)⟩
            · rw [i_le] at c_660
              exact So.one ⟨I_503, I_sMlists, I_sMlengths, (by show 0 ≤ (Mo_thrown sMo_5).toInt; omega), (by show (Mo_thrown sMo_5).toInt ≤ 2; omega), (by show (Mo_used sMo_5).toInt = (Mo_used sMo).toInt; omega), (by show (Mo_taped sMo_5).toInt = (Mo_taped sMo).toInt; omega)⟩
theorem t_Mod_clear {a0 : Int32} {sMo : S_Mo} {sMlengths : (Nat → Int32)} (I_sMo : I_Mo sMo) (I_sMlengths : A_Mlengths sMlengths) : So (Mod_clear a0 sMo sMlengths) (fun r => I_Mo r.1 ∧ A_Mlengths r.2 ∧ (((Mo_thrown r.1).toInt = 0 ∧ (-1 ≤ a0.toInt ∧ a0.toInt < 16)) ∨ ((Mo_thrown r.1).toInt = 1 ∧ ¬ (-1 ≤ a0.toInt ∧ a0.toInt < 16))) ∧ ((Mo_used r.1).toInt = (Mo_used sMo).toInt) ∧ ((Mo_taped r.1).toInt = (Mo_taped sMo).toInt)) := by
  unfold Mod_clear
  refine So.ite (fun c_1 => ?_) (fun c_1 => ?_)
  · rw [i_lt] at c_1
    have k_2 : ((-1) : Int32).toInt = -1 := by decide
    unfold Mod_clear_j12
    unfold Mod_clear_j17
    refine So.lt2 fun sMo_3 e_3 => ?_
    have I_4 : I_Mo sMo_3 := by rw [e_3]; exact (I_Mo_set_thrown I_sMo)
    have k_5 : (1 : Int32).toInt = 1 := by decide
    have f_6 : (Mo_thrown sMo_3).toInt = (1 : Int32).toInt := by subst e_3; rfl
    have f_7 : (Mo_used sMo_3).toInt = (Mo_used sMo).toInt := by subst e_3; rfl
    have f_8 : (Mo_taped sMo_3).toInt = (Mo_taped sMo).toInt := by subst e_3; rfl
    refine So.ite (fun c_9 => ?_) (fun c_9 => ?_)
    · rw [i_eq] at c_9
      have k_10 : (0 : Int32).toInt = 0 := by decide
      refine So.ite (fun c_11 => ?_) (fun c_11 => ?_)
      · rw [i_le] at c_11
        refine So.gd (i_in.mpr (by omega)) ?_
        refine So.lt2 fun sMlengths_5 e_12 => ?_
        have f_13 := i_natm a0
        have I_14 : A_Mlengths sMlengths_5 := by rw [e_12]; exact (A_Mlengths_upd I_sMlengths (by show 0 ≤ (0 : Int32).toInt ∧ (0 : Int32).toInt ≤ 24 ∧ ((a0.toNatClampNeg) < 16 → (0 : Int32).toInt ≤ 8); omega))
        exact So.one ⟨I_4, I_14, (by show ((Mo_thrown sMo_3).toInt = 0 ∧ (-1 ≤ a0.toInt ∧ a0.toInt < 16)) ∨ ((Mo_thrown sMo_3).toInt = 1 ∧ ¬ (-1 ≤ a0.toInt ∧ a0.toInt < 16)); omega), (by show (Mo_used sMo_3).toInt = (Mo_used sMo).toInt; omega), (by show (Mo_taped sMo_3).toInt = (Mo_taped sMo).toInt; omega)⟩
      · rw [i_le] at c_11
        have k_15 : (16 : Int32).toInt = 16 := by decide
        refine So.gd (i_in.mpr (by omega)) ?_
        refine So.lt2 fun sMlengths_7 e_16 => ?_
        have f_17 := i_natm (16 : Int32)
        have I_18 : A_Mlengths sMlengths_7 := by rw [e_16]; exact (A_Mlengths_upd I_sMlengths (by show 0 ≤ (0 : Int32).toInt ∧ (0 : Int32).toInt ≤ 24 ∧ (((16 : Int32).toNatClampNeg) < 16 → (0 : Int32).toInt ≤ 8); omega))
        exact So.one ⟨I_4, I_18, (by show ((Mo_thrown sMo_3).toInt = 0 ∧ (-1 ≤ a0.toInt ∧ a0.toInt < 16)) ∨ ((Mo_thrown sMo_3).toInt = 1 ∧ ¬ (-1 ≤ a0.toInt ∧ a0.toInt < 16)); omega), (by show (Mo_used sMo_3).toInt = (Mo_used sMo).toInt; omega), (by show (Mo_taped sMo_3).toInt = (Mo_taped sMo).toInt; omega)⟩
    · rw [i_eq] at c_9
      have k_19 : (0 : Int32).toInt = 0 := by decide
      exact So.one ⟨I_4, I_sMlengths, (by show ((Mo_thrown sMo_3).toInt = 0 ∧ (-1 ≤ a0.toInt ∧ a0.toInt < 16)) ∨ ((Mo_thrown sMo_3).toInt = 1 ∧ ¬ (-1 ≤ a0.toInt ∧ a0.toInt < 16)); omega), (by show (Mo_used sMo_3).toInt = (Mo_used sMo).toInt; omega), (by show (Mo_taped sMo_3).toInt = (Mo_taped sMo).toInt; omega)⟩
  · rw [i_lt] at c_1
    have k_20 : ((-1) : Int32).toInt = -1 := by decide
    refine So.ite (fun c_21 => ?_) (fun c_21 => ?_)
    · rw [i_le] at c_21
      have k_22 : (15 : Int32).toInt = 15 := by decide
      unfold Mod_clear_j17
      refine So.lt2 fun sMo_3 e_23 => ?_
      have I_24 : I_Mo sMo_3 := by rw [e_23]; exact (I_Mo_set_thrown I_sMo)
      have k_25 : (0 : Int32).toInt = 0 := by decide
      have f_26 : (Mo_thrown sMo_3).toInt = (0 : Int32).toInt := by subst e_23; rfl
      have f_27 : (Mo_used sMo_3).toInt = (Mo_used sMo).toInt := by subst e_23; rfl
      have f_28 : (Mo_taped sMo_3).toInt = (Mo_taped sMo).toInt := by subst e_23; rfl
      refine So.ite (fun c_29 => ?_) (fun c_29 => ?_)
      · rw [i_eq] at c_29
        refine So.ite (fun c_30 => ?_) (fun c_30 => ?_)
        · rw [i_le] at c_30
          refine So.gd (i_in.mpr (by omega)) ?_
          refine So.lt2 fun sMlengths_5 e_31 => ?_
          have f_32 := i_natm a0
          have I_33 : A_Mlengths sMlengths_5 := by rw [e_31]; exact (A_Mlengths_upd I_sMlengths (by show 0 ≤ (0 : Int32).toInt ∧ (0 : Int32).toInt ≤ 24 ∧ ((a0.toNatClampNeg) < 16 → (0 : Int32).toInt ≤ 8); omega))
          exact So.one ⟨I_24, I_33, (by show ((Mo_thrown sMo_3).toInt = 0 ∧ (-1 ≤ a0.toInt ∧ a0.toInt < 16)) ∨ ((Mo_thrown sMo_3).toInt = 1 ∧ ¬ (-1 ≤ a0.toInt ∧ a0.toInt < 16)); omega), (by show (Mo_used sMo_3).toInt = (Mo_used sMo).toInt; omega), (by show (Mo_taped sMo_3).toInt = (Mo_taped sMo).toInt; omega)⟩
        · rw [i_le] at c_30
          have k_34 : (16 : Int32).toInt = 16 := by decide
          refine So.gd (i_in.mpr (by omega)) ?_
          refine So.lt2 fun sMlengths_7 e_35 => ?_
          have f_36 := i_natm (16 : Int32)
          have I_37 : A_Mlengths sMlengths_7 := by rw [e_35]; exact (A_Mlengths_upd I_sMlengths (by show 0 ≤ (0 : Int32).toInt ∧ (0 : Int32).toInt ≤ 24 ∧ (((16 : Int32).toNatClampNeg) < 16 → (0 : Int32).toInt ≤ 8); omega))
          exact So.one ⟨I_24, I_37, (by show ((Mo_thrown sMo_3).toInt = 0 ∧ (-1 ≤ a0.toInt ∧ a0.toInt < 16)) ∨ ((Mo_thrown sMo_3).toInt = 1 ∧ ¬ (-1 ≤ a0.toInt ∧ a0.toInt < 16)); omega), (by show (Mo_used sMo_3).toInt = (Mo_used sMo).toInt; omega), (by show (Mo_taped sMo_3).toInt = (Mo_taped sMo).toInt; omega)⟩
      · rw [i_eq] at c_29
        exact So.one ⟨I_24, I_sMlengths, (by show ((Mo_thrown sMo_3).toInt = 0 ∧ (-1 ≤ a0.toInt ∧ a0.toInt < 16)) ∨ ((Mo_thrown sMo_3).toInt = 1 ∧ ¬ (-1 ≤ a0.toInt ∧ a0.toInt < 16)); omega), (by show (Mo_used sMo_3).toInt = (Mo_used sMo).toInt; omega), (by show (Mo_taped sMo_3).toInt = (Mo_taped sMo).toInt; omega)⟩
    · rw [i_le] at c_21
      have k_38 : (15 : Int32).toInt = 15 := by decide
      unfold Mod_clear_j12
      unfold Mod_clear_j17
      refine So.lt2 fun sMo_3 e_39 => ?_
      have I_40 : I_Mo sMo_3 := by rw [e_39]; exact (I_Mo_set_thrown I_sMo)
      have k_41 : (1 : Int32).toInt = 1 := by decide
      have f_42 : (Mo_thrown sMo_3).toInt = (1 : Int32).toInt := by subst e_39; rfl
      have f_43 : (Mo_used sMo_3).toInt = (Mo_used sMo).toInt := by subst e_39; rfl
      have f_44 : (Mo_taped sMo_3).toInt = (Mo_taped sMo).toInt := by subst e_39; rfl
      refine So.ite (fun c_45 => ?_) (fun c_45 => ?_)
      · rw [i_eq] at c_45
        have k_46 : (0 : Int32).toInt = 0 := by decide
        refine So.ite (fun c_47 => ?_) (fun c_47 => ?_)
        · rw [i_le] at c_47
          refine So.gd (i_in.mpr (by omega)) ?_
          refine So.lt2 fun sMlengths_5 e_48 => ?_
          have f_49 := i_natm a0
          have I_50 : A_Mlengths sMlengths_5 := by rw [e_48]; exact (A_Mlengths_upd I_sMlengths (by show 0 ≤ (0 : Int32).toInt ∧ (0 : Int32).toInt ≤ 24 ∧ ((a0.toNatClampNeg) < 16 → (0 : Int32).toInt ≤ 8); omega))
          exact So.one ⟨I_40, I_50, (by show ((Mo_thrown sMo_3).toInt = 0 ∧ (-1 ≤ a0.toInt ∧ a0.toInt < 16)) ∨ ((Mo_thrown sMo_3).toInt = 1 ∧ ¬ (-1 ≤ a0.toInt ∧ a0.toInt < 16)); omega), (by show (Mo_used sMo_3).toInt = (Mo_used sMo).toInt; omega), (by show (Mo_taped sMo_3).toInt = (Mo_taped sMo).toInt; omega)⟩
        · rw [i_le] at c_47
          have k_51 : (16 : Int32).toInt = 16 := by decide
          refine So.gd (i_in.mpr (by omega)) ?_
          refine So.lt2 fun sMlengths_7 e_52 => ?_
          have f_53 := i_natm (16 : Int32)
          have I_54 : A_Mlengths sMlengths_7 := by rw [e_52]; exact (A_Mlengths_upd I_sMlengths (by show 0 ≤ (0 : Int32).toInt ∧ (0 : Int32).toInt ≤ 24 ∧ (((16 : Int32).toNatClampNeg) < 16 → (0 : Int32).toInt ≤ 8); omega))
          exact So.one ⟨I_40, I_54, (by show ((Mo_thrown sMo_3).toInt = 0 ∧ (-1 ≤ a0.toInt ∧ a0.toInt < 16)) ∨ ((Mo_thrown sMo_3).toInt = 1 ∧ ¬ (-1 ≤ a0.toInt ∧ a0.toInt < 16)); omega), (by show (Mo_used sMo_3).toInt = (Mo_used sMo).toInt; omega), (by show (Mo_taped sMo_3).toInt = (Mo_taped sMo).toInt; omega)⟩
      · rw [i_eq] at c_45
        have k_55 : (0 : Int32).toInt = 0 := by decide
        exact So.one ⟨I_40, I_sMlengths, (by show ((Mo_thrown sMo_3).toInt = 0 ∧ (-1 ≤ a0.toInt ∧ a0.toInt < 16)) ∨ ((Mo_thrown sMo_3).toInt = 1 ∧ ¬ (-1 ≤ a0.toInt ∧ a0.toInt < 16)); omega), (by show (Mo_used sMo_3).toInt = (Mo_used sMo).toInt; omega), (by show (Mo_taped sMo_3).toInt = (Mo_taped sMo).toInt; omega)⟩
theorem t_Mod_isSubset {a0 : Int32}  : So (Mod_isSubset a0) (fun r => ((r.toInt = 1 ∧ (0 ≤ a0.toInt ∧ a0.toInt < 8)) ∨ (r.toInt = 0 ∧ ¬ (0 ≤ a0.toInt ∧ a0.toInt < 8)))) := by
  unfold Mod_isSubset
  refine So.ite (fun c_1 => ?_) (fun c_1 => ?_)
  · rw [i_lt] at c_1
    have k_2 : (0 : Int32).toInt = 0 := by decide
    exact So.one (by show ((0 : Int32).toInt = 1 ∧ (0 ≤ a0.toInt ∧ a0.toInt < 8)) ∨ ((0 : Int32).toInt = 0 ∧ ¬ (0 ≤ a0.toInt ∧ a0.toInt < 8)); omega)
  · rw [i_lt] at c_1
    have k_3 : (0 : Int32).toInt = 0 := by decide
    refine So.ite (fun c_4 => ?_) (fun c_4 => ?_)
    · rw [i_le] at c_4
      have k_5 : (8 : Int32).toInt = 8 := by decide
      exact So.one (by show ((0 : Int32).toInt = 1 ∧ (0 ≤ a0.toInt ∧ a0.toInt < 8)) ∨ ((0 : Int32).toInt = 0 ∧ ¬ (0 ≤ a0.toInt ∧ a0.toInt < 8)); omega)
    · rw [i_le] at c_4
      have k_6 : (8 : Int32).toInt = 8 := by decide
      have k_7 : (1 : Int32).toInt = 1 := by decide
      exact So.one (by show ((1 : Int32).toInt = 1 ∧ (0 ≤ a0.toInt ∧ a0.toInt < 8)) ∨ ((1 : Int32).toInt = 0 ∧ ¬ (0 ≤ a0.toInt ∧ a0.toInt < 8)); omega)
theorem t_Mod_put {a0 : Int32} {a1 : Int32} {a2 : Int64} {sMo : S_Mo} {sMvalues : (Nat → Int64)} (I_sMo : I_Mo sMo) : So (Mod_put a0 a1 a2 sMo sMvalues) (fun r => I_Mo r.1 ∧ (((Mo_thrown r.1).toInt = 0 ∧ (0 ≤ a0.toInt ∧ a0.toInt < 8 ∧ 0 ≤ a1.toInt ∧ a1.toInt < 100)) ∨ ((Mo_thrown r.1).toInt = 1 ∧ ¬ (0 ≤ a0.toInt ∧ a0.toInt < 8 ∧ 0 ≤ a1.toInt ∧ a1.toInt < 100))) ∧ ((Mo_used r.1).toInt = (Mo_used sMo).toInt) ∧ ((Mo_taped r.1).toInt = (Mo_taped sMo).toInt)) := by
  unfold Mod_put
  refine So.bd (t_Mod_isSubset ) fun q1 h_1 => ?_
  have p_2 := h_1
  refine So.ite (fun c_3 => ?_) (fun c_3 => ?_)
  · rw [i_eq] at c_3
    have k_4 : (0 : Int32).toInt = 0 := by decide
    unfold Mod_put_j22
    unfold Mod_put_j23
    refine So.lt2 fun sMo_5 e_5 => ?_
    have I_6 : I_Mo sMo_5 := by rw [e_5]; exact (I_Mo_set_thrown I_sMo)
    have k_7 : (1 : Int32).toInt = 1 := by decide
    have f_8 : (Mo_thrown sMo_5).toInt = (1 : Int32).toInt := by subst e_5; rfl
    have f_9 : (Mo_used sMo_5).toInt = (Mo_used sMo).toInt := by subst e_5; rfl
    have f_10 : (Mo_taped sMo_5).toInt = (Mo_taped sMo).toInt := by subst e_5; rfl
    refine So.ite (fun c_11 => ?_) (fun c_11 => ?_)
    · rw [i_eq] at c_11
      have k_12 : (100 : Int32).toInt = 100 := by decide
      first | have f_13 := i_mull 100 a0 (100) (by decide) (by omega) (by omega) | have f_13 := i_mullm 100 a0 (100) (by decide)
      first | have f_14 := i_add (a := (100 * a0)) (b := a1) (by omega) (by omega) | have f_14 := i_addm (100 * a0) a1
      refine So.gd (i_in.mpr (by omega)) ?_
      refine So.lt2 fun sMvalues_7 e_15 => ?_
      exact So.one ⟨I_6, (by show ((Mo_thrown sMo_5).toInt = 0 ∧ (0 ≤ a0.toInt ∧ a0.toInt < 8 ∧ 0 ≤ a1.toInt ∧ a1.toInt < 100)) ∨ ((Mo_thrown sMo_5).toInt = 1 ∧ ¬ (0 ≤ a0.toInt ∧ a0.toInt < 8 ∧ 0 ≤ a1.toInt ∧ a1.toInt < 100)); omega), (by show (Mo_used sMo_5).toInt = (Mo_used sMo).toInt; omega), (by show (Mo_taped sMo_5).toInt = (Mo_taped sMo).toInt; omega)⟩
    · rw [i_eq] at c_11
      exact So.one ⟨I_6, (by show ((Mo_thrown sMo_5).toInt = 0 ∧ (0 ≤ a0.toInt ∧ a0.toInt < 8 ∧ 0 ≤ a1.toInt ∧ a1.toInt < 100)) ∨ ((Mo_thrown sMo_5).toInt = 1 ∧ ¬ (0 ≤ a0.toInt ∧ a0.toInt < 8 ∧ 0 ≤ a1.toInt ∧ a1.toInt < 100)); omega), (by show (Mo_used sMo_5).toInt = (Mo_used sMo).toInt; omega), (by show (Mo_taped sMo_5).toInt = (Mo_taped sMo).toInt; omega)⟩
  · rw [i_eq] at c_3
    have k_16 : (0 : Int32).toInt = 0 := by decide
    refine So.ite (fun c_17 => ?_) (fun c_17 => ?_)
    · rw [i_lt] at c_17
      unfold Mod_put_j22
      unfold Mod_put_j23
      refine So.lt2 fun sMo_5 e_18 => ?_
      have I_19 : I_Mo sMo_5 := by rw [e_18]; exact (I_Mo_set_thrown I_sMo)
      have k_20 : (1 : Int32).toInt = 1 := by decide
      have f_21 : (Mo_thrown sMo_5).toInt = (1 : Int32).toInt := by subst e_18; rfl
      have f_22 : (Mo_used sMo_5).toInt = (Mo_used sMo).toInt := by subst e_18; rfl
      have f_23 : (Mo_taped sMo_5).toInt = (Mo_taped sMo).toInt := by subst e_18; rfl
      refine So.ite (fun c_24 => ?_) (fun c_24 => ?_)
      · rw [i_eq] at c_24
        have k_25 : (100 : Int32).toInt = 100 := by decide
        first | have f_26 := i_mull 100 a0 (100) (by decide) (by omega) (by omega) | have f_26 := i_mullm 100 a0 (100) (by decide)
        first | have f_27 := i_add (a := (100 * a0)) (b := a1) (by omega) (by omega) | have f_27 := i_addm (100 * a0) a1
        refine So.gd (i_in.mpr (by omega)) ?_
        refine So.lt2 fun sMvalues_7 e_28 => ?_
        exact So.one ⟨I_19, (by show ((Mo_thrown sMo_5).toInt = 0 ∧ (0 ≤ a0.toInt ∧ a0.toInt < 8 ∧ 0 ≤ a1.toInt ∧ a1.toInt < 100)) ∨ ((Mo_thrown sMo_5).toInt = 1 ∧ ¬ (0 ≤ a0.toInt ∧ a0.toInt < 8 ∧ 0 ≤ a1.toInt ∧ a1.toInt < 100)); omega), (by show (Mo_used sMo_5).toInt = (Mo_used sMo).toInt; omega), (by show (Mo_taped sMo_5).toInt = (Mo_taped sMo).toInt; omega)⟩
      · rw [i_eq] at c_24
        exact So.one ⟨I_19, (by show ((Mo_thrown sMo_5).toInt = 0 ∧ (0 ≤ a0.toInt ∧ a0.toInt < 8 ∧ 0 ≤ a1.toInt ∧ a1.toInt < 100)) ∨ ((Mo_thrown sMo_5).toInt = 1 ∧ ¬ (0 ≤ a0.toInt ∧ a0.toInt < 8 ∧ 0 ≤ a1.toInt ∧ a1.toInt < 100)); omega), (by show (Mo_used sMo_5).toInt = (Mo_used sMo).toInt; omega), (by show (Mo_taped sMo_5).toInt = (Mo_taped sMo).toInt; omega)⟩
    · rw [i_lt] at c_17
      refine So.ite (fun c_29 => ?_) (fun c_29 => ?_)
      · rw [i_le] at c_29
        have k_30 : (100 : Int32).toInt = 100 := by decide
        unfold Mod_put_j22
        unfold Mod_put_j23
        refine So.lt2 fun sMo_5 e_31 => ?_
        have I_32 : I_Mo sMo_5 := by rw [e_31]; exact (I_Mo_set_thrown I_sMo)
        have k_33 : (1 : Int32).toInt = 1 := by decide
        have f_34 : (Mo_thrown sMo_5).toInt = (1 : Int32).toInt := by subst e_31; rfl
        have f_35 : (Mo_used sMo_5).toInt = (Mo_used sMo).toInt := by subst e_31; rfl
        have f_36 : (Mo_taped sMo_5).toInt = (Mo_taped sMo).toInt := by subst e_31; rfl
        refine So.ite (fun c_37 => ?_) (fun c_37 => ?_)
        · rw [i_eq] at c_37
          first | have f_38 := i_mull 100 a0 (100) (by decide) (by omega) (by omega) | have f_38 := i_mullm 100 a0 (100) (by decide)
          first | have f_39 := i_add (a := (100 * a0)) (b := a1) (by omega) (by omega) | have f_39 := i_addm (100 * a0) a1
          refine So.gd (i_in.mpr (by omega)) ?_
          refine So.lt2 fun sMvalues_7 e_40 => ?_
          exact So.one ⟨I_32, (by show ((Mo_thrown sMo_5).toInt = 0 ∧ (0 ≤ a0.toInt ∧ a0.toInt < 8 ∧ 0 ≤ a1.toInt ∧ a1.toInt < 100)) ∨ ((Mo_thrown sMo_5).toInt = 1 ∧ ¬ (0 ≤ a0.toInt ∧ a0.toInt < 8 ∧ 0 ≤ a1.toInt ∧ a1.toInt < 100)); omega), (by show (Mo_used sMo_5).toInt = (Mo_used sMo).toInt; omega), (by show (Mo_taped sMo_5).toInt = (Mo_taped sMo).toInt; omega)⟩
        · rw [i_eq] at c_37
          exact So.one ⟨I_32, (by show ((Mo_thrown sMo_5).toInt = 0 ∧ (0 ≤ a0.toInt ∧ a0.toInt < 8 ∧ 0 ≤ a1.toInt ∧ a1.toInt < 100)) ∨ ((Mo_thrown sMo_5).toInt = 1 ∧ ¬ (0 ≤ a0.toInt ∧ a0.toInt < 8 ∧ 0 ≤ a1.toInt ∧ a1.toInt < 100)); omega), (by show (Mo_used sMo_5).toInt = (Mo_used sMo).toInt; omega), (by show (Mo_taped sMo_5).toInt = (Mo_taped sMo).toInt; omega)⟩
      · rw [i_le] at c_29
        have k_41 : (100 : Int32).toInt = 100 := by decide
        unfold Mod_put_j23
        refine So.lt2 fun sMo_5 e_42 => ?_
        have I_43 : I_Mo sMo_5 := by rw [e_42]; exact (I_Mo_set_thrown I_sMo)
        have f_44 : (Mo_thrown sMo_5).toInt = (0 : Int32).toInt := by subst e_42; rfl
        have f_45 : (Mo_used sMo_5).toInt = (Mo_used sMo).toInt := by subst e_42; rfl
        have f_46 : (Mo_taped sMo_5).toInt = (Mo_taped sMo).toInt := by subst e_42; rfl
        refine So.ite (fun c_47 => ?_) (fun c_47 => ?_)
        · rw [i_eq] at c_47
          first | have f_48 := i_mull 100 a0 (100) (by decide) (by omega) (by omega) | have f_48 := i_mullm 100 a0 (100) (by decide)
          first | have f_49 := i_add (a := (100 * a0)) (b := a1) (by omega) (by omega) | have f_49 := i_addm (100 * a0) a1
          refine So.gd (i_in.mpr (by omega)) ?_
          refine So.lt2 fun sMvalues_7 e_50 => ?_
          exact So.one ⟨I_43, (by show ((Mo_thrown sMo_5).toInt = 0 ∧ (0 ≤ a0.toInt ∧ a0.toInt < 8 ∧ 0 ≤ a1.toInt ∧ a1.toInt < 100)) ∨ ((Mo_thrown sMo_5).toInt = 1 ∧ ¬ (0 ≤ a0.toInt ∧ a0.toInt < 8 ∧ 0 ≤ a1.toInt ∧ a1.toInt < 100)); omega), (by show (Mo_used sMo_5).toInt = (Mo_used sMo).toInt; omega), (by show (Mo_taped sMo_5).toInt = (Mo_taped sMo).toInt; omega)⟩
        · rw [i_eq] at c_47
          exact So.one ⟨I_43, (by show ((Mo_thrown sMo_5).toInt = 0 ∧ (0 ≤ a0.toInt ∧ a0.toInt < 8 ∧ 0 ≤ a1.toInt ∧ a1.toInt < 100)) ∨ ((Mo_thrown sMo_5).toInt = 1 ∧ ¬ (0 ≤ a0.toInt ∧ a0.toInt < 8 ∧ 0 ≤ a1.toInt ∧ a1.toInt < 100)); omega), (by show (Mo_used sMo_5).toInt = (Mo_used sMo).toInt; omega), (by show (Mo_taped sMo_5).toInt = (Mo_taped sMo).toInt; omega)⟩
theorem t_Mod_get {sMvalues : (Nat → Int64)} {a0 : Int32} {a1 : Int32} {sMo : S_Mo} (I_sMo : I_Mo sMo) : So (Mod_get sMvalues a0 a1 sMo) (fun r => I_Mo r.2 ∧ ((Mo_used r.2).toInt = (Mo_used sMo).toInt) ∧ ((Mo_taped r.2).toInt = (Mo_taped sMo).toInt)) := by
  unfold Mod_get
  refine So.bd (t_Mod_isSubset ) fun q1 h_1 => ?_
  have p_2 := h_1
  refine So.ite (fun c_3 => ?_) (fun c_3 => ?_)
  · rw [i_eq] at c_3
    have k_4 : (0 : Int32).toInt = 0 := by decide
    unfold Mod_get_j22
    unfold Mod_get_j23
    refine So.lt2 fun sMo_5 e_5 => ?_
    have I_6 : I_Mo sMo_5 := by rw [e_5]; exact (I_Mo_set_thrown I_sMo)
    have k_7 : (1 : Int32).toInt = 1 := by decide
    have f_8 : (Mo_thrown sMo_5).toInt = (1 : Int32).toInt := by subst e_5; rfl
    have f_9 : (Mo_used sMo_5).toInt = (Mo_used sMo).toInt := by subst e_5; rfl
    have f_10 : (Mo_taped sMo_5).toInt = (Mo_taped sMo).toInt := by subst e_5; rfl
    refine So.ite (fun c_11 => ?_) (fun c_11 => ?_)
    · rw [i_eq] at c_11
      have k_12 : (100 : Int32).toInt = 100 := by decide
      first | have f_13 := i_mull 100 a0 (100) (by decide) (by omega) (by omega) | have f_13 := i_mullm 100 a0 (100) (by decide)
      first | have f_14 := i_add (a := (100 * a0)) (b := a1) (by omega) (by omega) | have f_14 := i_addm (100 * a0) a1
      refine So.gd (i_in.mpr (by omega)) ?_
      exact So.one ⟨I_6, (by show (Mo_used sMo_5).toInt = (Mo_used sMo).toInt; omega), (by show (Mo_taped sMo_5).toInt = (Mo_taped sMo).toInt; omega)⟩
    · rw [i_eq] at c_11
      exact So.one ⟨I_6, (by show (Mo_used sMo_5).toInt = (Mo_used sMo).toInt; omega), (by show (Mo_taped sMo_5).toInt = (Mo_taped sMo).toInt; omega)⟩
  · rw [i_eq] at c_3
    have k_15 : (0 : Int32).toInt = 0 := by decide
    refine So.ite (fun c_16 => ?_) (fun c_16 => ?_)
    · rw [i_lt] at c_16
      unfold Mod_get_j22
      unfold Mod_get_j23
      refine So.lt2 fun sMo_5 e_17 => ?_
      have I_18 : I_Mo sMo_5 := by rw [e_17]; exact (I_Mo_set_thrown I_sMo)
      have k_19 : (1 : Int32).toInt = 1 := by decide
      have f_20 : (Mo_thrown sMo_5).toInt = (1 : Int32).toInt := by subst e_17; rfl
      have f_21 : (Mo_used sMo_5).toInt = (Mo_used sMo).toInt := by subst e_17; rfl
      have f_22 : (Mo_taped sMo_5).toInt = (Mo_taped sMo).toInt := by subst e_17; rfl
      refine So.ite (fun c_23 => ?_) (fun c_23 => ?_)
      · rw [i_eq] at c_23
        have k_24 : (100 : Int32).toInt = 100 := by decide
        first | have f_25 := i_mull 100 a0 (100) (by decide) (by omega) (by omega) | have f_25 := i_mullm 100 a0 (100) (by decide)
        first | have f_26 := i_add (a := (100 * a0)) (b := a1) (by omega) (by omega) | have f_26 := i_addm (100 * a0) a1
        refine So.gd (i_in.mpr (by omega)) ?_
        exact So.one ⟨I_18, (by show (Mo_used sMo_5).toInt = (Mo_used sMo).toInt; omega), (by show (Mo_taped sMo_5).toInt = (Mo_taped sMo).toInt; omega)⟩
      · rw [i_eq] at c_23
        exact So.one ⟨I_18, (by show (Mo_used sMo_5).toInt = (Mo_used sMo).toInt; omega), (by show (Mo_taped sMo_5).toInt = (Mo_taped sMo).toInt; omega)⟩
    · rw [i_lt] at c_16
      refine So.ite (fun c_27 => ?_) (fun c_27 => ?_)
      · rw [i_le] at c_27
        have k_28 : (100 : Int32).toInt = 100 := by decide
        unfold Mod_get_j22
        unfold Mod_get_j23
        refine So.lt2 fun sMo_5 e_29 => ?_
        have I_30 : I_Mo sMo_5 := by rw [e_29]; exact (I_Mo_set_thrown I_sMo)
        have k_31 : (1 : Int32).toInt = 1 := by decide
        have f_32 : (Mo_thrown sMo_5).toInt = (1 : Int32).toInt := by subst e_29; rfl
        have f_33 : (Mo_used sMo_5).toInt = (Mo_used sMo).toInt := by subst e_29; rfl
        have f_34 : (Mo_taped sMo_5).toInt = (Mo_taped sMo).toInt := by subst e_29; rfl
        refine So.ite (fun c_35 => ?_) (fun c_35 => ?_)
        · rw [i_eq] at c_35
          first | have f_36 := i_mull 100 a0 (100) (by decide) (by omega) (by omega) | have f_36 := i_mullm 100 a0 (100) (by decide)
          first | have f_37 := i_add (a := (100 * a0)) (b := a1) (by omega) (by omega) | have f_37 := i_addm (100 * a0) a1
          refine So.gd (i_in.mpr (by omega)) ?_
          exact So.one ⟨I_30, (by show (Mo_used sMo_5).toInt = (Mo_used sMo).toInt; omega), (by show (Mo_taped sMo_5).toInt = (Mo_taped sMo).toInt; omega)⟩
        · rw [i_eq] at c_35
          exact So.one ⟨I_30, (by show (Mo_used sMo_5).toInt = (Mo_used sMo).toInt; omega), (by show (Mo_taped sMo_5).toInt = (Mo_taped sMo).toInt; omega)⟩
      · rw [i_le] at c_27
        have k_38 : (100 : Int32).toInt = 100 := by decide
        unfold Mod_get_j23
        refine So.lt2 fun sMo_5 e_39 => ?_
        have I_40 : I_Mo sMo_5 := by rw [e_39]; exact (I_Mo_set_thrown I_sMo)
        have f_41 : (Mo_thrown sMo_5).toInt = (0 : Int32).toInt := by subst e_39; rfl
        have f_42 : (Mo_used sMo_5).toInt = (Mo_used sMo).toInt := by subst e_39; rfl
        have f_43 : (Mo_taped sMo_5).toInt = (Mo_taped sMo).toInt := by subst e_39; rfl
        refine So.ite (fun c_44 => ?_) (fun c_44 => ?_)
        · rw [i_eq] at c_44
          first | have f_45 := i_mull 100 a0 (100) (by decide) (by omega) (by omega) | have f_45 := i_mullm 100 a0 (100) (by decide)
          first | have f_46 := i_add (a := (100 * a0)) (b := a1) (by omega) (by omega) | have f_46 := i_addm (100 * a0) a1
          refine So.gd (i_in.mpr (by omega)) ?_
          exact So.one ⟨I_40, (by show (Mo_used sMo_5).toInt = (Mo_used sMo).toInt; omega), (by show (Mo_taped sMo_5).toInt = (Mo_taped sMo).toInt; omega)⟩
        · rw [i_eq] at c_44
          exact So.one ⟨I_40, (by show (Mo_used sMo_5).toInt = (Mo_used sMo).toInt; omega), (by show (Mo_taped sMo_5).toInt = (Mo_taped sMo).toInt; omega)⟩
theorem t_Mod_fault {a0 : Int32} {sMo : S_Mo} (I_sMo : I_Mo sMo) : So (Mod_fault a0 sMo) (fun r => I_Mo r.2 ∧ ((Mo_used r.2).toInt = (Mo_used sMo).toInt) ∧ ((Mo_taped r.2).toInt = (Mo_taped sMo).toInt)) := by
  unfold Mod_fault
  refine So.lt2 fun sMo_1 e_1 => ?_
  have I_2 : I_Mo sMo_1 := by rw [e_1]; exact (I_Mo_set_thrown I_sMo)
  have k_3 : (0 : Int32).toInt = 0 := by decide
  have f_4 : (Mo_used sMo_1).toInt = (Mo_used sMo).toInt := by subst e_1; rfl
  have f_5 : (Mo_fault sMo_1).toInt = (Mo_fault sMo).toInt := by subst e_1; rfl
  have f_6 : (Mo_place sMo_1).toInt = (Mo_place sMo).toInt := by subst e_1; rfl
  have f_7 : (Mo_taped sMo_1).toInt = (Mo_taped sMo).toInt := by subst e_1; rfl
  refine So.ite (fun c_8 => ?_) (fun c_8 => ?_)
  · rw [i_eq] at c_8
    exact So.one ⟨I_2, (by show (Mo_used sMo_1).toInt = (Mo_used sMo).toInt; omega), (by show (Mo_taped sMo_1).toInt = (Mo_taped sMo).toInt; omega)⟩
  · rw [i_eq] at c_8
    refine So.ite (fun c_9 => ?_) (fun c_9 => ?_)
    · rw [i_eq] at c_9
      have k_10 : (1 : Int32).toInt = 1 := by decide
      exact So.one ⟨I_2, (by show (Mo_used sMo_1).toInt = (Mo_used sMo).toInt; omega), (by show (Mo_taped sMo_1).toInt = (Mo_taped sMo).toInt; omega)⟩
    · rw [i_eq] at c_9
      have k_11 : (1 : Int32).toInt = 1 := by decide
      exact So.one ⟨I_2, (by show (Mo_used sMo_1).toInt = (Mo_used sMo).toInt; omega), (by show (Mo_taped sMo_1).toInt = (Mo_taped sMo).toInt; omega)⟩
theorem t_Mod_packedAt {sMpacked : (Nat → Int64)} {a0 : Int32} {sMo : S_Mo} (I_sMo : I_Mo sMo) : So (Mod_packedAt sMpacked a0 sMo) (fun r => I_Mo r.2 ∧ ((Mo_used r.2).toInt = (Mo_used sMo).toInt) ∧ ((Mo_taped r.2).toInt = (Mo_taped sMo).toInt)) := by
  unfold Mod_packedAt
  refine So.lt2 fun sMo_1 e_1 => ?_
  have I_2 : I_Mo sMo_1 := by rw [e_1]; exact (I_Mo_set_thrown I_sMo)
  have k_3 : (0 : Int32).toInt = 0 := by decide
  have f_4 : (Mo_used sMo_1).toInt = (Mo_used sMo).toInt := by subst e_1; rfl
  have f_5 : (Mo_taped sMo_1).toInt = (Mo_taped sMo).toInt := by subst e_1; rfl
  refine So.ite (fun c_6 => ?_) (fun c_6 => ?_)
  · rw [i_lt] at c_6
    exact So.one ⟨I_2, (by show (Mo_used sMo_1).toInt = (Mo_used sMo).toInt; omega), (by show (Mo_taped sMo_1).toInt = (Mo_taped sMo).toInt; omega)⟩
  · rw [i_lt] at c_6
    refine So.ite (fun c_7 => ?_) (fun c_7 => ?_)
    · rw [i_le] at c_7
      have k_8 : (63 : Int32).toInt = 63 := by decide
      refine So.gd (i_in.mpr (by omega)) ?_
      exact So.one ⟨I_2, (by show (Mo_used sMo_1).toInt = (Mo_used sMo).toInt; omega), (by show (Mo_taped sMo_1).toInt = (Mo_taped sMo).toInt; omega)⟩
    · rw [i_le] at c_7
      have k_9 : (63 : Int32).toInt = 63 := by decide
      exact So.one ⟨I_2, (by show (Mo_used sMo_1).toInt = (Mo_used sMo).toInt; omega), (by show (Mo_taped sMo_1).toInt = (Mo_taped sMo).toInt; omega)⟩
theorem t_Mod_group {sMcost : (Nat → Int64)} {sMends : (Nat → Int32)} {a0 : Int32} {sMo : S_Mo} (I_sMo : I_Mo sMo) : So (Mod_group sMcost sMends a0 sMo) (fun r => I_Mo r.2 ∧ ((Mo_used r.2).toInt = (Mo_used sMo).toInt) ∧ ((Mo_taped r.2).toInt = (Mo_taped sMo).toInt)) := by
  unfold Mod_group
  refine So.lt2 fun sMo_1 e_1 => ?_
  have I_2 : I_Mo sMo_1 := by rw [e_1]; exact (I_Mo_set_thrown I_sMo)
  have k_3 : (0 : Int32).toInt = 0 := by decide
  have f_4 : (Mo_used sMo_1).toInt = (Mo_used sMo).toInt := by subst e_1; rfl
  have f_5 : (Mo_taped sMo_1).toInt = (Mo_taped sMo).toInt := by subst e_1; rfl
  have f_6 : (Mo_codes sMo_1).toInt = (Mo_codes sMo).toInt := by subst e_1; rfl
  have f_7 : (Mo_groups sMo_1).toInt = (Mo_groups sMo).toInt := by subst e_1; rfl
  refine So.ite (fun c_8 => ?_) (fun c_8 => ?_)
  · rw [i_le] at c_8
    have f_9 := I_Mo_codes I_2
    refine So.ite (fun c_10 => ?_) (fun c_10 => ?_)
    · rw [i_eq] at c_10
      have k_11 : ((-1) : Int32).toInt = -1 := by decide
      exact So.one ⟨I_2, (by show (Mo_used sMo_1).toInt = (Mo_used sMo).toInt; omega), (by show (Mo_taped sMo_1).toInt = (Mo_taped sMo).toInt; omega)⟩
    · rw [i_eq] at c_10
      have k_12 : ((-1) : Int32).toInt = -1 := by decide
      refine So.ite (fun c_13 => ?_) (fun c_13 => ?_)
      · rw [i_eq] at c_13
        have k_14 : ((-2) : Int32).toInt = -2 := by decide
        refine So.gd (i_in.mpr (by omega)) ?_
        exact So.one ⟨I_2, (by show (Mo_used sMo_1).toInt = (Mo_used sMo).toInt; omega), (by show (Mo_taped sMo_1).toInt = (Mo_taped sMo).toInt; omega)⟩
      · rw [i_eq] at c_13
        have k_15 : ((-2) : Int32).toInt = -2 := by decide
        refine So.ite (fun c_16 => ?_) (fun c_16 => ?_)
        · rw [i_lt] at c_16
          exact So.one ⟨I_2, (by show (Mo_used sMo_1).toInt = (Mo_used sMo).toInt; omega), (by show (Mo_taped sMo_1).toInt = (Mo_taped sMo).toInt; omega)⟩
        · rw [i_lt] at c_16
          refine So.ite (fun c_17 => ?_) (fun c_17 => ?_)
          · rw [i_le] at c_17
            have f_18 := I_Mo_groups I_2
            exact So.one ⟨I_2, (by show (Mo_used sMo_1).toInt = (Mo_used sMo).toInt; omega), (by show (Mo_taped sMo_1).toInt = (Mo_taped sMo).toInt; omega)⟩
          · rw [i_le] at c_17
            have f_19 := I_Mo_groups I_2
            refine So.gd (i_in.mpr (by omega)) ?_
            exact So.one ⟨I_2, (by show (Mo_used sMo_1).toInt = (Mo_used sMo).toInt; omega), (by show (Mo_taped sMo_1).toInt = (Mo_taped sMo).toInt; omega)⟩
  · rw [i_le] at c_8
    have f_20 := I_Mo_codes I_2
    exact So.one ⟨I_2, (by show (Mo_used sMo_1).toInt = (Mo_used sMo).toInt; omega), (by show (Mo_taped sMo_1).toInt = (Mo_taped sMo).toInt; omega)⟩
theorem t_Mod_inOrder {a0 : Int32} (g_0 : 0 ≤ a0.toInt) (g_1 : a0.toInt < 64) : So (Mod_inOrder a0) (fun r => (0 ≤ r.toInt) ∧ (r.toInt < 64)) := by
  unfold Mod_inOrder
  refine So.ite (fun c_1 => ?_) (fun c_1 => ?_)
  · rw [i_eq] at c_1
    have k_2 : (8 : Int32).toInt = 8 := by decide
    first | have f_3 := i_divk a0 8 8 (by decide) (by decide) (by omega) | have f_3 := i_diva a0 8 8 (by decide) (by decide)
    have k_4 : (2 : Int32).toInt = 2 := by decide
    first | have f_5 := i_divk (a0 / 8) 2 2 (by decide) (by decide) (by omega) | have f_5 := i_diva (a0 / 8) 2 2 (by decide) (by decide)
    first | have f_6 := i_mulr ((a0 / 8) / 2) 2 (2) (by decide) (by omega) (by omega) | have f_6 := i_mulrm ((a0 / 8) / 2) 2 (2) (by decide)
    first | have f_7 := i_sub (a := (a0 / 8)) (b := (((a0 / 8) / 2) * 2)) (by omega) (by omega) | have f_7 := i_subm (a0 / 8) (((a0 / 8) / 2) * 2)
    have k_8 : (0 : Int32).toInt = 0 := by decide
    exact So.one ⟨(by show 0 ≤ (a0 : Int32).toInt; omega), (by show (a0 : Int32).toInt < 64; omega)⟩
  · rw [i_eq] at c_1
    have k_9 : (8 : Int32).toInt = 8 := by decide
    first | have f_10 := i_divk a0 8 8 (by decide) (by decide) (by omega) | have f_10 := i_diva a0 8 8 (by decide) (by decide)
    have k_11 : (2 : Int32).toInt = 2 := by decide
    first | have f_12 := i_divk (a0 / 8) 2 2 (by decide) (by decide) (by omega) | have f_12 := i_diva (a0 / 8) 2 2 (by decide) (by decide)
    first | have f_13 := i_mulr ((a0 / 8) / 2) 2 (2) (by decide) (by omega) (by omega) | have f_13 := i_mulrm ((a0 / 8) / 2) 2 (2) (by decide)
    first | have f_14 := i_sub (a := (a0 / 8)) (b := (((a0 / 8) / 2) * 2)) (by omega) (by omega) | have f_14 := i_subm (a0 / 8) (((a0 / 8) / 2) * 2)
    have k_15 : (0 : Int32).toInt = 0 := by decide
    first | have f_16 := i_mull 8 (a0 / 8) (8) (by decide) (by omega) (by omega) | have f_16 := i_mullm 8 (a0 / 8) (8) (by decide)
    have k_17 : (7 : Int32).toInt = 7 := by decide
    first | have f_18 := i_add (a := (8 * (a0 / 8))) (b := 7) (by omega) (by omega) | have f_18 := i_addm (8 * (a0 / 8)) 7
    first | have f_19 := i_mulr (a0 / 8) 8 (8) (by decide) (by omega) (by omega) | have f_19 := i_mulrm (a0 / 8) 8 (8) (by decide)
    first | have f_20 := i_sub (a := a0) (b := ((a0 / 8) * 8)) (by omega) (by omega) | have f_20 := i_subm a0 ((a0 / 8) * 8)
    first | have f_21 := i_sub (a := ((8 * (a0 / 8)) + 7)) (b := (a0 - ((a0 / 8) * 8))) (by omega) (by omega) | have f_21 := i_subm ((8 * (a0 / 8)) + 7) (a0 - ((a0 / 8) * 8))
    exact So.one ⟨(by show 0 ≤ ((((8 * (a0 / 8)) + 7) - (a0 - ((a0 / 8) * 8))) : Int32).toInt; omega), (by show ((((8 * (a0 / 8)) + 7) - (a0 - ((a0 / 8) * 8))) : Int32).toInt < 64; omega)⟩
theorem t_Mod_point {a0 : Int32} {a1 : Int64} {sMo : S_Mo} {sMpoints : (Nat → Int64)} (I_sMo : I_Mo sMo) : So (Mod_point a0 a1 sMo sMpoints) (fun r => I_Mo r.1 ∧ (((Mo_thrown r.1).toInt = 1 ∧ ¬ (0 ≤ a0.toInt ∧ a0.toInt < 64)) ∨ ((Mo_thrown r.1).toInt = 2 ∧ (0 ≤ a0.toInt ∧ a0.toInt < 64) ∧ ¬ (a1.toInt = -9000000000000000000 ∨ (-2000000000 ≤ a1.toInt ∧ a1.toInt ≤ 2000000000))) ∨ ((Mo_thrown r.1).toInt = 0 ∧ (0 ≤ a0.toInt ∧ a0.toInt < 64) ∧ (a1.toInt = -9000000000000000000 ∨ (-2000000000 ≤ a1.toInt ∧ a1.toInt ≤ 2000000000)))) ∧ ((Mo_used r.1).toInt = (Mo_used sMo).toInt) ∧ ((Mo_taped r.1).toInt = (Mo_taped sMo).toInt)) := by
  unfold Mod_point
  refine So.ite (fun c_1 => ?_) (fun c_1 => ?_)
  · rw [i_lt] at c_1
    have k_2 : (0 : Int32).toInt = 0 := by decide
    unfold Mod_point_j11
    unfold Mod_point_j44
    refine So.lt2 fun sMo_6 e_3 => ?_
    have I_4 : I_Mo sMo_6 := by rw [e_3]; exact (I_Mo_set_thrown I_sMo)
    have k_5 : (1 : Int32).toInt = 1 := by decide
    have f_6 : (Mo_thrown sMo_6).toInt = (1 : Int32).toInt := by subst e_3; rfl
    have f_7 : (Mo_used sMo_6).toInt = (Mo_used sMo).toInt := by subst e_3; rfl
    have f_8 : (Mo_taped sMo_6).toInt = (Mo_taped sMo).toInt := by subst e_3; rfl
    refine So.ite (fun c_9 => ?_) (fun c_9 => ?_)
    · rw [i_eq] at c_9
      refine So.gd (i_in.mpr (by omega)) ?_
      refine So.lt2 fun sMpoints_8 e_10 => ?_
      exact So.one ⟨I_4, (by show ((Mo_thrown sMo_6).toInt = 1 ∧ ¬ (0 ≤ a0.toInt ∧ a0.toInt < 64)) ∨ ((Mo_thrown sMo_6).toInt = 2 ∧ (0 ≤ a0.toInt ∧ a0.toInt < 64) ∧ ¬ (a1.toInt = -9000000000000000000 ∨ (-2000000000 ≤ a1.toInt ∧ a1.toInt ≤ 2000000000))) ∨ ((Mo_thrown sMo_6).toInt = 0 ∧ (0 ≤ a0.toInt ∧ a0.toInt < 64) ∧ (a1.toInt = -9000000000000000000 ∨ (-2000000000 ≤ a1.toInt ∧ a1.toInt ≤ 2000000000))); omega), (by show (Mo_used sMo_6).toInt = (Mo_used sMo).toInt; omega), (by show (Mo_taped sMo_6).toInt = (Mo_taped sMo).toInt; omega)⟩
    · rw [i_eq] at c_9
      exact So.one ⟨I_4, (by show ((Mo_thrown sMo_6).toInt = 1 ∧ ¬ (0 ≤ a0.toInt ∧ a0.toInt < 64)) ∨ ((Mo_thrown sMo_6).toInt = 2 ∧ (0 ≤ a0.toInt ∧ a0.toInt < 64) ∧ ¬ (a1.toInt = -9000000000000000000 ∨ (-2000000000 ≤ a1.toInt ∧ a1.toInt ≤ 2000000000))) ∨ ((Mo_thrown sMo_6).toInt = 0 ∧ (0 ≤ a0.toInt ∧ a0.toInt < 64) ∧ (a1.toInt = -9000000000000000000 ∨ (-2000000000 ≤ a1.toInt ∧ a1.toInt ≤ 2000000000))); omega), (by show (Mo_used sMo_6).toInt = (Mo_used sMo).toInt; omega), (by show (Mo_taped sMo_6).toInt = (Mo_taped sMo).toInt; omega)⟩
  · rw [i_lt] at c_1
    have k_11 : (0 : Int32).toInt = 0 := by decide
    refine So.ite (fun c_12 => ?_) (fun c_12 => ?_)
    · rw [i_le] at c_12
      have k_13 : (63 : Int32).toInt = 63 := by decide
      refine So.ite (fun c_14 => ?_) (fun c_14 => ?_)
      · rw [i64_eq] at c_14
        have k_15 : ((-9000000000000000000) : Int64).toInt = -9000000000000000000 := by decide
        unfold Mod_point_j43
        unfold Mod_point_j44
        refine So.lt2 fun sMo_6 e_16 => ?_
        have I_17 : I_Mo sMo_6 := by rw [e_16]; exact (I_Mo_set_thrown I_sMo)
        have f_18 : (Mo_thrown sMo_6).toInt = (0 : Int32).toInt := by subst e_16; rfl
        have f_19 : (Mo_used sMo_6).toInt = (Mo_used sMo).toInt := by subst e_16; rfl
        have f_20 : (Mo_taped sMo_6).toInt = (Mo_taped sMo).toInt := by subst e_16; rfl
        refine So.ite (fun c_21 => ?_) (fun c_21 => ?_)
        · rw [i_eq] at c_21
          refine So.gd (i_in.mpr (by omega)) ?_
          refine So.lt2 fun sMpoints_8 e_22 => ?_
          exact So.one ⟨I_17, (by show ((Mo_thrown sMo_6).toInt = 1 ∧ ¬ (0 ≤ a0.toInt ∧ a0.toInt < 64)) ∨ ((Mo_thrown sMo_6).toInt = 2 ∧ (0 ≤ a0.toInt ∧ a0.toInt < 64) ∧ ¬ (a1.toInt = -9000000000000000000 ∨ (-2000000000 ≤ a1.toInt ∧ a1.toInt ≤ 2000000000))) ∨ ((Mo_thrown sMo_6).toInt = 0 ∧ (0 ≤ a0.toInt ∧ a0.toInt < 64) ∧ (a1.toInt = -9000000000000000000 ∨ (-2000000000 ≤ a1.toInt ∧ a1.toInt ≤ 2000000000))); omega), (by show (Mo_used sMo_6).toInt = (Mo_used sMo).toInt; omega), (by show (Mo_taped sMo_6).toInt = (Mo_taped sMo).toInt; omega)⟩
        · rw [i_eq] at c_21
          exact So.one ⟨I_17, (by show ((Mo_thrown sMo_6).toInt = 1 ∧ ¬ (0 ≤ a0.toInt ∧ a0.toInt < 64)) ∨ ((Mo_thrown sMo_6).toInt = 2 ∧ (0 ≤ a0.toInt ∧ a0.toInt < 64) ∧ ¬ (a1.toInt = -9000000000000000000 ∨ (-2000000000 ≤ a1.toInt ∧ a1.toInt ≤ 2000000000))) ∨ ((Mo_thrown sMo_6).toInt = 0 ∧ (0 ≤ a0.toInt ∧ a0.toInt < 64) ∧ (a1.toInt = -9000000000000000000 ∨ (-2000000000 ≤ a1.toInt ∧ a1.toInt ≤ 2000000000))); omega), (by show (Mo_used sMo_6).toInt = (Mo_used sMo).toInt; omega), (by show (Mo_taped sMo_6).toInt = (Mo_taped sMo).toInt; omega)⟩
      · rw [i64_eq] at c_14
        have k_23 : ((-9000000000000000000) : Int64).toInt = -9000000000000000000 := by decide
        refine So.ite (fun c_24 => ?_) (fun c_24 => ?_)
        · rw [i64_lt] at c_24
          have k_25 : ((-2000000000) : Int64).toInt = -2000000000 := by decide
          unfold Mod_point_j39
          unfold Mod_point_j44
          refine So.lt2 fun sMo_6 e_26 => ?_
          have I_27 : I_Mo sMo_6 := by rw [e_26]; exact (I_Mo_set_thrown I_sMo)
          have k_28 : (2 : Int32).toInt = 2 := by decide
          have f_29 : (Mo_thrown sMo_6).toInt = (2 : Int32).toInt := by subst e_26; rfl
          have f_30 : (Mo_used sMo_6).toInt = (Mo_used sMo).toInt := by subst e_26; rfl
          have f_31 : (Mo_taped sMo_6).toInt = (Mo_taped sMo).toInt := by subst e_26; rfl
          refine So.ite (fun c_32 => ?_) (fun c_32 => ?_)
          · rw [i_eq] at c_32
            refine So.gd (i_in.mpr (by omega)) ?_
            refine So.lt2 fun sMpoints_8 e_33 => ?_
            exact So.one ⟨I_27, (by show ((Mo_thrown sMo_6).toInt = 1 ∧ ¬ (0 ≤ a0.toInt ∧ a0.toInt < 64)) ∨ ((Mo_thrown sMo_6).toInt = 2 ∧ (0 ≤ a0.toInt ∧ a0.toInt < 64) ∧ ¬ (a1.toInt = -9000000000000000000 ∨ (-2000000000 ≤ a1.toInt ∧ a1.toInt ≤ 2000000000))) ∨ ((Mo_thrown sMo_6).toInt = 0 ∧ (0 ≤ a0.toInt ∧ a0.toInt < 64) ∧ (a1.toInt = -9000000000000000000 ∨ (-2000000000 ≤ a1.toInt ∧ a1.toInt ≤ 2000000000))); omega), (by show (Mo_used sMo_6).toInt = (Mo_used sMo).toInt; omega), (by show (Mo_taped sMo_6).toInt = (Mo_taped sMo).toInt; omega)⟩
          · rw [i_eq] at c_32
            exact So.one ⟨I_27, (by show ((Mo_thrown sMo_6).toInt = 1 ∧ ¬ (0 ≤ a0.toInt ∧ a0.toInt < 64)) ∨ ((Mo_thrown sMo_6).toInt = 2 ∧ (0 ≤ a0.toInt ∧ a0.toInt < 64) ∧ ¬ (a1.toInt = -9000000000000000000 ∨ (-2000000000 ≤ a1.toInt ∧ a1.toInt ≤ 2000000000))) ∨ ((Mo_thrown sMo_6).toInt = 0 ∧ (0 ≤ a0.toInt ∧ a0.toInt < 64) ∧ (a1.toInt = -9000000000000000000 ∨ (-2000000000 ≤ a1.toInt ∧ a1.toInt ≤ 2000000000))); omega), (by show (Mo_used sMo_6).toInt = (Mo_used sMo).toInt; omega), (by show (Mo_taped sMo_6).toInt = (Mo_taped sMo).toInt; omega)⟩
        · rw [i64_lt] at c_24
          have k_34 : ((-2000000000) : Int64).toInt = -2000000000 := by decide
          refine So.ite (fun c_35 => ?_) (fun c_35 => ?_)
          · rw [i64_le] at c_35
            have k_36 : (2000000000 : Int64).toInt = 2000000000 := by decide
            unfold Mod_point_j43
            unfold Mod_point_j44
            refine So.lt2 fun sMo_6 e_37 => ?_
            have I_38 : I_Mo sMo_6 := by rw [e_37]; exact (I_Mo_set_thrown I_sMo)
            have f_39 : (Mo_thrown sMo_6).toInt = (0 : Int32).toInt := by subst e_37; rfl
            have f_40 : (Mo_used sMo_6).toInt = (Mo_used sMo).toInt := by subst e_37; rfl
            have f_41 : (Mo_taped sMo_6).toInt = (Mo_taped sMo).toInt := by subst e_37; rfl
            refine So.ite (fun c_42 => ?_) (fun c_42 => ?_)
            · rw [i_eq] at c_42
              refine So.gd (i_in.mpr (by omega)) ?_
              refine So.lt2 fun sMpoints_8 e_43 => ?_
              exact So.one ⟨I_38, (by show ((Mo_thrown sMo_6).toInt = 1 ∧ ¬ (0 ≤ a0.toInt ∧ a0.toInt < 64)) ∨ ((Mo_thrown sMo_6).toInt = 2 ∧ (0 ≤ a0.toInt ∧ a0.toInt < 64) ∧ ¬ (a1.toInt = -9000000000000000000 ∨ (-2000000000 ≤ a1.toInt ∧ a1.toInt ≤ 2000000000))) ∨ ((Mo_thrown sMo_6).toInt = 0 ∧ (0 ≤ a0.toInt ∧ a0.toInt < 64) ∧ (a1.toInt = -9000000000000000000 ∨ (-2000000000 ≤ a1.toInt ∧ a1.toInt ≤ 2000000000))); omega), (by show (Mo_used sMo_6).toInt = (Mo_used sMo).toInt; omega), (by show (Mo_taped sMo_6).toInt = (Mo_taped sMo).toInt; omega)⟩
            · rw [i_eq] at c_42
              exact So.one ⟨I_38, (by show ((Mo_thrown sMo_6).toInt = 1 ∧ ¬ (0 ≤ a0.toInt ∧ a0.toInt < 64)) ∨ ((Mo_thrown sMo_6).toInt = 2 ∧ (0 ≤ a0.toInt ∧ a0.toInt < 64) ∧ ¬ (a1.toInt = -9000000000000000000 ∨ (-2000000000 ≤ a1.toInt ∧ a1.toInt ≤ 2000000000))) ∨ ((Mo_thrown sMo_6).toInt = 0 ∧ (0 ≤ a0.toInt ∧ a0.toInt < 64) ∧ (a1.toInt = -9000000000000000000 ∨ (-2000000000 ≤ a1.toInt ∧ a1.toInt ≤ 2000000000))); omega), (by show (Mo_used sMo_6).toInt = (Mo_used sMo).toInt; omega), (by show (Mo_taped sMo_6).toInt = (Mo_taped sMo).toInt; omega)⟩
          · rw [i64_le] at c_35
            have k_44 : (2000000000 : Int64).toInt = 2000000000 := by decide
            unfold Mod_point_j39
            unfold Mod_point_j44
            refine So.lt2 fun sMo_6 e_45 => ?_
            have I_46 : I_Mo sMo_6 := by rw [e_45]; exact (I_Mo_set_thrown I_sMo)
            have k_47 : (2 : Int32).toInt = 2 := by decide
            have f_48 : (Mo_thrown sMo_6).toInt = (2 : Int32).toInt := by subst e_45; rfl
            have f_49 : (Mo_used sMo_6).toInt = (Mo_used sMo).toInt := by subst e_45; rfl
            have f_50 : (Mo_taped sMo_6).toInt = (Mo_taped sMo).toInt := by subst e_45; rfl
            refine So.ite (fun c_51 => ?_) (fun c_51 => ?_)
            · rw [i_eq] at c_51
              refine So.gd (i_in.mpr (by omega)) ?_
              refine So.lt2 fun sMpoints_8 e_52 => ?_
              exact So.one ⟨I_46, (by show ((Mo_thrown sMo_6).toInt = 1 ∧ ¬ (0 ≤ a0.toInt ∧ a0.toInt < 64)) ∨ ((Mo_thrown sMo_6).toInt = 2 ∧ (0 ≤ a0.toInt ∧ a0.toInt < 64) ∧ ¬ (a1.toInt = -9000000000000000000 ∨ (-2000000000 ≤ a1.toInt ∧ a1.toInt ≤ 2000000000))) ∨ ((Mo_thrown sMo_6).toInt = 0 ∧ (0 ≤ a0.toInt ∧ a0.toInt < 64) ∧ (a1.toInt = -9000000000000000000 ∨ (-2000000000 ≤ a1.toInt ∧ a1.toInt ≤ 2000000000))); omega), (by show (Mo_used sMo_6).toInt = (Mo_used sMo).toInt; omega), (by show (Mo_taped sMo_6).toInt = (Mo_taped sMo).toInt; omega)⟩
            · rw [i_eq] at c_51
              exact So.one ⟨I_46, (by show ((Mo_thrown sMo_6).toInt = 1 ∧ ¬ (0 ≤ a0.toInt ∧ a0.toInt < 64)) ∨ ((Mo_thrown sMo_6).toInt = 2 ∧ (0 ≤ a0.toInt ∧ a0.toInt < 64) ∧ ¬ (a1.toInt = -9000000000000000000 ∨ (-2000000000 ≤ a1.toInt ∧ a1.toInt ≤ 2000000000))) ∨ ((Mo_thrown sMo_6).toInt = 0 ∧ (0 ≤ a0.toInt ∧ a0.toInt < 64) ∧ (a1.toInt = -9000000000000000000 ∨ (-2000000000 ≤ a1.toInt ∧ a1.toInt ≤ 2000000000))); omega), (by show (Mo_used sMo_6).toInt = (Mo_used sMo).toInt; omega), (by show (Mo_taped sMo_6).toInt = (Mo_taped sMo).toInt; omega)⟩
    · rw [i_le] at c_12
      have k_53 : (63 : Int32).toInt = 63 := by decide
      unfold Mod_point_j11
      unfold Mod_point_j44
      refine So.lt2 fun sMo_6 e_54 => ?_
      have I_55 : I_Mo sMo_6 := by rw [e_54]; exact (I_Mo_set_thrown I_sMo)
      have k_56 : (1 : Int32).toInt = 1 := by decide
      have f_57 : (Mo_thrown sMo_6).toInt = (1 : Int32).toInt := by subst e_54; rfl
      have f_58 : (Mo_used sMo_6).toInt = (Mo_used sMo).toInt := by subst e_54; rfl
      have f_59 : (Mo_taped sMo_6).toInt = (Mo_taped sMo).toInt := by subst e_54; rfl
      refine So.ite (fun c_60 => ?_) (fun c_60 => ?_)
      · rw [i_eq] at c_60
        refine So.gd (i_in.mpr (by omega)) ?_
        refine So.lt2 fun sMpoints_8 e_61 => ?_
        exact So.one ⟨I_55, (by show ((Mo_thrown sMo_6).toInt = 1 ∧ ¬ (0 ≤ a0.toInt ∧ a0.toInt < 64)) ∨ ((Mo_thrown sMo_6).toInt = 2 ∧ (0 ≤ a0.toInt ∧ a0.toInt < 64) ∧ ¬ (a1.toInt = -9000000000000000000 ∨ (-2000000000 ≤ a1.toInt ∧ a1.toInt ≤ 2000000000))) ∨ ((Mo_thrown sMo_6).toInt = 0 ∧ (0 ≤ a0.toInt ∧ a0.toInt < 64) ∧ (a1.toInt = -9000000000000000000 ∨ (-2000000000 ≤ a1.toInt ∧ a1.toInt ≤ 2000000000))); omega), (by show (Mo_used sMo_6).toInt = (Mo_used sMo).toInt; omega), (by show (Mo_taped sMo_6).toInt = (Mo_taped sMo).toInt; omega)⟩
      · rw [i_eq] at c_60
        exact So.one ⟨I_55, (by show ((Mo_thrown sMo_6).toInt = 1 ∧ ¬ (0 ≤ a0.toInt ∧ a0.toInt < 64)) ∨ ((Mo_thrown sMo_6).toInt = 2 ∧ (0 ≤ a0.toInt ∧ a0.toInt < 64) ∧ ¬ (a1.toInt = -9000000000000000000 ∨ (-2000000000 ≤ a1.toInt ∧ a1.toInt ≤ 2000000000))) ∨ ((Mo_thrown sMo_6).toInt = 0 ∧ (0 ≤ a0.toInt ∧ a0.toInt < 64) ∧ (a1.toInt = -9000000000000000000 ∨ (-2000000000 ≤ a1.toInt ∧ a1.toInt ≤ 2000000000))); omega), (by show (Mo_used sMo_6).toInt = (Mo_used sMo).toInt; omega), (by show (Mo_taped sMo_6).toInt = (Mo_taped sMo).toInt; omega)⟩
theorem t_Mod_byteAt_L95 {fu : Nat} {sMmade : (Nat → Int32)} {x1_L95 : Int32} {sMo_L95 : S_Mo} (hf : 12000 ≤ fu) (I_sMo_L95 : I_Mo sMo_L95) (g_0 : 4 ≤ x1_L95.toInt) (g_1 : x1_L95.toInt ≤ 5005) : ∀ (n : Nat) (x2_L95 : Int32) (x3_L95 : Int32), (8 * (x1_L95.toInt - 4) ≤ x3_L95.toInt) → (x3_L95.toInt ≤ 8 * (x1_L95.toInt - 3)) → (8 * (x1_L95.toInt - 3) - x3_L95.toInt < (n : Nat)) → So (Mod_byteAt_L95 fu sMmade x1_L95 sMo_L95 n x2_L95 x3_L95) (fun r => I_Mo r.2 ∧ ((Mo_used r.2).toInt = (Mo_used sMo_L95).toInt) ∧ ((Mo_taped r.2).toInt = (Mo_taped sMo_L95).toInt))
  | 0, x2_L95, x3_L95, l_0, l_1, l_2 => absurd l_2 (by omega)
  | n + 1, x2_L95, x3_L95, l_0, l_1, l_2 => by
    rw [Mod_byteAt_L95]
    refine So.ite (fun c_1 => ?_) (fun c_1 => ?_)
    · rw [i_le] at c_1
      have k_2 : (8 : Int32).toInt = 8 := by decide
      have k_3 : (3 : Int32).toInt = 3 := by decide
      first | have f_4 := i_sub (a := x1_L95) (b := 3) (by omega) (by omega) | have f_4 := i_subm x1_L95 3
      first | have f_5 := i_mull 8 (x1_L95 - 3) (8) (by decide) (by omega) (by omega) | have f_5 := i_mullm 8 (x1_L95 - 3) (8) (by decide)
      exact So.one ⟨I_sMo_L95, (by show (Mo_used sMo_L95).toInt = (Mo_used sMo_L95).toInt; omega), (by show (Mo_taped sMo_L95).toInt = (Mo_taped sMo_L95).toInt; omega)⟩
    · rw [i_le] at c_1
      have k_6 : (8 : Int32).toInt = 8 := by decide
      have k_7 : (3 : Int32).toInt = 3 := by decide
      first | have f_8 := i_sub (a := x1_L95) (b := 3) (by omega) (by omega) | have f_8 := i_subm x1_L95 3
      first | have f_9 := i_mull 8 (x1_L95 - 3) (8) (by decide) (by omega) (by omega) | have f_9 := i_mullm 8 (x1_L95 - 3) (8) (by decide)
      refine So.ite (fun c_10 => ?_) (fun c_10 => ?_)
      · rw [i_le] at c_10
        have f_11 := I_Mo_madeMany I_sMo_L95
        unfold Mod_byteAt_j129
        unfold Mod_byteAt_j130
        have k_12 : (1 : Int32).toInt = 1 := by decide
        first | have f_13 := i_add (a := x3_L95) (b := 1) (by omega) (by omega) | have f_13 := i_addm x3_L95 1
        exact t_Mod_byteAt_L95 hf I_sMo_L95 (by show 4 ≤ x1_L95.toInt; omega) (by show x1_L95.toInt ≤ 5005; omega)   n _ _ (by show 8 * (x1_L95.toInt - 4) ≤ (x3_L95 + 1).toInt; omega) (by show (x3_L95 + 1).toInt ≤ 8 * (x1_L95.toInt - 3); omega) (by show 8 * (x1_L95.toInt - 3) - (x3_L95 + 1).toInt < (n : Nat); omega)
      · rw [i_le] at c_10
        have f_14 := I_Mo_madeMany I_sMo_L95
        refine So.gd (i_in.mpr (by omega)) ?_
        refine So.ite (fun c_15 => ?_) (fun c_15 => ?_)
        · rw [i_eq] at c_15
          have k_16 : (0 : Int32).toInt = 0 := by decide
          unfold Mod_byteAt_j129
          unfold Mod_byteAt_j130
          have k_17 : (1 : Int32).toInt = 1 := by decide
          first | have f_18 := i_add (a := x3_L95) (b := 1) (by omega) (by omega) | have f_18 := i_addm x3_L95 1
          exact t_Mod_byteAt_L95 hf I_sMo_L95 (by show 4 ≤ x1_L95.toInt; omega) (by show x1_L95.toInt ≤ 5005; omega)   n _ _ (by show 8 * (x1_L95.toInt - 4) ≤ (x3_L95 + 1).toInt; omega) (by show (x3_L95 + 1).toInt ≤ 8 * (x1_L95.toInt - 3); omega) (by show 8 * (x1_L95.toInt - 3) - (x3_L95 + 1).toInt < (n : Nat); omega)
        · rw [i_eq] at c_15
          have k_19 : (0 : Int32).toInt = 0 := by decide
          unfold Mod_byteAt_j130
          have k_20 : (1 : Int32).toInt = 1 := by decide
          first | have f_21 := i_add (a := x3_L95) (b := 1) (by omega) (by omega) | have f_21 := i_addm x3_L95 1
          exact t_Mod_byteAt_L95 hf I_sMo_L95 (by show 4 ≤ x1_L95.toInt; omega) (by show x1_L95.toInt ≤ 5005; omega)   n _ _ (by show 8 * (x1_L95.toInt - 4) ≤ (x3_L95 + 1).toInt; omega) (by show (x3_L95 + 1).toInt ≤ 8 * (x1_L95.toInt - 3); omega) (by show 8 * (x1_L95.toInt - 3) - (x3_L95 + 1).toInt < (n : Nat); omega)
theorem t_Mod_byteAt {fu : Nat} {sMmade : (Nat → Int32)} {a0 : Int32} {sMo : S_Mo} (hf : 12000 ≤ fu) (I_sMo : I_Mo sMo) : So (Mod_byteAt fu sMmade a0 sMo) (fun r => I_Mo r.2 ∧ ((Mo_used r.2).toInt = (Mo_used sMo).toInt) ∧ ((Mo_taped r.2).toInt = (Mo_taped sMo).toInt)) := by
  unfold Mod_byteAt
  refine So.lt2 fun sMo_1 e_1 => ?_
  have I_2 : I_Mo sMo_1 := by rw [e_1]; exact (I_Mo_set_thrown I_sMo)
  have k_3 : (0 : Int32).toInt = 0 := by decide
  have f_4 : (Mo_used sMo_1).toInt = (Mo_used sMo).toInt := by subst e_1; rfl
  have f_5 : (Mo_madeMany sMo_1).toInt = (Mo_madeMany sMo).toInt := by subst e_1; rfl
  have f_6 : (Mo_madeKind sMo_1).toInt = (Mo_madeKind sMo).toInt := by subst e_1; rfl
  have f_7 : (Mo_madeSubsets sMo_1).toInt = (Mo_madeSubsets sMo).toInt := by subst e_1; rfl
  have f_8 : (Mo_written sMo_1).toInt = (Mo_written sMo).toInt := by subst e_1; rfl
  have f_9 : (Mo_taped sMo_1).toInt = (Mo_taped sMo).toInt := by subst e_1; rfl
  refine So.ite (fun c_10 => ?_) (fun c_10 => ?_)
  · rw [i_eq] at c_10
    exact So.one ⟨I_2, (by show (Mo_used sMo_1).toInt = (Mo_used sMo).toInt; omega), (by show (Mo_taped sMo_1).toInt = (Mo_taped sMo).toInt; omega)⟩
  · rw [i_eq] at c_10
    refine So.ite (fun c_11 => ?_) (fun c_11 => ?_)
    · rw [i_lt] at c_11
      exact So.one ⟨I_2, (by show (Mo_used sMo_1).toInt = (Mo_used sMo).toInt; omega), (by show (Mo_taped sMo_1).toInt = (Mo_taped sMo).toInt; omega)⟩
    · rw [i_lt] at c_11
      refine So.ite (fun c_12 => ?_) (fun c_12 => ?_)
      · rw [i_lt] at c_12
        have k_13 : (4 : Int32).toInt = 4 := by decide
        have f_14 := I_Mo_madeMany I_2
        have k_15 : (7 : Int32).toInt = 7 := by decide
        first | have f_16 := i_add (a := (Mo_madeMany sMo_1)) (b := 7) (by omega) (by omega) | have f_16 := i_addm (Mo_madeMany sMo_1) 7
        have k_17 : (8 : Int32).toInt = 8 := by decide
        first | have f_18 := i_divk ((Mo_madeMany sMo_1) + 7) 8 8 (by decide) (by decide) (by omega) | have f_18 := i_diva ((Mo_madeMany sMo_1) + 7) 8 8 (by decide) (by decide)
        first | have f_19 := i_add (a := 4) (b := (((Mo_madeMany sMo_1) + 7) / 8)) (by omega) (by omega) | have f_19 := i_addm 4 (((Mo_madeMany sMo_1) + 7) / 8)
        refine So.ite (fun c_20 => ?_) (fun c_20 => ?_)
        · rw [i_le] at c_20
          first | have f_21 := i_sub (a := a0) (b := 4) (by omega) (by omega) | have f_21 := i_subm a0 4
          first | have f_22 := i_mull 8 (a0 - 4) (8) (by decide) (by omega) (by omega) | have f_22 := i_mullm 8 (a0 - 4) (8) (by decide)
          refine So.imp (t_Mod_byteAt_L95 hf I_2 (by show 4 ≤ a0.toInt; omega) (by show a0.toInt ≤ 5005; omega) fu _ _ (by show 8 * (a0.toInt - 4) ≤ (8 * (a0 - 4)).toInt; omega) (by show (8 * (a0 - 4)).toInt ≤ 8 * (a0.toInt - 3); omega) (by show 8 * (a0.toInt - 3) - (8 * (a0 - 4)).toInt < (fu : Nat); omega)) fun q_z h_z => ?_
          obtain ⟨p_23, p_24, p_25⟩ := h_z
          exact ⟨p_23, (by show (Mo_used q_z.2).toInt = (Mo_used sMo).toInt; omega), (by show (Mo_taped q_z.2).toInt = (Mo_taped sMo).toInt; omega)⟩
        · rw [i_le] at c_20
          refine So.ite (fun c_26 => ?_) (fun c_26 => ?_)
          · rw [i_eq] at c_26
            exact So.one ⟨I_2, (by show (Mo_used sMo_1).toInt = (Mo_used sMo).toInt; omega), (by show (Mo_taped sMo_1).toInt = (Mo_taped sMo).toInt; omega)⟩
          · rw [i_eq] at c_26
            refine So.ite (fun c_27 => ?_) (fun c_27 => ?_)
            · rw [i_eq] at c_27
              have k_28 : (1 : Int32).toInt = 1 := by decide
              exact So.one ⟨I_2, (by show (Mo_used sMo_1).toInt = (Mo_used sMo).toInt; omega), (by show (Mo_taped sMo_1).toInt = (Mo_taped sMo).toInt; omega)⟩
            · rw [i_eq] at c_27
              have k_29 : (1 : Int32).toInt = 1 := by decide
              refine So.ite (fun c_30 => ?_) (fun c_30 => ?_)
              · rw [i_eq] at c_30
                have k_31 : (2 : Int32).toInt = 2 := by decide
                exact So.one ⟨I_2, (by show (Mo_used sMo_1).toInt = (Mo_used sMo).toInt; omega), (by show (Mo_taped sMo_1).toInt = (Mo_taped sMo).toInt; omega)⟩
              · rw [i_eq] at c_30
                have k_32 : (2 : Int32).toInt = 2 := by decide
                exact So.one ⟨I_2, (by show (Mo_used sMo_1).toInt = (Mo_used sMo).toInt; omega), (by show (Mo_taped sMo_1).toInt = (Mo_taped sMo).toInt; omega)⟩
      · rw [i_lt] at c_12
        have k_33 : (4 : Int32).toInt = 4 := by decide
        have f_34 := I_Mo_madeMany I_2
        have k_35 : (7 : Int32).toInt = 7 := by decide
        first | have f_36 := i_add (a := (Mo_madeMany sMo_1)) (b := 7) (by omega) (by omega) | have f_36 := i_addm (Mo_madeMany sMo_1) 7
        have k_37 : (8 : Int32).toInt = 8 := by decide
        first | have f_38 := i_divk ((Mo_madeMany sMo_1) + 7) 8 8 (by decide) (by decide) (by omega) | have f_38 := i_diva ((Mo_madeMany sMo_1) + 7) 8 8 (by decide) (by decide)
        first | have f_39 := i_add (a := 4) (b := (((Mo_madeMany sMo_1) + 7) / 8)) (by omega) (by omega) | have f_39 := i_addm 4 (((Mo_madeMany sMo_1) + 7) / 8)
        exact So.one ⟨I_2, (by show (Mo_used sMo_1).toInt = (Mo_used sMo).toInt; omega), (by show (Mo_taped sMo_1).toInt = (Mo_taped sMo).toInt; omega)⟩
theorem t_Mod_feed_L33 {fu : Nat} {x1_L33 : Int32} (Z : S_Mo) (hf : 12000 ≤ fu) : ∀ (n : Nat) (x3_L33 : Int32) (sMo_L33 : S_Mo) (sMtape_L33 : Nat → Int32), I_Mo sMo_L33 → A_Mtape sMtape_L33 → (-1 ≤ x3_L33.toInt) → (x3_L33.toInt ≤ 3) → ((Mo_taped sMo_L33).toInt + x3_L33.toInt + 1 ≤ 1000) → ((Mo_used sMo_L33).toInt = (Mo_used Z).toInt) → (x3_L33.toInt + 1 < (n : Nat)) → So (Mod_feed_L33 fu x1_L33 n x3_L33 sMo_L33 sMtape_L33) (fun r => I_Mo r.2.1 ∧ A_Mtape r.2.2 ∧ ((Mo_used r.2.1).toInt = (Mo_used Z).toInt))
  | 0, x3_L33, sMo_L33, sMtape_L33, I_sMo_L33, I_sMtape_L33, l_0, l_1, l_2, l_3, l_4 => absurd l_4 (by omega)
  | n + 1, x3_L33, sMo_L33, sMtape_L33, I_sMo_L33, I_sMtape_L33, l_0, l_1, l_2, l_3, l_4 => by
    rw [Mod_feed_L33]
    refine So.ite (fun c_1 => ?_) (fun c_1 => ?_)
    · rw [i_lt] at c_1
      have k_2 : (0 : Int32).toInt = 0 := by decide
      exact So.one ⟨I_sMo_L33, I_sMtape_L33, (by show (Mo_used sMo_L33).toInt = (Mo_used Z).toInt; omega)⟩
    · rw [i_lt] at c_1
      have k_3 : (0 : Int32).toInt = 0 := by decide
      have f_4 := I_Mo_taped I_sMo_L33
      refine So.gd (i_in.mpr (by omega)) ?_
      refine So.lt2 fun sMtape_3 e_5 => ?_
      have k_6 : (8 : Int32).toInt = 8 := by decide
      first | have f_7 := i_mull 8 x3_L33 (8) (by decide) (by omega) (by omega) | have f_7 := i_mullm 8 x3_L33 (8) (by decide)
      have k_8 : (31 : Int32).toInt = 31 := by decide
      have f_9 := i_andm (8 * x3_L33) 31 (by decide)
      have k_10 : (255 : Int32).toInt = 255 := by decide
      have f_11 := i_andm (x1_L33 >>> ((8 * x3_L33) &&& 31)) 255 (by decide)
      have I_12 : A_Mtape sMtape_3 := by rw [e_5]; exact (A_Mtape_upd I_sMtape_L33 (by show 0 ≤ (((x1_L33 >>> ((8 * x3_L33) &&& 31)) &&& 255) : Int32).toInt ∧ (((x1_L33 >>> ((8 * x3_L33) &&& 31)) &&& 255) : Int32).toInt ≤ 255; omega))
      have k_14 : (1 : Int32).toInt = 1 := by decide
      first | have f_15 := i_add (a := (Mo_taped sMo_L33)) (b := 1) (by omega) (by omega) | have f_15 := i_addm (Mo_taped sMo_L33) 1
      refine So.lt2 fun sMo_4 e_13 => ?_
      have I_16 : I_Mo sMo_4 := by rw [e_13]; exact (I_Mo_set_taped I_sMo_L33 (by show 0 ≤ (((Mo_taped sMo_L33) + 1) : Int32).toInt ∧ (((Mo_taped sMo_L33) + 1) : Int32).toInt ≤ 1000; omega))
      have f_17 : (Mo_used sMo_4).toInt = (Mo_used sMo_L33).toInt := by subst e_13; rfl
      have f_18 : (Mo_taped sMo_4).toInt = (((Mo_taped sMo_L33) + 1) : Int32).toInt := by subst e_13; rfl
      have k_19 : ((-1) : Int32).toInt = -1 := by decide
      first | have f_20 := i_add (a := x3_L33) (b := (-1)) (by omega) (by omega) | have f_20 := i_addm x3_L33 (-1)
      have f_21 := I_Mo_taped I_16
      have f_22 := I_Mo_used I_16
      exact t_Mod_feed_L33 (Z) hf   n _ _ _ I_16 I_12 (by show -1 ≤ (x3_L33 + (-1)).toInt; ((try generalize (x3_L33 + (-1)).toInt = gv0 at *); omega)) (by show (x3_L33 + (-1)).toInt ≤ 3; ((try generalize (x3_L33 + (-1)).toInt = gv0 at *); omega)) (by show (Mo_taped sMo_4).toInt + (x3_L33 + (-1)).toInt + 1 ≤ 1000; ((try generalize (x3_L33 + (-1)).toInt = gv0 at *); omega)) (by show (Mo_used sMo_4).toInt = (Mo_used Z).toInt; ((try generalize (x3_L33 + (-1)).toInt = gv0 at *); omega)) (by show (x3_L33 + (-1)).toInt + 1 < (n : Nat); ((try generalize (x3_L33 + (-1)).toInt = gv0 at *); omega))
theorem t_Mod_feed {fu : Nat} {a0 : Int32} {a1 : Int32} {sMo : S_Mo} {sMtape : (Nat → Int32)} (hf : 12000 ≤ fu) (I_sMo : I_Mo sMo) (I_sMtape : A_Mtape sMtape) : So (Mod_feed fu a0 a1 sMo sMtape) (fun r => I_Mo r.2.1 ∧ A_Mtape r.2.2 ∧ ((Mo_used r.2.1).toInt = (Mo_used sMo).toInt)) := by
  unfold Mod_feed
  refine So.lt2 fun sMo_1 e_1 => ?_
  have I_2 : I_Mo sMo_1 := by rw [e_1]; exact (I_Mo_set_thrown I_sMo)
  have k_3 : (0 : Int32).toInt = 0 := by decide
  have f_4 : (Mo_used sMo_1).toInt = (Mo_used sMo).toInt := by subst e_1; rfl
  have f_5 : (Mo_taped sMo_1).toInt = (Mo_taped sMo).toInt := by subst e_1; rfl
  refine So.ite (fun c_6 => ?_) (fun c_6 => ?_)
  · rw [i_lt] at c_6
    have k_7 : (1 : Int32).toInt = 1 := by decide
    exact So.one ⟨I_2, I_sMtape, (by show (Mo_used sMo_1).toInt = (Mo_used sMo).toInt; omega)⟩
  · rw [i_lt] at c_6
    have k_8 : (1 : Int32).toInt = 1 := by decide
    refine So.ite (fun c_9 => ?_) (fun c_9 => ?_)
    · rw [i_lt] at c_9
      have k_10 : (4 : Int32).toInt = 4 := by decide
      exact So.one ⟨I_2, I_sMtape, (by show (Mo_used sMo_1).toInt = (Mo_used sMo).toInt; omega)⟩
    · rw [i_lt] at c_9
      have k_11 : (4 : Int32).toInt = 4 := by decide
      refine So.ite (fun c_12 => ?_) (fun c_12 => ?_)
      · rw [i_le] at c_12
        have f_13 := I_Mo_taped I_2
        first | have f_14 := i_add (a := (Mo_taped sMo_1)) (b := a1) (by omega) (by omega) | have f_14 := i_addm (Mo_taped sMo_1) a1
        have k_15 : (1000 : Int32).toInt = 1000 := by decide
        first | have f_16 := i_sub (a := a1) (b := 1) (by omega) (by omega) | have f_16 := i_subm a1 1
        have f_17 := I_Mo_used I_2
        refine So.imp (t_Mod_feed_L33 (sMo) hf fu _ _ _ I_2 I_sMtape (by show -1 ≤ (a1 - 1).toInt; omega) (by show (a1 - 1).toInt ≤ 3; omega) (by show (Mo_taped sMo_1).toInt + (a1 - 1).toInt + 1 ≤ 1000; omega) (by show (Mo_used sMo_1).toInt = (Mo_used sMo).toInt; omega) (by show (a1 - 1).toInt + 1 < (fu : Nat); omega)) fun q_z h_z => ?_
        obtain ⟨p_18, p_19, p_20⟩ := h_z
        exact ⟨p_18, p_19, (by show (Mo_used q_z.2.1).toInt = (Mo_used sMo).toInt; omega)⟩
      · rw [i_le] at c_12
        have f_21 := I_Mo_taped I_2
        first | have f_22 := i_add (a := (Mo_taped sMo_1)) (b := a1) (by omega) (by omega) | have f_22 := i_addm (Mo_taped sMo_1) a1
        have k_23 : (1000 : Int32).toInt = 1000 := by decide
        exact So.one ⟨I_2, I_sMtape, (by show (Mo_used sMo_1).toInt = (Mo_used sMo).toInt; omega)⟩
theorem t_Mod_isIn {a0 : Int32} {a1 : Int32} {a2 : Int32}  : So (Mod_isIn a0 a1 a2) (fun r => ((r.toInt = 1 ∧ (a1.toInt ≤ a0.toInt ∧ a0.toInt ≤ a2.toInt)) ∨ (r.toInt = 0 ∧ ¬ (a1.toInt ≤ a0.toInt ∧ a0.toInt ≤ a2.toInt)))) := by
  unfold Mod_isIn
  refine So.ite (fun c_1 => ?_) (fun c_1 => ?_)
  · rw [i_lt] at c_1
    have k_2 : (0 : Int32).toInt = 0 := by decide
    exact So.one (by show ((0 : Int32).toInt = 1 ∧ (a1.toInt ≤ a0.toInt ∧ a0.toInt ≤ a2.toInt)) ∨ ((0 : Int32).toInt = 0 ∧ ¬ (a1.toInt ≤ a0.toInt ∧ a0.toInt ≤ a2.toInt)); omega)
  · rw [i_lt] at c_1
    refine So.ite (fun c_3 => ?_) (fun c_3 => ?_)
    · rw [i_lt] at c_3
      have k_4 : (0 : Int32).toInt = 0 := by decide
      exact So.one (by show ((0 : Int32).toInt = 1 ∧ (a1.toInt ≤ a0.toInt ∧ a0.toInt ≤ a2.toInt)) ∨ ((0 : Int32).toInt = 0 ∧ ¬ (a1.toInt ≤ a0.toInt ∧ a0.toInt ≤ a2.toInt)); omega)
    · rw [i_lt] at c_3
      have k_5 : (1 : Int32).toInt = 1 := by decide
      exact So.one (by show ((1 : Int32).toInt = 1 ∧ (a1.toInt ≤ a0.toInt ∧ a0.toInt ≤ a2.toInt)) ∨ ((1 : Int32).toInt = 0 ∧ ¬ (a1.toInt ≤ a0.toInt ∧ a0.toInt ≤ a2.toInt)); omega)
theorem t_Mod_fresh {sMo : S_Mo} (I_sMo : I_Mo sMo) : So (Mod_fresh sMo) (fun r => I_Mo r ∧ ((Mo_fault r).toInt = 0)) := by
  unfold Mod_fresh
  refine So.lt2 fun sMo_1 e_1 => ?_
  have I_2 : I_Mo sMo_1 := by rw [e_1]; exact (I_Mo_set_fault I_sMo)
  have k_3 : (0 : Int32).toInt = 0 := by decide
  have f_4 : (Mo_fault sMo_1).toInt = (0 : Int32).toInt := by subst e_1; rfl
  refine So.lt2 fun sMo_2 e_5 => ?_
  have I_6 : I_Mo sMo_2 := by rw [e_5]; exact (I_Mo_set_place I_2)
  have k_7 : ((-1) : Int32).toInt = -1 := by decide
  have f_8 : (Mo_fault sMo_2).toInt = (Mo_fault sMo_1).toInt := by subst e_5; rfl
  exact So.one ⟨I_6, (by show (Mo_fault sMo_2).toInt = 0; omega)⟩
theorem t_Mod_most {a0 : Int32}  : So (Mod_most a0) (fun r => True) := by
  unfold Mod_most
  exact So.one trivial

def I_Mo (s : S_Mo) : Prop := (0 ≤ (Mo_used s).toInt ∧ (Mo_used s).toInt ≤ 3) ∧ (0 ≤ (Mo_open s).toInt ∧ (Mo_open s).toInt ≤ 90) ∧ (0 ≤ (Mo_fields s).toInt ∧ (Mo_fields s).toInt ≤ 100) ∧ (0 ≤ (Mo_elements s).toInt ∧ (Mo_elements s).toInt ≤ 100) ∧ (0 ≤ (Mo_pointed s).toInt ∧ (Mo_pointed s).toInt ≤ 100) ∧ (0 ≤ (Mo_pointer s).toInt ∧ (Mo_pointer s).toInt ≤ 100) ∧ (0 ≤ (Mo_subset s).toInt ∧ (Mo_subset s).toInt ≤ 7) ∧ (0 ≤ (Mo_many s).toInt ∧ (Mo_many s).toInt ≤ 65535) ∧ (0 ≤ (Mo_at s).toInt ∧ (Mo_at s).toInt ≤ 40000) ∧ (0 ≤ (Mo_madeMany s).toInt ∧ (Mo_madeMany s).toInt ≤ 40000) ∧ (0 ≤ (Mo_taped s).toInt ∧ (Mo_taped s).toInt ≤ 1000) ∧ (0 ≤ (Mo_firstFields s).toInt ∧ (Mo_firstFields s).toInt ≤ 100) ∧ (-1 ≤ (Mo_codes s).toInt ∧ (Mo_codes s).toInt ≤ 64) ∧ (0 ≤ (Mo_groups s).toInt ∧ (Mo_groups s).toInt ≤ 64)
theorem I_Mo_used {s : S_Mo} (h : I_Mo s) : 0 ≤ (Mo_used s).toInt ∧ (Mo_used s).toInt ≤ 3 := h.1
theorem I_Mo_open {s : S_Mo} (h : I_Mo s) : 0 ≤ (Mo_open s).toInt ∧ (Mo_open s).toInt ≤ 90 := h.2.1
theorem I_Mo_fields {s : S_Mo} (h : I_Mo s) : 0 ≤ (Mo_fields s).toInt ∧ (Mo_fields s).toInt ≤ 100 := h.2.2.1
theorem I_Mo_elements {s : S_Mo} (h : I_Mo s) : 0 ≤ (Mo_elements s).toInt ∧ (Mo_elements s).toInt ≤ 100 := h.2.2.2.1
theorem I_Mo_pointed {s : S_Mo} (h : I_Mo s) : 0 ≤ (Mo_pointed s).toInt ∧ (Mo_pointed s).toInt ≤ 100 := h.2.2.2.2.1
theorem I_Mo_pointer {s : S_Mo} (h : I_Mo s) : 0 ≤ (Mo_pointer s).toInt ∧ (Mo_pointer s).toInt ≤ 100 := h.2.2.2.2.2.1
theorem I_Mo_subset {s : S_Mo} (h : I_Mo s) : 0 ≤ (Mo_subset s).toInt ∧ (Mo_subset s).toInt ≤ 7 := h.2.2.2.2.2.2.1
theorem I_Mo_many {s : S_Mo} (h : I_Mo s) : 0 ≤ (Mo_many s).toInt ∧ (Mo_many s).toInt ≤ 65535 := h.2.2.2.2.2.2.2.1
theorem I_Mo_at {s : S_Mo} (h : I_Mo s) : 0 ≤ (Mo_at s).toInt ∧ (Mo_at s).toInt ≤ 40000 := h.2.2.2.2.2.2.2.2.1
theorem I_Mo_madeMany {s : S_Mo} (h : I_Mo s) : 0 ≤ (Mo_madeMany s).toInt ∧ (Mo_madeMany s).toInt ≤ 40000 := h.2.2.2.2.2.2.2.2.2.1
theorem I_Mo_taped {s : S_Mo} (h : I_Mo s) : 0 ≤ (Mo_taped s).toInt ∧ (Mo_taped s).toInt ≤ 1000 := h.2.2.2.2.2.2.2.2.2.2.1
theorem I_Mo_firstFields {s : S_Mo} (h : I_Mo s) : 0 ≤ (Mo_firstFields s).toInt ∧ (Mo_firstFields s).toInt ≤ 100 := h.2.2.2.2.2.2.2.2.2.2.2.1
theorem I_Mo_codes {s : S_Mo} (h : I_Mo s) : -1 ≤ (Mo_codes s).toInt ∧ (Mo_codes s).toInt ≤ 64 := h.2.2.2.2.2.2.2.2.2.2.2.2.1
theorem I_Mo_groups {s : S_Mo} (h : I_Mo s) : 0 ≤ (Mo_groups s).toInt ∧ (Mo_groups s).toInt ≤ 64 := h.2.2.2.2.2.2.2.2.2.2.2.2.2
theorem I_Mo_set_thrown {s : S_Mo} {v : Int32} (h : I_Mo s) : I_Mo (Mo_set_thrown s v) := h
theorem I_Mo_set_used {s : S_Mo} {v : Int32} (h : I_Mo s) (h0 : 0 ≤ v.toInt ∧ v.toInt ≤ 3) : I_Mo (Mo_set_used s v) := ⟨h0, h.2.1, h.2.2.1, h.2.2.2.1, h.2.2.2.2.1, h.2.2.2.2.2.1, h.2.2.2.2.2.2.1, h.2.2.2.2.2.2.2.1, h.2.2.2.2.2.2.2.2.1, h.2.2.2.2.2.2.2.2.2.1, h.2.2.2.2.2.2.2.2.2.2.1, h.2.2.2.2.2.2.2.2.2.2.2.1, h.2.2.2.2.2.2.2.2.2.2.2.2.1, h.2.2.2.2.2.2.2.2.2.2.2.2.2⟩
theorem I_Mo_set_fault {s : S_Mo} {v : Int32} (h : I_Mo s) : I_Mo (Mo_set_fault s v) := h
theorem I_Mo_set_place {s : S_Mo} {v : Int32} (h : I_Mo s) : I_Mo (Mo_set_place s v) := h
theorem I_Mo_set_open {s : S_Mo} {v : Int32} (h : I_Mo s) (h0 : 0 ≤ v.toInt ∧ v.toInt ≤ 90) : I_Mo (Mo_set_open s v) := ⟨h.1, h0, h.2.2.1, h.2.2.2.1, h.2.2.2.2.1, h.2.2.2.2.2.1, h.2.2.2.2.2.2.1, h.2.2.2.2.2.2.2.1, h.2.2.2.2.2.2.2.2.1, h.2.2.2.2.2.2.2.2.2.1, h.2.2.2.2.2.2.2.2.2.2.1, h.2.2.2.2.2.2.2.2.2.2.2.1, h.2.2.2.2.2.2.2.2.2.2.2.2.1, h.2.2.2.2.2.2.2.2.2.2.2.2.2⟩
theorem I_Mo_set_looked {s : S_Mo} {v : Int32} (h : I_Mo s) : I_Mo (Mo_set_looked s v) := h
theorem I_Mo_set_fields {s : S_Mo} {v : Int32} (h : I_Mo s) (h0 : 0 ≤ v.toInt ∧ v.toInt ≤ 100) : I_Mo (Mo_set_fields s v) := ⟨h.1, h.2.1, h0, h.2.2.2.1, h.2.2.2.2.1, h.2.2.2.2.2.1, h.2.2.2.2.2.2.1, h.2.2.2.2.2.2.2.1, h.2.2.2.2.2.2.2.2.1, h.2.2.2.2.2.2.2.2.2.1, h.2.2.2.2.2.2.2.2.2.2.1, h.2.2.2.2.2.2.2.2.2.2.2.1, h.2.2.2.2.2.2.2.2.2.2.2.2.1, h.2.2.2.2.2.2.2.2.2.2.2.2.2⟩
theorem I_Mo_set_elements {s : S_Mo} {v : Int32} (h : I_Mo s) (h0 : 0 ≤ v.toInt ∧ v.toInt ≤ 100) : I_Mo (Mo_set_elements s v) := ⟨h.1, h.2.1, h.2.2.1, h0, h.2.2.2.2.1, h.2.2.2.2.2.1, h.2.2.2.2.2.2.1, h.2.2.2.2.2.2.2.1, h.2.2.2.2.2.2.2.2.1, h.2.2.2.2.2.2.2.2.2.1, h.2.2.2.2.2.2.2.2.2.2.1, h.2.2.2.2.2.2.2.2.2.2.2.1, h.2.2.2.2.2.2.2.2.2.2.2.2.1, h.2.2.2.2.2.2.2.2.2.2.2.2.2⟩
theorem I_Mo_set_pointed {s : S_Mo} {v : Int32} (h : I_Mo s) (h0 : 0 ≤ v.toInt ∧ v.toInt ≤ 100) : I_Mo (Mo_set_pointed s v) := ⟨h.1, h.2.1, h.2.2.1, h.2.2.2.1, h0, h.2.2.2.2.2.1, h.2.2.2.2.2.2.1, h.2.2.2.2.2.2.2.1, h.2.2.2.2.2.2.2.2.1, h.2.2.2.2.2.2.2.2.2.1, h.2.2.2.2.2.2.2.2.2.2.1, h.2.2.2.2.2.2.2.2.2.2.2.1, h.2.2.2.2.2.2.2.2.2.2.2.2.1, h.2.2.2.2.2.2.2.2.2.2.2.2.2⟩
theorem I_Mo_set_pointer {s : S_Mo} {v : Int32} (h : I_Mo s) (h0 : 0 ≤ v.toInt ∧ v.toInt ≤ 100) : I_Mo (Mo_set_pointer s v) := ⟨h.1, h.2.1, h.2.2.1, h.2.2.2.1, h.2.2.2.2.1, h0, h.2.2.2.2.2.2.1, h.2.2.2.2.2.2.2.1, h.2.2.2.2.2.2.2.2.1, h.2.2.2.2.2.2.2.2.2.1, h.2.2.2.2.2.2.2.2.2.2.1, h.2.2.2.2.2.2.2.2.2.2.2.1, h.2.2.2.2.2.2.2.2.2.2.2.2.1, h.2.2.2.2.2.2.2.2.2.2.2.2.2⟩
theorem I_Mo_set_mode {s : S_Mo} {v : Int32} (h : I_Mo s) : I_Mo (Mo_set_mode s v) := h
theorem I_Mo_set_subset {s : S_Mo} {v : Int32} (h : I_Mo s) (h0 : 0 ≤ v.toInt ∧ v.toInt ≤ 7) : I_Mo (Mo_set_subset s v) := ⟨h.1, h.2.1, h.2.2.1, h.2.2.2.1, h.2.2.2.2.1, h.2.2.2.2.2.1, h0, h.2.2.2.2.2.2.2.1, h.2.2.2.2.2.2.2.2.1, h.2.2.2.2.2.2.2.2.2.1, h.2.2.2.2.2.2.2.2.2.2.1, h.2.2.2.2.2.2.2.2.2.2.2.1, h.2.2.2.2.2.2.2.2.2.2.2.2.1, h.2.2.2.2.2.2.2.2.2.2.2.2.2⟩
theorem I_Mo_set_subsets {s : S_Mo} {v : Int32} (h : I_Mo s) : I_Mo (Mo_set_subsets s v) := h
theorem I_Mo_set_many {s : S_Mo} {v : Int32} (h : I_Mo s) (h0 : 0 ≤ v.toInt ∧ v.toInt ≤ 65535) : I_Mo (Mo_set_many s v) := ⟨h.1, h.2.1, h.2.2.1, h.2.2.2.1, h.2.2.2.2.1, h.2.2.2.2.2.1, h.2.2.2.2.2.2.1, h0, h.2.2.2.2.2.2.2.2.1, h.2.2.2.2.2.2.2.2.2.1, h.2.2.2.2.2.2.2.2.2.2.1, h.2.2.2.2.2.2.2.2.2.2.2.1, h.2.2.2.2.2.2.2.2.2.2.2.2.1, h.2.2.2.2.2.2.2.2.2.2.2.2.2⟩
theorem I_Mo_set_at {s : S_Mo} {v : Int32} (h : I_Mo s) (h0 : 0 ≤ v.toInt ∧ v.toInt ≤ 40000) : I_Mo (Mo_set_at s v) := ⟨h.1, h.2.1, h.2.2.1, h.2.2.2.1, h.2.2.2.2.1, h.2.2.2.2.2.1, h.2.2.2.2.2.2.1, h.2.2.2.2.2.2.2.1, h0, h.2.2.2.2.2.2.2.2.2.1, h.2.2.2.2.2.2.2.2.2.2.1, h.2.2.2.2.2.2.2.2.2.2.2.1, h.2.2.2.2.2.2.2.2.2.2.2.2.1, h.2.2.2.2.2.2.2.2.2.2.2.2.2⟩
theorem I_Mo_set_madeMany {s : S_Mo} {v : Int32} (h : I_Mo s) (h0 : 0 ≤ v.toInt ∧ v.toInt ≤ 40000) : I_Mo (Mo_set_madeMany s v) := ⟨h.1, h.2.1, h.2.2.1, h.2.2.2.1, h.2.2.2.2.1, h.2.2.2.2.2.1, h.2.2.2.2.2.2.1, h.2.2.2.2.2.2.2.1, h.2.2.2.2.2.2.2.2.1, h0, h.2.2.2.2.2.2.2.2.2.2.1, h.2.2.2.2.2.2.2.2.2.2.2.1, h.2.2.2.2.2.2.2.2.2.2.2.2.1, h.2.2.2.2.2.2.2.2.2.2.2.2.2⟩
theorem I_Mo_set_madeKind {s : S_Mo} {v : Int32} (h : I_Mo s) : I_Mo (Mo_set_madeKind s v) := h
theorem I_Mo_set_madeSubsets {s : S_Mo} {v : Int32} (h : I_Mo s) : I_Mo (Mo_set_madeSubsets s v) := h
theorem I_Mo_set_written {s : S_Mo} {v : Int32} (h : I_Mo s) : I_Mo (Mo_set_written s v) := h
theorem I_Mo_set_taped {s : S_Mo} {v : Int32} (h : I_Mo s) (h0 : 0 ≤ v.toInt ∧ v.toInt ≤ 1000) : I_Mo (Mo_set_taped s v) := ⟨h.1, h.2.1, h.2.2.1, h.2.2.2.1, h.2.2.2.2.1, h.2.2.2.2.2.1, h.2.2.2.2.2.2.1, h.2.2.2.2.2.2.2.1, h.2.2.2.2.2.2.2.2.1, h.2.2.2.2.2.2.2.2.2.1, h0, h.2.2.2.2.2.2.2.2.2.2.2.1, h.2.2.2.2.2.2.2.2.2.2.2.2.1, h.2.2.2.2.2.2.2.2.2.2.2.2.2⟩
theorem I_Mo_set_firstFields {s : S_Mo} {v : Int32} (h : I_Mo s) (h0 : 0 ≤ v.toInt ∧ v.toInt ≤ 100) : I_Mo (Mo_set_firstFields s v) := ⟨h.1, h.2.1, h.2.2.1, h.2.2.2.1, h.2.2.2.2.1, h.2.2.2.2.2.1, h.2.2.2.2.2.2.1, h.2.2.2.2.2.2.2.1, h.2.2.2.2.2.2.2.2.1, h.2.2.2.2.2.2.2.2.2.1, h.2.2.2.2.2.2.2.2.2.2.1, h0, h.2.2.2.2.2.2.2.2.2.2.2.2.1, h.2.2.2.2.2.2.2.2.2.2.2.2.2⟩
theorem I_Mo_set_codes {s : S_Mo} {v : Int32} (h : I_Mo s) (h0 : -1 ≤ v.toInt ∧ v.toInt ≤ 64) : I_Mo (Mo_set_codes s v) := ⟨h.1, h.2.1, h.2.2.1, h.2.2.2.1, h.2.2.2.2.1, h.2.2.2.2.2.1, h.2.2.2.2.2.2.1, h.2.2.2.2.2.2.2.1, h.2.2.2.2.2.2.2.2.1, h.2.2.2.2.2.2.2.2.2.1, h.2.2.2.2.2.2.2.2.2.2.1, h.2.2.2.2.2.2.2.2.2.2.2.1, h0, h.2.2.2.2.2.2.2.2.2.2.2.2.2⟩
theorem I_Mo_set_groups {s : S_Mo} {v : Int32} (h : I_Mo s) (h0 : 0 ≤ v.toInt ∧ v.toInt ≤ 64) : I_Mo (Mo_set_groups s v) := ⟨h.1, h.2.1, h.2.2.1, h.2.2.2.1, h.2.2.2.2.1, h.2.2.2.2.2.1, h.2.2.2.2.2.2.1, h.2.2.2.2.2.2.2.1, h.2.2.2.2.2.2.2.2.1, h.2.2.2.2.2.2.2.2.2.1, h.2.2.2.2.2.2.2.2.2.2.1, h.2.2.2.2.2.2.2.2.2.2.2.1, h.2.2.2.2.2.2.2.2.2.2.2.2.1, h0⟩
def A_Mthere (f : Nat → Int32) : Prop := ∀ j : Nat, 0 ≤ (f j).toInt ∧ (f j).toInt ≤ 1
theorem A_Mthere_at {f : Nat → Int32} (h : A_Mthere f) (j : Nat) : 0 ≤ (f j).toInt ∧ (f j).toInt ≤ 1 := h j
theorem A_Mthere_upd {f : Nat → Int32} {k : Nat} {x : Int32} (h : A_Mthere f) (h0 : 0 ≤ x.toInt ∧ x.toInt ≤ 1) : A_Mthere (upd f k x) := i_arp (P := fun j x => 0 ≤ x.toInt ∧ x.toInt ≤ 1) h h0
def A_Mwidths (f : Nat → Int32) : Prop := ∀ j : Nat, 0 ≤ (f j).toInt ∧ (f j).toInt ≤ 32
theorem A_Mwidths_at {f : Nat → Int32} (h : A_Mwidths f) (j : Nat) : 0 ≤ (f j).toInt ∧ (f j).toInt ≤ 32 := h j
theorem A_Mwidths_upd {f : Nat → Int32} {k : Nat} {x : Int32} (h : A_Mwidths f) (h0 : 0 ≤ x.toInt ∧ x.toInt ≤ 32) : A_Mwidths (upd f k x) := i_arp (P := fun j x => 0 ≤ x.toInt ∧ x.toInt ≤ 32) h h0
def A_Mscales (f : Nat → Int32) : Prop := ∀ j : Nat, -8 ≤ (f j).toInt ∧ (f j).toInt ≤ 8
theorem A_Mscales_at {f : Nat → Int32} (h : A_Mscales f) (j : Nat) : -8 ≤ (f j).toInt ∧ (f j).toInt ≤ 8 := h j
theorem A_Mscales_upd {f : Nat → Int32} {k : Nat} {x : Int32} (h : A_Mscales f) (h0 : -8 ≤ x.toInt ∧ x.toInt ≤ 8) : A_Mscales (upd f k x) := i_arp (P := fun j x => -8 ≤ x.toInt ∧ x.toInt ≤ 8) h h0
def A_Mlists (f : Nat → Int32) : Prop := ∀ j : Nat, (0 ≤ (f j).toInt ∧ (f j).toInt ≤ 63) ∨ (100 ≤ (f j).toInt ∧ (f j).toInt ≤ 115) ∨ (216 ≤ (f j).toInt ∧ (f j).toInt ≤ 343) ∨ (400 ≤ (f j).toInt ∧ (f j).toInt ≤ 487) ∨ (501 ≤ (f j).toInt ∧ (f j).toInt ≤ 516) ∨ (f j).toInt = 520
theorem A_Mlists_at {f : Nat → Int32} (h : A_Mlists f) (j : Nat) : (0 ≤ (f j).toInt ∧ (f j).toInt ≤ 63) ∨ (100 ≤ (f j).toInt ∧ (f j).toInt ≤ 115) ∨ (216 ≤ (f j).toInt ∧ (f j).toInt ≤ 343) ∨ (400 ≤ (f j).toInt ∧ (f j).toInt ≤ 487) ∨ (501 ≤ (f j).toInt ∧ (f j).toInt ≤ 516) ∨ (f j).toInt = 520 := h j
theorem A_Mlists_upd {f : Nat → Int32} {k : Nat} {x : Int32} (h : A_Mlists f) (h0 : (0 ≤ x.toInt ∧ x.toInt ≤ 63) ∨ (100 ≤ x.toInt ∧ x.toInt ≤ 115) ∨ (216 ≤ x.toInt ∧ x.toInt ≤ 343) ∨ (400 ≤ x.toInt ∧ x.toInt ≤ 487) ∨ (501 ≤ x.toInt ∧ x.toInt ≤ 516) ∨ x.toInt = 520) : A_Mlists (upd f k x) := i_arp (P := fun j x => (0 ≤ x.toInt ∧ x.toInt ≤ 63) ∨ (100 ≤ x.toInt ∧ x.toInt ≤ 115) ∨ (216 ≤ x.toInt ∧ x.toInt ≤ 343) ∨ (400 ≤ x.toInt ∧ x.toInt ≤ 487) ∨ (501 ≤ x.toInt ∧ x.toInt ≤ 516) ∨ x.toInt = 520) h h0
def A_Mlengths (f : Nat → Int32) : Prop := ∀ j : Nat, 0 ≤ (f j).toInt ∧ (f j).toInt ≤ 24 ∧ (j < 16 → (f j).toInt ≤ 8)
theorem A_Mlengths_at {f : Nat → Int32} (h : A_Mlengths f) (j : Nat) : 0 ≤ (f j).toInt ∧ (f j).toInt ≤ 24 ∧ (j < 16 → (f j).toInt ≤ 8) := h j
theorem A_Mlengths_upd {f : Nat → Int32} {k : Nat} {x : Int32} (h : A_Mlengths f) (h0 : 0 ≤ x.toInt ∧ x.toInt ≤ 24 ∧ (k < 16 → x.toInt ≤ 8)) : A_Mlengths (upd f k x) := i_arp (P := fun j x => 0 ≤ x.toInt ∧ x.toInt ≤ 24 ∧ (j < 16 → x.toInt ≤ 8)) h h0
def A_Mtape (f : Nat → Int32) : Prop := ∀ j : Nat, 0 ≤ (f j).toInt ∧ (f j).toInt ≤ 255
theorem A_Mtape_at {f : Nat → Int32} (h : A_Mtape f) (j : Nat) : 0 ≤ (f j).toInt ∧ (f j).toInt ≤ 255 := h j
theorem A_Mtape_upd {f : Nat → Int32} {k : Nat} {x : Int32} (h : A_Mtape f) (h0 : 0 ≤ x.toInt ∧ x.toInt ≤ 255) : A_Mtape (upd f k x) := i_arp (P := fun j x => 0 ≤ x.toInt ∧ x.toInt ≤ 255) h h0
def A_Mops (f : Nat → Int32) : Prop := ∀ j : Nat, -100 ≤ (f j).toInt ∧ (f j).toInt ≤ 31 ∧ ((f j).toInt = -100 ∨ -16 ≤ (f j).toInt) ∧ (j < 2 ∨ (f j).toInt = -100 ∨ 0 ≤ (f j).toInt)
theorem A_Mops_at {f : Nat → Int32} (h : A_Mops f) (j : Nat) : -100 ≤ (f j).toInt ∧ (f j).toInt ≤ 31 ∧ ((f j).toInt = -100 ∨ -16 ≤ (f j).toInt) ∧ (j < 2 ∨ (f j).toInt = -100 ∨ 0 ≤ (f j).toInt) := h j
theorem A_Mops_upd {f : Nat → Int32} {k : Nat} {x : Int32} (h : A_Mops f) (h0 : -100 ≤ x.toInt ∧ x.toInt ≤ 31 ∧ (x.toInt = -100 ∨ -16 ≤ x.toInt) ∧ (k < 2 ∨ x.toInt = -100 ∨ 0 ≤ x.toInt)) : A_Mops (upd f k x) := i_arp (P := fun j x => -100 ≤ x.toInt ∧ x.toInt ≤ 31 ∧ (x.toInt = -100 ∨ -16 ≤ x.toInt) ∧ (j < 2 ∨ x.toInt = -100 ∨ 0 ≤ x.toInt)) h h0
def A_MfoundOps (f : Nat → Int32) : Prop := ∀ j : Nat, -100 ≤ (f j).toInt ∧ (f j).toInt ≤ 31
theorem A_MfoundOps_at {f : Nat → Int32} (h : A_MfoundOps f) (j : Nat) : -100 ≤ (f j).toInt ∧ (f j).toInt ≤ 31 := h j
theorem A_MfoundOps_upd {f : Nat → Int32} {k : Nat} {x : Int32} (h : A_MfoundOps f) (h0 : -100 ≤ x.toInt ∧ x.toInt ≤ 31) : A_MfoundOps (upd f k x) := i_arp (P := fun j x => -100 ≤ x.toInt ∧ x.toInt ≤ 31) h h0
def A_MelementAt (f : Nat → Int32) : Prop := ∀ j : Nat, 0 ≤ (f j).toInt ∧ (f j).toInt ≤ 99
theorem A_MelementAt_at {f : Nat → Int32} (h : A_MelementAt f) (j : Nat) : 0 ≤ (f j).toInt ∧ (f j).toInt ≤ 99 := h j
theorem A_MelementAt_upd {f : Nat → Int32} {k : Nat} {x : Int32} (h : A_MelementAt f) (h0 : 0 ≤ x.toInt ∧ x.toInt ≤ 99) : A_MelementAt (upd f k x) := i_arp (P := fun j x => 0 ≤ x.toInt ∧ x.toInt ≤ 99) h h0
def A_MpointAt (f : Nat → Int32) : Prop := ∀ j : Nat, 0 ≤ (f j).toInt ∧ (f j).toInt ≤ 99
theorem A_MpointAt_at {f : Nat → Int32} (h : A_MpointAt f) (j : Nat) : 0 ≤ (f j).toInt ∧ (f j).toInt ≤ 99 := h j
theorem A_MpointAt_upd {f : Nat → Int32} {k : Nat} {x : Int32} (h : A_MpointAt f) (h0 : 0 ≤ x.toInt ∧ x.toInt ≤ 99) : A_MpointAt (upd f k x) := i_arp (P := fun j x => 0 ≤ x.toInt ∧ x.toInt ≤ 99) h h0
theorem t_Mod_entry {a0 : Int32} {a1 : Int32} (g_0 : -1 ≤ a0.toInt) (g_1 : a0.toInt < 4) (g_2 : 0 ≤ a1.toInt) (g_3 : a1.toInt < 64) : So (Mod_entry a0 a1) (fun r => ((a0.toInt = -1 ∧ r.toInt = 256 + a1.toInt) ∨ (0 ≤ a0.toInt ∧ r.toInt = 64 * a0.toInt + a1.toInt))) := by
  unfold Mod_entry
  refine So.ite (fun c_1 => ?_) (fun c_1 => ?_)
  · rw [i_le] at c_1
    have k_2 : (0 : Int32).toInt = 0 := by decide
    have k_3 : (64 : Int32).toInt = 64 := by decide
    first | have f_4 := i_mull 64 a0 (64) (by decide) (by omega) (by omega) | have f_4 := i_mullm 64 a0 (64) (by decide)
    first | have f_5 := i_add (a := (64 * a0)) (b := a1) (by omega) (by omega) | have f_5 := i_addm (64 * a0) a1
    exact So.one (by show (a0.toInt = -1 ∧ (((64 * a0) + a1) : Int32).toInt = 256 + a1.toInt) ∨ (0 ≤ a0.toInt ∧ (((64 * a0) + a1) : Int32).toInt = 64 * a0.toInt + a1.toInt); omega)
  · rw [i_le] at c_1
    have k_6 : (0 : Int32).toInt = 0 := by decide
    have k_7 : ((64 * 4) : Int32).toInt = 256 := by decide
    first | have f_8 := i_add (a := ((64 * 4) : Int32)) (b := a1) (by omega) (by omega) | have f_8 := i_addm ((64 * 4) : Int32) a1
    exact So.one (by show (a0.toInt = -1 ∧ (((64 * 4) + a1) : Int32).toInt = 256 + a1.toInt) ∨ (0 ≤ a0.toInt ∧ (((64 * 4) + a1) : Int32).toInt = 64 * a0.toInt + a1.toInt); omega)
theorem t_Mod_isEntry {a0 : Int32} {a1 : Int32}  : So (Mod_isEntry a0 a1) (fun r => ((r.toInt = 1 ∧ (-1 ≤ a0.toInt ∧ a0.toInt < 4 ∧ 0 ≤ a1.toInt ∧ a1.toInt < 64)) ∨ (r.toInt = 0 ∧ ¬ (-1 ≤ a0.toInt ∧ a0.toInt < 4 ∧ 0 ≤ a1.toInt ∧ a1.toInt < 64)))) := by
  unfold Mod_isEntry
  refine So.ite (fun c_1 => ?_) (fun c_1 => ?_)
  · rw [i_lt] at c_1
    have k_2 : ((-1) : Int32).toInt = -1 := by decide
    have k_3 : (0 : Int32).toInt = 0 := by decide
    exact So.one (by show ((0 : Int32).toInt = 1 ∧ (-1 ≤ a0.toInt ∧ a0.toInt < 4 ∧ 0 ≤ a1.toInt ∧ a1.toInt < 64)) ∨ ((0 : Int32).toInt = 0 ∧ ¬ (-1 ≤ a0.toInt ∧ a0.toInt < 4 ∧ 0 ≤ a1.toInt ∧ a1.toInt < 64)); omega)
  · rw [i_lt] at c_1
    have k_4 : ((-1) : Int32).toInt = -1 := by decide
    refine So.ite (fun c_5 => ?_) (fun c_5 => ?_)
    · rw [i_lt] at c_5
      have k_6 : (3 : Int32).toInt = 3 := by decide
      have k_7 : (0 : Int32).toInt = 0 := by decide
      exact So.one (by show ((0 : Int32).toInt = 1 ∧ (-1 ≤ a0.toInt ∧ a0.toInt < 4 ∧ 0 ≤ a1.toInt ∧ a1.toInt < 64)) ∨ ((0 : Int32).toInt = 0 ∧ ¬ (-1 ≤ a0.toInt ∧ a0.toInt < 4 ∧ 0 ≤ a1.toInt ∧ a1.toInt < 64)); omega)
    · rw [i_lt] at c_5
      have k_8 : (3 : Int32).toInt = 3 := by decide
      refine So.ite (fun c_9 => ?_) (fun c_9 => ?_)
      · rw [i_lt] at c_9
        have k_10 : (0 : Int32).toInt = 0 := by decide
        exact So.one (by show ((0 : Int32).toInt = 1 ∧ (-1 ≤ a0.toInt ∧ a0.toInt < 4 ∧ 0 ≤ a1.toInt ∧ a1.toInt < 64)) ∨ ((0 : Int32).toInt = 0 ∧ ¬ (-1 ≤ a0.toInt ∧ a0.toInt < 4 ∧ 0 ≤ a1.toInt ∧ a1.toInt < 64)); omega)
      · rw [i_lt] at c_9
        have k_11 : (0 : Int32).toInt = 0 := by decide
        refine So.ite (fun c_12 => ?_) (fun c_12 => ?_)
        · rw [i_lt] at c_12
          have k_13 : (63 : Int32).toInt = 63 := by decide
          exact So.one (by show ((0 : Int32).toInt = 1 ∧ (-1 ≤ a0.toInt ∧ a0.toInt < 4 ∧ 0 ≤ a1.toInt ∧ a1.toInt < 64)) ∨ ((0 : Int32).toInt = 0 ∧ ¬ (-1 ≤ a0.toInt ∧ a0.toInt < 4 ∧ 0 ≤ a1.toInt ∧ a1.toInt < 64)); omega)
        · rw [i_lt] at c_12
          have k_14 : (63 : Int32).toInt = 63 := by decide
          have k_15 : (1 : Int32).toInt = 1 := by decide
          exact So.one (by show ((1 : Int32).toInt = 1 ∧ (-1 ≤ a0.toInt ∧ a0.toInt < 4 ∧ 0 ≤ a1.toInt ∧ a1.toInt < 64)) ∨ ((1 : Int32).toInt = 0 ∧ ¬ (-1 ≤ a0.toInt ∧ a0.toInt < 4 ∧ 0 ≤ a1.toInt ∧ a1.toInt < 64)); omega)
theorem t_Mod_element {a0 : Int32} {a1 : Int32} {a2 : Int32} {a3 : Int32} {a4 : Int32} {sMo : S_Mo} {sMthere : (Nat → Int32)} {sMscales : (Nat → Int32)} {sMreferences : (Nat → Int32)} {sMwidths : (Nat → Int32)} (I_sMo : I_Mo sMo) (I_sMthere : A_Mthere sMthere) (I_sMscales : A_Mscales sMscales) (I_sMwidths : A_Mwidths sMwidths) : So (Mod_element a0 a1 a2 a3 a4 sMo sMthere sMscales sMreferences sMwidths) (fun r => I_Mo r.1 ∧ A_Mthere r.2.1 ∧ A_Mscales r.2.2.1 ∧ A_Mwidths r.2.2.2.2 ∧ (((Mo_thrown r.1).toInt = 0 ∧ (-1 ≤ a0.toInt ∧ a0.toInt < 4 ∧ 0 ≤ a1.toInt ∧ a1.toInt < 64 ∧ -8 ≤ a2.toInt ∧ a2.toInt ≤ 8 ∧ -1000000000 ≤ a3.toInt ∧ a3.toInt ≤ 1000000000 ∧ 1 ≤ a4.toInt ∧ a4.toInt ≤ 32)) ∨ ((Mo_thrown r.1).toInt = 1 ∧ ¬ (-1 ≤ a0.toInt ∧ a0.toInt < 4 ∧ 0 ≤ a1.toInt ∧ a1.toInt < 64 ∧ -8 ≤ a2.toInt ∧ a2.toInt ≤ 8 ∧ -1000000000 ≤ a3.toInt ∧ a3.toInt ≤ 1000000000 ∧ 1 ≤ a4.toInt ∧ a4.toInt ≤ 32))) ∧ ((Mo_used r.1).toInt = (Mo_used sMo).toInt) ∧ ((Mo_taped r.1).toInt = (Mo_taped sMo).toInt) ∧ ((Mo_madeMany r.1).toInt = (Mo_madeMany sMo).toInt) ∧ ((Mo_madeKind r.1).toInt = (Mo_madeKind sMo).toInt) ∧ ((Mo_madeSubsets r.1).toInt = (Mo_madeSubsets sMo).toInt) ∧ ((Mo_written r.1).toInt = (Mo_written sMo).toInt)) := by
  unfold Mod_element
  refine So.bd (t_Mod_isEntry ) fun q1 h_1 => ?_
  have p_2 := h_1
  refine So.ite (fun c_3 => ?_) (fun c_3 => ?_)
  · rw [i_eq] at c_3
    have k_4 : (0 : Int32).toInt = 0 := by decide
    unfold Mod_element_j51
    unfold Mod_element_j52
    refine So.pos (by decide) ?_
    unfold Mod_element_j65
    refine So.lt2 fun sMo_10 e_6 => ?_
    have I_7 : I_Mo sMo_10 := by rw [e_6]; exact (I_Mo_set_thrown I_sMo)
    have k_8 : (1 : Int32).toInt = 1 := by decide
    have f_9 : (Mo_thrown sMo_10).toInt = (1 : Int32).toInt := by subst e_6; rfl
    have f_10 : (Mo_used sMo_10).toInt = (Mo_used sMo).toInt := by subst e_6; rfl
    have f_11 : (Mo_madeMany sMo_10).toInt = (Mo_madeMany sMo).toInt := by subst e_6; rfl
    have f_12 : (Mo_madeKind sMo_10).toInt = (Mo_madeKind sMo).toInt := by subst e_6; rfl
    have f_13 : (Mo_madeSubsets sMo_10).toInt = (Mo_madeSubsets sMo).toInt := by subst e_6; rfl
    have f_14 : (Mo_written sMo_10).toInt = (Mo_written sMo).toInt := by subst e_6; rfl
    have f_15 : (Mo_taped sMo_10).toInt = (Mo_taped sMo).toInt := by subst e_6; rfl
    refine So.pos (by decide) ?_
    exact So.one ⟨I_7, I_sMthere, I_sMscales, I_sMwidths, (by show ((Mo_thrown sMo_10).toInt = 0 ∧ (-1 ≤ a0.toInt ∧ a0.toInt < 4 ∧ 0 ≤ a1.toInt ∧ a1.toInt < 64 ∧ -8 ≤ a2.toInt ∧ a2.toInt ≤ 8 ∧ -1000000000 ≤ a3.toInt ∧ a3.toInt ≤ 1000000000 ∧ 1 ≤ a4.toInt ∧ a4.toInt ≤ 32)) ∨ ((Mo_thrown sMo_10).toInt = 1 ∧ ¬ (-1 ≤ a0.toInt ∧ a0.toInt < 4 ∧ 0 ≤ a1.toInt ∧ a1.toInt < 64 ∧ -8 ≤ a2.toInt ∧ a2.toInt ≤ 8 ∧ -1000000000 ≤ a3.toInt ∧ a3.toInt ≤ 1000000000 ∧ 1 ≤ a4.toInt ∧ a4.toInt ≤ 32)); omega), (by show (Mo_used sMo_10).toInt = (Mo_used sMo).toInt; omega), (by show (Mo_taped sMo_10).toInt = (Mo_taped sMo).toInt; omega), (by show (Mo_madeMany sMo_10).toInt = (Mo_madeMany sMo).toInt; omega), (by show (Mo_madeKind sMo_10).toInt = (Mo_madeKind sMo).toInt; omega), (by show (Mo_madeSubsets sMo_10).toInt = (Mo_madeSubsets sMo).toInt; omega), (by show (Mo_written sMo_10).toInt = (Mo_written sMo).toInt; omega)⟩
  · rw [i_eq] at c_3
    have k_17 : (0 : Int32).toInt = 0 := by decide
    refine So.ite (fun c_18 => ?_) (fun c_18 => ?_)
    · rw [i_lt] at c_18
      have k_19 : ((-8) : Int32).toInt = -8 := by decide
      unfold Mod_element_j51
      unfold Mod_element_j52
      refine So.pos (by decide) ?_
      unfold Mod_element_j65
      refine So.lt2 fun sMo_10 e_21 => ?_
      have I_22 : I_Mo sMo_10 := by rw [e_21]; exact (I_Mo_set_thrown I_sMo)
      have k_23 : (1 : Int32).toInt = 1 := by decide
      have f_24 : (Mo_thrown sMo_10).toInt = (1 : Int32).toInt := by subst e_21; rfl
      have f_25 : (Mo_used sMo_10).toInt = (Mo_used sMo).toInt := by subst e_21; rfl
      have f_26 : (Mo_madeMany sMo_10).toInt = (Mo_madeMany sMo).toInt := by subst e_21; rfl
      have f_27 : (Mo_madeKind sMo_10).toInt = (Mo_madeKind sMo).toInt := by subst e_21; rfl
      have f_28 : (Mo_madeSubsets sMo_10).toInt = (Mo_madeSubsets sMo).toInt := by subst e_21; rfl
      have f_29 : (Mo_written sMo_10).toInt = (Mo_written sMo).toInt := by subst e_21; rfl
      have f_30 : (Mo_taped sMo_10).toInt = (Mo_taped sMo).toInt := by subst e_21; rfl
      refine So.pos (by decide) ?_
      exact So.one ⟨I_22, I_sMthere, I_sMscales, I_sMwidths, (by show ((Mo_thrown sMo_10).toInt = 0 ∧ (-1 ≤ a0.toInt ∧ a0.toInt < 4 ∧ 0 ≤ a1.toInt ∧ a1.toInt < 64 ∧ -8 ≤ a2.toInt ∧ a2.toInt ≤ 8 ∧ -1000000000 ≤ a3.toInt ∧ a3.toInt ≤ 1000000000 ∧ 1 ≤ a4.toInt ∧ a4.toInt ≤ 32)) ∨ ((Mo_thrown sMo_10).toInt = 1 ∧ ¬ (-1 ≤ a0.toInt ∧ a0.toInt < 4 ∧ 0 ≤ a1.toInt ∧ a1.toInt < 64 ∧ -8 ≤ a2.toInt ∧ a2.toInt ≤ 8 ∧ -1000000000 ≤ a3.toInt ∧ a3.toInt ≤ 1000000000 ∧ 1 ≤ a4.toInt ∧ a4.toInt ≤ 32)); omega), (by show (Mo_used sMo_10).toInt = (Mo_used sMo).toInt; omega), (by show (Mo_taped sMo_10).toInt = (Mo_taped sMo).toInt; omega), (by show (Mo_madeMany sMo_10).toInt = (Mo_madeMany sMo).toInt; omega), (by show (Mo_madeKind sMo_10).toInt = (Mo_madeKind sMo).toInt; omega), (by show (Mo_madeSubsets sMo_10).toInt = (Mo_madeSubsets sMo).toInt; omega), (by show (Mo_written sMo_10).toInt = (Mo_written sMo).toInt; omega)⟩
    · rw [i_lt] at c_18
      have k_32 : ((-8) : Int32).toInt = -8 := by decide
      refine So.ite (fun c_33 => ?_) (fun c_33 => ?_)
      · rw [i_lt] at c_33
        have k_34 : (8 : Int32).toInt = 8 := by decide
        unfold Mod_element_j51
        unfold Mod_element_j52
        refine So.pos (by decide) ?_
        unfold Mod_element_j65
        refine So.lt2 fun sMo_10 e_36 => ?_
        have I_37 : I_Mo sMo_10 := by rw [e_36]; exact (I_Mo_set_thrown I_sMo)
        have k_38 : (1 : Int32).toInt = 1 := by decide
        have f_39 : (Mo_thrown sMo_10).toInt = (1 : Int32).toInt := by subst e_36; rfl
        have f_40 : (Mo_used sMo_10).toInt = (Mo_used sMo).toInt := by subst e_36; rfl
        have f_41 : (Mo_madeMany sMo_10).toInt = (Mo_madeMany sMo).toInt := by subst e_36; rfl
        have f_42 : (Mo_madeKind sMo_10).toInt = (Mo_madeKind sMo).toInt := by subst e_36; rfl
        have f_43 : (Mo_madeSubsets sMo_10).toInt = (Mo_madeSubsets sMo).toInt := by subst e_36; rfl
        have f_44 : (Mo_written sMo_10).toInt = (Mo_written sMo).toInt := by subst e_36; rfl
        have f_45 : (Mo_taped sMo_10).toInt = (Mo_taped sMo).toInt := by subst e_36; rfl
        refine So.pos (by decide) ?_
        exact So.one ⟨I_37, I_sMthere, I_sMscales, I_sMwidths, (by show ((Mo_thrown sMo_10).toInt = 0 ∧ (-1 ≤ a0.toInt ∧ a0.toInt < 4 ∧ 0 ≤ a1.toInt ∧ a1.toInt < 64 ∧ -8 ≤ a2.toInt ∧ a2.toInt ≤ 8 ∧ -1000000000 ≤ a3.toInt ∧ a3.toInt ≤ 1000000000 ∧ 1 ≤ a4.toInt ∧ a4.toInt ≤ 32)) ∨ ((Mo_thrown sMo_10).toInt = 1 ∧ ¬ (-1 ≤ a0.toInt ∧ a0.toInt < 4 ∧ 0 ≤ a1.toInt ∧ a1.toInt < 64 ∧ -8 ≤ a2.toInt ∧ a2.toInt ≤ 8 ∧ -1000000000 ≤ a3.toInt ∧ a3.toInt ≤ 1000000000 ∧ 1 ≤ a4.toInt ∧ a4.toInt ≤ 32)); omega), (by show (Mo_used sMo_10).toInt = (Mo_used sMo).toInt; omega), (by show (Mo_taped sMo_10).toInt = (Mo_taped sMo).toInt; omega), (by show (Mo_madeMany sMo_10).toInt = (Mo_madeMany sMo).toInt; omega), (by show (Mo_madeKind sMo_10).toInt = (Mo_madeKind sMo).toInt; omega), (by show (Mo_madeSubsets sMo_10).toInt = (Mo_madeSubsets sMo).toInt; omega), (by show (Mo_written sMo_10).toInt = (Mo_written sMo).toInt; omega)⟩
      · rw [i_lt] at c_33
        have k_47 : (8 : Int32).toInt = 8 := by decide
        refine So.ite (fun c_48 => ?_) (fun c_48 => ?_)
        · rw [i_lt] at c_48
          have k_49 : ((-1000000000) : Int32).toInt = -1000000000 := by decide
          unfold Mod_element_j51
          unfold Mod_element_j52
          refine So.pos (by decide) ?_
          unfold Mod_element_j65
          refine So.lt2 fun sMo_10 e_51 => ?_
          have I_52 : I_Mo sMo_10 := by rw [e_51]; exact (I_Mo_set_thrown I_sMo)
          have k_53 : (1 : Int32).toInt = 1 := by decide
          have f_54 : (Mo_thrown sMo_10).toInt = (1 : Int32).toInt := by subst e_51; rfl
          have f_55 : (Mo_used sMo_10).toInt = (Mo_used sMo).toInt := by subst e_51; rfl
          have f_56 : (Mo_madeMany sMo_10).toInt = (Mo_madeMany sMo).toInt := by subst e_51; rfl
          have f_57 : (Mo_madeKind sMo_10).toInt = (Mo_madeKind sMo).toInt := by subst e_51; rfl
          have f_58 : (Mo_madeSubsets sMo_10).toInt = (Mo_madeSubsets sMo).toInt := by subst e_51; rfl
          have f_59 : (Mo_written sMo_10).toInt = (Mo_written sMo).toInt := by subst e_51; rfl
          have f_60 : (Mo_taped sMo_10).toInt = (Mo_taped sMo).toInt := by subst e_51; rfl
          refine So.pos (by decide) ?_
          exact So.one ⟨I_52, I_sMthere, I_sMscales, I_sMwidths, (by show ((Mo_thrown sMo_10).toInt = 0 ∧ (-1 ≤ a0.toInt ∧ a0.toInt < 4 ∧ 0 ≤ a1.toInt ∧ a1.toInt < 64 ∧ -8 ≤ a2.toInt ∧ a2.toInt ≤ 8 ∧ -1000000000 ≤ a3.toInt ∧ a3.toInt ≤ 1000000000 ∧ 1 ≤ a4.toInt ∧ a4.toInt ≤ 32)) ∨ ((Mo_thrown sMo_10).toInt = 1 ∧ ¬ (-1 ≤ a0.toInt ∧ a0.toInt < 4 ∧ 0 ≤ a1.toInt ∧ a1.toInt < 64 ∧ -8 ≤ a2.toInt ∧ a2.toInt ≤ 8 ∧ -1000000000 ≤ a3.toInt ∧ a3.toInt ≤ 1000000000 ∧ 1 ≤ a4.toInt ∧ a4.toInt ≤ 32)); omega), (by show (Mo_used sMo_10).toInt = (Mo_used sMo).toInt; omega), (by show (Mo_taped sMo_10).toInt = (Mo_taped sMo).toInt; omega), (by show (Mo_madeMany sMo_10).toInt = (Mo_madeMany sMo).toInt; omega), (by show (Mo_madeKind sMo_10).toInt = (Mo_madeKind sMo).toInt; omega), (by show (Mo_madeSubsets sMo_10).toInt = (Mo_madeSubsets sMo).toInt; omega), (by show (Mo_written sMo_10).toInt = (Mo_written sMo).toInt; omega)⟩
        · rw [i_lt] at c_48
          have k_62 : ((-1000000000) : Int32).toInt = -1000000000 := by decide
          refine So.ite (fun c_63 => ?_) (fun c_63 => ?_)
          · rw [i_lt] at c_63
            have k_64 : (1000000000 : Int32).toInt = 1000000000 := by decide
            unfold Mod_element_j51
            unfold Mod_element_j52
            refine So.pos (by decide) ?_
            unfold Mod_element_j65
            refine So.lt2 fun sMo_10 e_66 => ?_
            have I_67 : I_Mo sMo_10 := by rw [e_66]; exact (I_Mo_set_thrown I_sMo)
            have k_68 : (1 : Int32).toInt = 1 := by decide
            have f_69 : (Mo_thrown sMo_10).toInt = (1 : Int32).toInt := by subst e_66; rfl
            have f_70 : (Mo_used sMo_10).toInt = (Mo_used sMo).toInt := by subst e_66; rfl
            have f_71 : (Mo_madeMany sMo_10).toInt = (Mo_madeMany sMo).toInt := by subst e_66; rfl
            have f_72 : (Mo_madeKind sMo_10).toInt = (Mo_madeKind sMo).toInt := by subst e_66; rfl
            have f_73 : (Mo_madeSubsets sMo_10).toInt = (Mo_madeSubsets sMo).toInt := by subst e_66; rfl
            have f_74 : (Mo_written sMo_10).toInt = (Mo_written sMo).toInt := by subst e_66; rfl
            have f_75 : (Mo_taped sMo_10).toInt = (Mo_taped sMo).toInt := by subst e_66; rfl
            refine So.pos (by decide) ?_
            exact So.one ⟨I_67, I_sMthere, I_sMscales, I_sMwidths, (by show ((Mo_thrown sMo_10).toInt = 0 ∧ (-1 ≤ a0.toInt ∧ a0.toInt < 4 ∧ 0 ≤ a1.toInt ∧ a1.toInt < 64 ∧ -8 ≤ a2.toInt ∧ a2.toInt ≤ 8 ∧ -1000000000 ≤ a3.toInt ∧ a3.toInt ≤ 1000000000 ∧ 1 ≤ a4.toInt ∧ a4.toInt ≤ 32)) ∨ ((Mo_thrown sMo_10).toInt = 1 ∧ ¬ (-1 ≤ a0.toInt ∧ a0.toInt < 4 ∧ 0 ≤ a1.toInt ∧ a1.toInt < 64 ∧ -8 ≤ a2.toInt ∧ a2.toInt ≤ 8 ∧ -1000000000 ≤ a3.toInt ∧ a3.toInt ≤ 1000000000 ∧ 1 ≤ a4.toInt ∧ a4.toInt ≤ 32)); omega), (by show (Mo_used sMo_10).toInt = (Mo_used sMo).toInt; omega), (by show (Mo_taped sMo_10).toInt = (Mo_taped sMo).toInt; omega), (by show (Mo_madeMany sMo_10).toInt = (Mo_madeMany sMo).toInt; omega), (by show (Mo_madeKind sMo_10).toInt = (Mo_madeKind sMo).toInt; omega), (by show (Mo_madeSubsets sMo_10).toInt = (Mo_madeSubsets sMo).toInt; omega), (by show (Mo_written sMo_10).toInt = (Mo_written sMo).toInt; omega)⟩
          · rw [i_lt] at c_63
            have k_77 : (1000000000 : Int32).toInt = 1000000000 := by decide
            refine So.ite (fun c_78 => ?_) (fun c_78 => ?_)
            · rw [i_lt] at c_78
              have k_79 : (1 : Int32).toInt = 1 := by decide
              unfold Mod_element_j51
              unfold Mod_element_j52
              refine So.pos (by decide) ?_
              unfold Mod_element_j65
              refine So.lt2 fun sMo_10 e_81 => ?_
              have I_82 : I_Mo sMo_10 := by rw [e_81]; exact (I_Mo_set_thrown I_sMo)
              have f_83 : (Mo_thrown sMo_10).toInt = (1 : Int32).toInt := by subst e_81; rfl
              have f_84 : (Mo_used sMo_10).toInt = (Mo_used sMo).toInt := by subst e_81; rfl
              have f_85 : (Mo_madeMany sMo_10).toInt = (Mo_madeMany sMo).toInt := by subst e_81; rfl
              have f_86 : (Mo_madeKind sMo_10).toInt = (Mo_madeKind sMo).toInt := by subst e_81; rfl
              have f_87 : (Mo_madeSubsets sMo_10).toInt = (Mo_madeSubsets sMo).toInt := by subst e_81; rfl
              have f_88 : (Mo_written sMo_10).toInt = (Mo_written sMo).toInt := by subst e_81; rfl
              have f_89 : (Mo_taped sMo_10).toInt = (Mo_taped sMo).toInt := by subst e_81; rfl
              refine So.pos (by decide) ?_
              exact So.one ⟨I_82, I_sMthere, I_sMscales, I_sMwidths, (by show ((Mo_thrown sMo_10).toInt = 0 ∧ (-1 ≤ a0.toInt ∧ a0.toInt < 4 ∧ 0 ≤ a1.toInt ∧ a1.toInt < 64 ∧ -8 ≤ a2.toInt ∧ a2.toInt ≤ 8 ∧ -1000000000 ≤ a3.toInt ∧ a3.toInt ≤ 1000000000 ∧ 1 ≤ a4.toInt ∧ a4.toInt ≤ 32)) ∨ ((Mo_thrown sMo_10).toInt = 1 ∧ ¬ (-1 ≤ a0.toInt ∧ a0.toInt < 4 ∧ 0 ≤ a1.toInt ∧ a1.toInt < 64 ∧ -8 ≤ a2.toInt ∧ a2.toInt ≤ 8 ∧ -1000000000 ≤ a3.toInt ∧ a3.toInt ≤ 1000000000 ∧ 1 ≤ a4.toInt ∧ a4.toInt ≤ 32)); omega), (by show (Mo_used sMo_10).toInt = (Mo_used sMo).toInt; omega), (by show (Mo_taped sMo_10).toInt = (Mo_taped sMo).toInt; omega), (by show (Mo_madeMany sMo_10).toInt = (Mo_madeMany sMo).toInt; omega), (by show (Mo_madeKind sMo_10).toInt = (Mo_madeKind sMo).toInt; omega), (by show (Mo_madeSubsets sMo_10).toInt = (Mo_madeSubsets sMo).toInt; omega), (by show (Mo_written sMo_10).toInt = (Mo_written sMo).toInt; omega)⟩
            · rw [i_lt] at c_78
              have k_91 : (1 : Int32).toInt = 1 := by decide
              refine So.ite (fun c_92 => ?_) (fun c_92 => ?_)
              · rw [i_lt] at c_92
                have k_93 : (32 : Int32).toInt = 32 := by decide
                unfold Mod_element_j51
                unfold Mod_element_j52
                refine So.pos (by decide) ?_
                unfold Mod_element_j65
                refine So.lt2 fun sMo_10 e_95 => ?_
                have I_96 : I_Mo sMo_10 := by rw [e_95]; exact (I_Mo_set_thrown I_sMo)
                have f_97 : (Mo_thrown sMo_10).toInt = (1 : Int32).toInt := by subst e_95; rfl
                have f_98 : (Mo_used sMo_10).toInt = (Mo_used sMo).toInt := by subst e_95; rfl
                have f_99 : (Mo_madeMany sMo_10).toInt = (Mo_madeMany sMo).toInt := by subst e_95; rfl
                have f_100 : (Mo_madeKind sMo_10).toInt = (Mo_madeKind sMo).toInt := by subst e_95; rfl
                have f_101 : (Mo_madeSubsets sMo_10).toInt = (Mo_madeSubsets sMo).toInt := by subst e_95; rfl
                have f_102 : (Mo_written sMo_10).toInt = (Mo_written sMo).toInt := by subst e_95; rfl
                have f_103 : (Mo_taped sMo_10).toInt = (Mo_taped sMo).toInt := by subst e_95; rfl
                refine So.pos (by decide) ?_
                exact So.one ⟨I_96, I_sMthere, I_sMscales, I_sMwidths, (by show ((Mo_thrown sMo_10).toInt = 0 ∧ (-1 ≤ a0.toInt ∧ a0.toInt < 4 ∧ 0 ≤ a1.toInt ∧ a1.toInt < 64 ∧ -8 ≤ a2.toInt ∧ a2.toInt ≤ 8 ∧ -1000000000 ≤ a3.toInt ∧ a3.toInt ≤ 1000000000 ∧ 1 ≤ a4.toInt ∧ a4.toInt ≤ 32)) ∨ ((Mo_thrown sMo_10).toInt = 1 ∧ ¬ (-1 ≤ a0.toInt ∧ a0.toInt < 4 ∧ 0 ≤ a1.toInt ∧ a1.toInt < 64 ∧ -8 ≤ a2.toInt ∧ a2.toInt ≤ 8 ∧ -1000000000 ≤ a3.toInt ∧ a3.toInt ≤ 1000000000 ∧ 1 ≤ a4.toInt ∧ a4.toInt ≤ 32)); omega), (by show (Mo_used sMo_10).toInt = (Mo_used sMo).toInt; omega), (by show (Mo_taped sMo_10).toInt = (Mo_taped sMo).toInt; omega), (by show (Mo_madeMany sMo_10).toInt = (Mo_madeMany sMo).toInt; omega), (by show (Mo_madeKind sMo_10).toInt = (Mo_madeKind sMo).toInt; omega), (by show (Mo_madeSubsets sMo_10).toInt = (Mo_madeSubsets sMo).toInt; omega), (by show (Mo_written sMo_10).toInt = (Mo_written sMo).toInt; omega)⟩
              · rw [i_lt] at c_92
                have k_105 : (32 : Int32).toInt = 32 := by decide
                unfold Mod_element_j52
                refine So.neg (by decide) ?_
                unfold Mod_element_j65
                refine So.lt2 fun sMo_10 e_107 => ?_
                have I_108 : I_Mo sMo_10 := by rw [e_107]; exact (I_Mo_set_thrown I_sMo)
                have f_109 : (Mo_thrown sMo_10).toInt = (0 : Int32).toInt := by subst e_107; rfl
                have f_110 : (Mo_used sMo_10).toInt = (Mo_used sMo).toInt := by subst e_107; rfl
                have f_111 : (Mo_madeMany sMo_10).toInt = (Mo_madeMany sMo).toInt := by subst e_107; rfl
                have f_112 : (Mo_madeKind sMo_10).toInt = (Mo_madeKind sMo).toInt := by subst e_107; rfl
                have f_113 : (Mo_madeSubsets sMo_10).toInt = (Mo_madeSubsets sMo).toInt := by subst e_107; rfl
                have f_114 : (Mo_written sMo_10).toInt = (Mo_written sMo).toInt := by subst e_107; rfl
                have f_115 : (Mo_taped sMo_10).toInt = (Mo_taped sMo).toInt := by subst e_107; rfl
                refine So.neg (by decide) ?_
                refine So.bd (t_Mod_entry (by show -1 ≤ a0.toInt; omega) (by show a0.toInt < 4; omega) (by show 0 ≤ a1.toInt; omega) (by show a1.toInt < 64; omega)) fun q11 h_117 => ?_
                have p_118 := h_117
                refine So.gd (i_in.mpr (by omega)) ?_
                refine So.lt2 fun sMthere_13 e_119 => ?_
                have f_120 := i_nar (1 : Int32)
                have I_121 : A_Mthere sMthere_13 := by rw [e_119]; exact (A_Mthere_upd I_sMthere (by show 0 ≤ ((vp_nar .boolean 1) : Int32).toInt ∧ ((vp_nar .boolean 1) : Int32).toInt ≤ 1; omega))
                refine So.gd (i_in.mpr (by omega)) ?_
                refine So.lt2 fun sMscales_15 e_122 => ?_
                have I_123 : A_Mscales sMscales_15 := by rw [e_122]; exact (A_Mscales_upd I_sMscales (by show -8 ≤ (a2 : Int32).toInt ∧ (a2 : Int32).toInt ≤ 8; omega))
                refine So.gd (i_in.mpr (by omega)) ?_
                refine So.lt2 fun sMreferences_17 e_124 => ?_
                refine So.gd (i_in.mpr (by omega)) ?_
                refine So.lt2 fun sMwidths_19 e_125 => ?_
                have I_126 : A_Mwidths sMwidths_19 := by rw [e_125]; exact (A_Mwidths_upd I_sMwidths (by show 0 ≤ (a4 : Int32).toInt ∧ (a4 : Int32).toInt ≤ 32; omega))
                exact So.one ⟨I_108, I_121, I_123, I_126, (by show ((Mo_thrown sMo_10).toInt = 0 ∧ (-1 ≤ a0.toInt ∧ a0.toInt < 4 ∧ 0 ≤ a1.toInt ∧ a1.toInt < 64 ∧ -8 ≤ a2.toInt ∧ a2.toInt ≤ 8 ∧ -1000000000 ≤ a3.toInt ∧ a3.toInt ≤ 1000000000 ∧ 1 ≤ a4.toInt ∧ a4.toInt ≤ 32)) ∨ ((Mo_thrown sMo_10).toInt = 1 ∧ ¬ (-1 ≤ a0.toInt ∧ a0.toInt < 4 ∧ 0 ≤ a1.toInt ∧ a1.toInt < 64 ∧ -8 ≤ a2.toInt ∧ a2.toInt ≤ 8 ∧ -1000000000 ≤ a3.toInt ∧ a3.toInt ≤ 1000000000 ∧ 1 ≤ a4.toInt ∧ a4.toInt ≤ 32)); omega), (by show (Mo_used sMo_10).toInt = (Mo_used sMo).toInt; omega), (by show (Mo_taped sMo_10).toInt = (Mo_taped sMo).toInt; omega), (by show (Mo_madeMany sMo_10).toInt = (Mo_madeMany sMo).toInt; omega), (by show (Mo_madeKind sMo_10).toInt = (Mo_madeKind sMo).toInt; omega), (by show (Mo_madeSubsets sMo_10).toInt = (Mo_madeSubsets sMo).toInt; omega), (by show (Mo_written sMo_10).toInt = (Mo_written sMo).toInt; omega)⟩
theorem t_Mod_drop {a0 : Int32} {a1 : Int32} {sMo : S_Mo} {sMthere : (Nat → Int32)} (I_sMo : I_Mo sMo) (I_sMthere : A_Mthere sMthere) : So (Mod_drop a0 a1 sMo sMthere) (fun r => I_Mo r.2.1 ∧ A_Mthere r.2.2 ∧ ((Mo_used r.2.1).toInt = (Mo_used sMo).toInt) ∧ ((Mo_taped r.2.1).toInt = (Mo_taped sMo).toInt) ∧ ((Mo_madeMany r.2.1).toInt = (Mo_madeMany sMo).toInt) ∧ ((Mo_madeKind r.2.1).toInt = (Mo_madeKind sMo).toInt) ∧ ((Mo_madeSubsets r.2.1).toInt = (Mo_madeSubsets sMo).toInt) ∧ ((Mo_written r.2.1).toInt = (Mo_written sMo).toInt)) := by
  unfold Mod_drop
  refine So.lt2 fun sMo_1 e_1 => ?_
  have I_2 : I_Mo sMo_1 := by rw [e_1]; exact (I_Mo_set_thrown I_sMo)
  have k_3 : (0 : Int32).toInt = 0 := by decide
  have f_4 : (Mo_used sMo_1).toInt = (Mo_used sMo).toInt := by subst e_1; rfl
  have f_5 : (Mo_madeMany sMo_1).toInt = (Mo_madeMany sMo).toInt := by subst e_1; rfl
  have f_6 : (Mo_madeKind sMo_1).toInt = (Mo_madeKind sMo).toInt := by subst e_1; rfl
  have f_7 : (Mo_madeSubsets sMo_1).toInt = (Mo_madeSubsets sMo).toInt := by subst e_1; rfl
  have f_8 : (Mo_written sMo_1).toInt = (Mo_written sMo).toInt := by subst e_1; rfl
  have f_9 : (Mo_taped sMo_1).toInt = (Mo_taped sMo).toInt := by subst e_1; rfl
  refine So.bd (t_Mod_isEntry ) fun q2 h_10 => ?_
  have p_11 := h_10
  refine So.ite (fun c_12 => ?_) (fun c_12 => ?_)
  · rw [i_eq] at c_12
    exact So.one ⟨I_2, I_sMthere, (by show (Mo_used sMo_1).toInt = (Mo_used sMo).toInt; omega), (by show (Mo_taped sMo_1).toInt = (Mo_taped sMo).toInt; omega), (by show (Mo_madeMany sMo_1).toInt = (Mo_madeMany sMo).toInt; omega), (by show (Mo_madeKind sMo_1).toInt = (Mo_madeKind sMo).toInt; omega), (by show (Mo_madeSubsets sMo_1).toInt = (Mo_madeSubsets sMo).toInt; omega), (by show (Mo_written sMo_1).toInt = (Mo_written sMo).toInt; omega)⟩
  · rw [i_eq] at c_12
    refine So.bd (t_Mod_entry (by show -1 ≤ a0.toInt; omega) (by show a0.toInt < 4; omega) (by show 0 ≤ a1.toInt; omega) (by show a1.toInt < 64; omega)) fun q3 h_13 => ?_
    have p_14 := h_13
    refine So.gd (i_in.mpr (by omega)) ?_
    refine So.bd (t_Mod_entry (by show -1 ≤ a0.toInt; omega) (by show a0.toInt < 4; omega) (by show 0 ≤ a1.toInt; omega) (by show a1.toInt < 64; omega)) fun q5 h_15 => ?_
    have p_16 := h_15
    refine So.gd (i_in.mpr (by omega)) ?_
    refine So.lt2 fun sMthere_7 e_17 => ?_
    have f_18 := i_nar (0 : Int32)
    have I_19 : A_Mthere sMthere_7 := by rw [e_17]; exact (A_Mthere_upd I_sMthere (by show 0 ≤ ((vp_nar .boolean 0) : Int32).toInt ∧ ((vp_nar .boolean 0) : Int32).toInt ≤ 1; omega))
    have f_20 := A_Mthere_at I_sMthere (q3.toNatClampNeg)
    refine So.gd (i_bool (a := (sMthere (q3.toNatClampNeg))) (by omega)) ?_
    exact So.one ⟨I_2, I_19, (by show (Mo_used sMo_1).toInt = (Mo_used sMo).toInt; omega), (by show (Mo_taped sMo_1).toInt = (Mo_taped sMo).toInt; omega), (by show (Mo_madeMany sMo_1).toInt = (Mo_madeMany sMo).toInt; omega), (by show (Mo_madeKind sMo_1).toInt = (Mo_madeKind sMo).toInt; omega), (by show (Mo_madeSubsets sMo_1).toInt = (Mo_madeSubsets sMo).toInt; omega), (by show (Mo_written sMo_1).toInt = (Mo_written sMo).toInt; omega)⟩
theorem t_Mod_version {a0 : Int32} {sMo : S_Mo} (I_sMo : I_Mo sMo) : So (Mod_version a0 sMo) (fun r => I_Mo r ∧ (((Mo_thrown r).toInt = 0 ∧ (0 ≤ a0.toInt ∧ a0.toInt < 4)) ∨ ((Mo_thrown r).toInt = 1 ∧ ¬ (0 ≤ a0.toInt ∧ a0.toInt < 4))) ∧ ((Mo_taped r).toInt = (Mo_taped sMo).toInt) ∧ ((Mo_madeMany r).toInt = (Mo_madeMany sMo).toInt) ∧ ((Mo_madeKind r).toInt = (Mo_madeKind sMo).toInt) ∧ ((Mo_madeSubsets r).toInt = (Mo_madeSubsets sMo).toInt) ∧ ((Mo_written r).toInt = (Mo_written sMo).toInt)) := by
  unfold Mod_version
  refine So.ite (fun c_1 => ?_) (fun c_1 => ?_)
  · rw [i_lt] at c_1
    have k_2 : (0 : Int32).toInt = 0 := by decide
    unfold Mod_version_j10
    unfold Mod_version_j15
    refine So.lt2 fun sMo_3 e_3 => ?_
    have I_4 : I_Mo sMo_3 := by rw [e_3]; exact (I_Mo_set_thrown I_sMo)
    have k_5 : (1 : Int32).toInt = 1 := by decide
    have f_6 : (Mo_thrown sMo_3).toInt = (1 : Int32).toInt := by subst e_3; rfl
    have f_7 : (Mo_madeMany sMo_3).toInt = (Mo_madeMany sMo).toInt := by subst e_3; rfl
    have f_8 : (Mo_madeKind sMo_3).toInt = (Mo_madeKind sMo).toInt := by subst e_3; rfl
    have f_9 : (Mo_madeSubsets sMo_3).toInt = (Mo_madeSubsets sMo).toInt := by subst e_3; rfl
    have f_10 : (Mo_written sMo_3).toInt = (Mo_written sMo).toInt := by subst e_3; rfl
    have f_11 : (Mo_taped sMo_3).toInt = (Mo_taped sMo).toInt := by subst e_3; rfl
    refine So.ite (fun c_12 => ?_) (fun c_12 => ?_)
    · rw [i_eq] at c_12
      refine So.lt2 fun sMo_4 e_13 => ?_
      have I_14 : I_Mo sMo_4 := by rw [e_13]; exact (I_Mo_set_used I_4 (by show 0 ≤ (a0 : Int32).toInt ∧ (a0 : Int32).toInt ≤ 3; omega))
      have f_15 : (Mo_thrown sMo_4).toInt = (Mo_thrown sMo_3).toInt := by subst e_13; rfl
      have f_16 : (Mo_madeMany sMo_4).toInt = (Mo_madeMany sMo_3).toInt := by subst e_13; rfl
      have f_17 : (Mo_madeKind sMo_4).toInt = (Mo_madeKind sMo_3).toInt := by subst e_13; rfl
      have f_18 : (Mo_madeSubsets sMo_4).toInt = (Mo_madeSubsets sMo_3).toInt := by subst e_13; rfl
      have f_19 : (Mo_written sMo_4).toInt = (Mo_written sMo_3).toInt := by subst e_13; rfl
      have f_20 : (Mo_taped sMo_4).toInt = (Mo_taped sMo_3).toInt := by subst e_13; rfl
      exact So.one ⟨I_14, (by show ((Mo_thrown sMo_4).toInt = 0 ∧ (0 ≤ a0.toInt ∧ a0.toInt < 4)) ∨ ((Mo_thrown sMo_4).toInt = 1 ∧ ¬ (0 ≤ a0.toInt ∧ a0.toInt < 4)); omega), (by show (Mo_taped sMo_4).toInt = (Mo_taped sMo).toInt; omega), (by show (Mo_madeMany sMo_4).toInt = (Mo_madeMany sMo).toInt; omega), (by show (Mo_madeKind sMo_4).toInt = (Mo_madeKind sMo).toInt; omega), (by show (Mo_madeSubsets sMo_4).toInt = (Mo_madeSubsets sMo).toInt; omega), (by show (Mo_written sMo_4).toInt = (Mo_written sMo).toInt; omega)⟩
    · rw [i_eq] at c_12
      exact So.one ⟨I_4, (by show ((Mo_thrown sMo_3).toInt = 0 ∧ (0 ≤ a0.toInt ∧ a0.toInt < 4)) ∨ ((Mo_thrown sMo_3).toInt = 1 ∧ ¬ (0 ≤ a0.toInt ∧ a0.toInt < 4)); omega), (by show (Mo_taped sMo_3).toInt = (Mo_taped sMo).toInt; omega), (by show (Mo_madeMany sMo_3).toInt = (Mo_madeMany sMo).toInt; omega), (by show (Mo_madeKind sMo_3).toInt = (Mo_madeKind sMo).toInt; omega), (by show (Mo_madeSubsets sMo_3).toInt = (Mo_madeSubsets sMo).toInt; omega), (by show (Mo_written sMo_3).toInt = (Mo_written sMo).toInt; omega)⟩
  · rw [i_lt] at c_1
    have k_21 : (0 : Int32).toInt = 0 := by decide
    refine So.ite (fun c_22 => ?_) (fun c_22 => ?_)
    · rw [i_le] at c_22
      have k_23 : (3 : Int32).toInt = 3 := by decide
      unfold Mod_version_j15
      refine So.lt2 fun sMo_3 e_24 => ?_
      have I_25 : I_Mo sMo_3 := by rw [e_24]; exact (I_Mo_set_thrown I_sMo)
      have f_26 : (Mo_thrown sMo_3).toInt = (0 : Int32).toInt := by subst e_24; rfl
      have f_27 : (Mo_madeMany sMo_3).toInt = (Mo_madeMany sMo).toInt := by subst e_24; rfl
      have f_28 : (Mo_madeKind sMo_3).toInt = (Mo_madeKind sMo).toInt := by subst e_24; rfl
      have f_29 : (Mo_madeSubsets sMo_3).toInt = (Mo_madeSubsets sMo).toInt := by subst e_24; rfl
      have f_30 : (Mo_written sMo_3).toInt = (Mo_written sMo).toInt := by subst e_24; rfl
      have f_31 : (Mo_taped sMo_3).toInt = (Mo_taped sMo).toInt := by subst e_24; rfl
      refine So.ite (fun c_32 => ?_) (fun c_32 => ?_)
      · rw [i_eq] at c_32
        refine So.lt2 fun sMo_4 e_33 => ?_
        have I_34 : I_Mo sMo_4 := by rw [e_33]; exact (I_Mo_set_used I_25 (by show 0 ≤ (a0 : Int32).toInt ∧ (a0 : Int32).toInt ≤ 3; omega))
        have f_35 : (Mo_thrown sMo_4).toInt = (Mo_thrown sMo_3).toInt := by subst e_33; rfl
        have f_36 : (Mo_madeMany sMo_4).toInt = (Mo_madeMany sMo_3).toInt := by subst e_33; rfl
        have f_37 : (Mo_madeKind sMo_4).toInt = (Mo_madeKind sMo_3).toInt := by subst e_33; rfl
        have f_38 : (Mo_madeSubsets sMo_4).toInt = (Mo_madeSubsets sMo_3).toInt := by subst e_33; rfl
        have f_39 : (Mo_written sMo_4).toInt = (Mo_written sMo_3).toInt := by subst e_33; rfl
        have f_40 : (Mo_taped sMo_4).toInt = (Mo_taped sMo_3).toInt := by subst e_33; rfl
        exact So.one ⟨I_34, (by show ((Mo_thrown sMo_4).toInt = 0 ∧ (0 ≤ a0.toInt ∧ a0.toInt < 4)) ∨ ((Mo_thrown sMo_4).toInt = 1 ∧ ¬ (0 ≤ a0.toInt ∧ a0.toInt < 4)); omega), (by show (Mo_taped sMo_4).toInt = (Mo_taped sMo).toInt; omega), (by show (Mo_madeMany sMo_4).toInt = (Mo_madeMany sMo).toInt; omega), (by show (Mo_madeKind sMo_4).toInt = (Mo_madeKind sMo).toInt; omega), (by show (Mo_madeSubsets sMo_4).toInt = (Mo_madeSubsets sMo).toInt; omega), (by show (Mo_written sMo_4).toInt = (Mo_written sMo).toInt; omega)⟩
      · rw [i_eq] at c_32
        exact So.one ⟨I_25, (by show ((Mo_thrown sMo_3).toInt = 0 ∧ (0 ≤ a0.toInt ∧ a0.toInt < 4)) ∨ ((Mo_thrown sMo_3).toInt = 1 ∧ ¬ (0 ≤ a0.toInt ∧ a0.toInt < 4)); omega), (by show (Mo_taped sMo_3).toInt = (Mo_taped sMo).toInt; omega), (by show (Mo_madeMany sMo_3).toInt = (Mo_madeMany sMo).toInt; omega), (by show (Mo_madeKind sMo_3).toInt = (Mo_madeKind sMo).toInt; omega), (by show (Mo_madeSubsets sMo_3).toInt = (Mo_madeSubsets sMo).toInt; omega), (by show (Mo_written sMo_3).toInt = (Mo_written sMo).toInt; omega)⟩
    · rw [i_le] at c_22
      have k_41 : (3 : Int32).toInt = 3 := by decide
      unfold Mod_version_j10
      unfold Mod_version_j15
      refine So.lt2 fun sMo_3 e_42 => ?_
      have I_43 : I_Mo sMo_3 := by rw [e_42]; exact (I_Mo_set_thrown I_sMo)
      have k_44 : (1 : Int32).toInt = 1 := by decide
      have f_45 : (Mo_thrown sMo_3).toInt = (1 : Int32).toInt := by subst e_42; rfl
      have f_46 : (Mo_madeMany sMo_3).toInt = (Mo_madeMany sMo).toInt := by subst e_42; rfl
      have f_47 : (Mo_madeKind sMo_3).toInt = (Mo_madeKind sMo).toInt := by subst e_42; rfl
      have f_48 : (Mo_madeSubsets sMo_3).toInt = (Mo_madeSubsets sMo).toInt := by subst e_42; rfl
      have f_49 : (Mo_written sMo_3).toInt = (Mo_written sMo).toInt := by subst e_42; rfl
      have f_50 : (Mo_taped sMo_3).toInt = (Mo_taped sMo).toInt := by subst e_42; rfl
      refine So.ite (fun c_51 => ?_) (fun c_51 => ?_)
      · rw [i_eq] at c_51
        refine So.lt2 fun sMo_4 e_52 => ?_
        have I_53 : I_Mo sMo_4 := by rw [e_52]; exact (I_Mo_set_used I_43 (by show 0 ≤ (a0 : Int32).toInt ∧ (a0 : Int32).toInt ≤ 3; omega))
        have f_54 : (Mo_thrown sMo_4).toInt = (Mo_thrown sMo_3).toInt := by subst e_52; rfl
        have f_55 : (Mo_madeMany sMo_4).toInt = (Mo_madeMany sMo_3).toInt := by subst e_52; rfl
        have f_56 : (Mo_madeKind sMo_4).toInt = (Mo_madeKind sMo_3).toInt := by subst e_52; rfl
        have f_57 : (Mo_madeSubsets sMo_4).toInt = (Mo_madeSubsets sMo_3).toInt := by subst e_52; rfl
        have f_58 : (Mo_written sMo_4).toInt = (Mo_written sMo_3).toInt := by subst e_52; rfl
        have f_59 : (Mo_taped sMo_4).toInt = (Mo_taped sMo_3).toInt := by subst e_52; rfl
        exact So.one ⟨I_53, (by show ((Mo_thrown sMo_4).toInt = 0 ∧ (0 ≤ a0.toInt ∧ a0.toInt < 4)) ∨ ((Mo_thrown sMo_4).toInt = 1 ∧ ¬ (0 ≤ a0.toInt ∧ a0.toInt < 4)); omega), (by show (Mo_taped sMo_4).toInt = (Mo_taped sMo).toInt; omega), (by show (Mo_madeMany sMo_4).toInt = (Mo_madeMany sMo).toInt; omega), (by show (Mo_madeKind sMo_4).toInt = (Mo_madeKind sMo).toInt; omega), (by show (Mo_madeSubsets sMo_4).toInt = (Mo_madeSubsets sMo).toInt; omega), (by show (Mo_written sMo_4).toInt = (Mo_written sMo).toInt; omega)⟩
      · rw [i_eq] at c_51
        exact So.one ⟨I_43, (by show ((Mo_thrown sMo_3).toInt = 0 ∧ (0 ≤ a0.toInt ∧ a0.toInt < 4)) ∨ ((Mo_thrown sMo_3).toInt = 1 ∧ ¬ (0 ≤ a0.toInt ∧ a0.toInt < 4)); omega), (by show (Mo_taped sMo_3).toInt = (Mo_taped sMo).toInt; omega), (by show (Mo_madeMany sMo_3).toInt = (Mo_madeMany sMo).toInt; omega), (by show (Mo_madeKind sMo_3).toInt = (Mo_madeKind sMo).toInt; omega), (by show (Mo_madeSubsets sMo_3).toInt = (Mo_madeSubsets sMo).toInt; omega), (by show (Mo_written sMo_3).toInt = (Mo_written sMo).toInt; omega)⟩
theorem t_Mod_isRepeat {a0 : Int32}  : So (Mod_isRepeat a0) (fun r => ((r.toInt = 1 ∧ (216 ≤ a0.toInt ∧ a0.toInt ≤ 343)) ∨ (r.toInt = 0 ∧ ¬ (216 ≤ a0.toInt ∧ a0.toInt ≤ 343)))) := by
  unfold Mod_isRepeat
  refine So.ite (fun c_1 => ?_) (fun c_1 => ?_)
  · rw [i_lt] at c_1
    have k_2 : (216 : Int32).toInt = 216 := by decide
    have k_3 : (0 : Int32).toInt = 0 := by decide
    exact So.one (by show ((0 : Int32).toInt = 1 ∧ (216 ≤ a0.toInt ∧ a0.toInt ≤ 343)) ∨ ((0 : Int32).toInt = 0 ∧ ¬ (216 ≤ a0.toInt ∧ a0.toInt ≤ 343)); omega)
  · rw [i_lt] at c_1
    have k_4 : (216 : Int32).toInt = 216 := by decide
    refine So.ite (fun c_5 => ?_) (fun c_5 => ?_)
    · rw [i_lt] at c_5
      have k_6 : (343 : Int32).toInt = 343 := by decide
      have k_7 : (0 : Int32).toInt = 0 := by decide
      exact So.one (by show ((0 : Int32).toInt = 1 ∧ (216 ≤ a0.toInt ∧ a0.toInt ≤ 343)) ∨ ((0 : Int32).toInt = 0 ∧ ¬ (216 ≤ a0.toInt ∧ a0.toInt ≤ 343)); omega)
    · rw [i_lt] at c_5
      have k_8 : (343 : Int32).toInt = 343 := by decide
      have k_9 : (1 : Int32).toInt = 1 := by decide
      exact So.one (by show ((1 : Int32).toInt = 1 ∧ (216 ≤ a0.toInt ∧ a0.toInt ≤ 343)) ∨ ((1 : Int32).toInt = 0 ∧ ¬ (216 ≤ a0.toInt ∧ a0.toInt ≤ 343)); omega)
theorem t_Mod_isDescriptor_j109 {x0_j109 : Int32}  : So (Mod_isDescriptor_j109 x0_j109) (fun r => ((r.toInt = 1 ∧ (x0_j109.toInt = 520)) ∨ (r.toInt = 0 ∧ ¬ (x0_j109.toInt = 520)))) := by
  unfold Mod_isDescriptor_j109
  refine So.ite (fun c_1 => ?_) (fun c_1 => ?_)
  · rw [i_eq] at c_1
    have k_2 : (520 : Int32).toInt = 520 := by decide
    have k_3 : (1 : Int32).toInt = 1 := by decide
    exact So.one (by show ((1 : Int32).toInt = 1 ∧ (x0_j109.toInt = 520)) ∨ ((1 : Int32).toInt = 0 ∧ ¬ (x0_j109.toInt = 520)); omega)
  · rw [i_eq] at c_1
    have k_4 : (520 : Int32).toInt = 520 := by decide
    have k_5 : (0 : Int32).toInt = 0 := by decide
    exact So.one (by show ((0 : Int32).toInt = 1 ∧ (x0_j109.toInt = 520)) ∨ ((0 : Int32).toInt = 0 ∧ ¬ (x0_j109.toInt = 520)); omega)
theorem t_Mod_isDescriptor_j84 {x0_j84 : Int32} {x1_j84 : Int32} (g_0 : (x1_j84.toInt = 0 ∧ ¬ ((400 ≤ x0_j84.toInt ∧ x0_j84.toInt ≤ 431) ∨ (440 ≤ x0_j84.toInt ∧ x0_j84.toInt ≤ 455) ∨ (460 ≤ x0_j84.toInt ∧ x0_j84.toInt ≤ 468) ∨ (480 ≤ x0_j84.toInt ∧ x0_j84.toInt ≤ 487))) ∨ (x1_j84.toInt = 1 ∧ ((400 ≤ x0_j84.toInt ∧ x0_j84.toInt ≤ 431) ∨ (440 ≤ x0_j84.toInt ∧ x0_j84.toInt ≤ 455) ∨ (460 ≤ x0_j84.toInt ∧ x0_j84.toInt ≤ 468) ∨ (480 ≤ x0_j84.toInt ∧ x0_j84.toInt ≤ 487)))) (g_1 : ¬ (0 ≤ x0_j84.toInt ∧ x0_j84.toInt ≤ 63)) (g_2 : ¬ (100 ≤ x0_j84.toInt ∧ x0_j84.toInt ≤ 115)) : So (Mod_isDescriptor_j84 x0_j84 x1_j84) (fun r => ((r.toInt = 1 ∧ ((0 ≤ x0_j84.toInt ∧ x0_j84.toInt ≤ 63) ∨ (100 ≤ x0_j84.toInt ∧ x0_j84.toInt ≤ 115) ∨ (216 ≤ x0_j84.toInt ∧ x0_j84.toInt ≤ 343) ∨ ((400 ≤ x0_j84.toInt ∧ x0_j84.toInt ≤ 431) ∨ (440 ≤ x0_j84.toInt ∧ x0_j84.toInt ≤ 455) ∨ (460 ≤ x0_j84.toInt ∧ x0_j84.toInt ≤ 468) ∨ (480 ≤ x0_j84.toInt ∧ x0_j84.toInt ≤ 487)) ∨ (501 ≤ x0_j84.toInt ∧ x0_j84.toInt ≤ 516) ∨ x0_j84.toInt = 520)) ∨ (r.toInt = 0 ∧ ¬ ((0 ≤ x0_j84.toInt ∧ x0_j84.toInt ≤ 63) ∨ (100 ≤ x0_j84.toInt ∧ x0_j84.toInt ≤ 115) ∨ (216 ≤ x0_j84.toInt ∧ x0_j84.toInt ≤ 343) ∨ ((400 ≤ x0_j84.toInt ∧ x0_j84.toInt ≤ 431) ∨ (440 ≤ x0_j84.toInt ∧ x0_j84.toInt ≤ 455) ∨ (460 ≤ x0_j84.toInt ∧ x0_j84.toInt ≤ 468) ∨ (480 ≤ x0_j84.toInt ∧ x0_j84.toInt ≤ 487)) ∨ (501 ≤ x0_j84.toInt ∧ x0_j84.toInt ≤ 516) ∨ x0_j84.toInt = 520)))) := by
  unfold Mod_isDescriptor_j84
  refine So.bd (t_Mod_isRepeat ) fun q13 h_1 => ?_
  have p_2 := h_1
  refine So.ite (fun c_3 => ?_) (fun c_3 => ?_)
  · rw [i_eq] at c_3
    have k_4 : (0 : Int32).toInt = 0 := by decide
    refine So.ite (fun c_5 => ?_) (fun c_5 => ?_)
    · rw [i_eq] at c_5
      refine So.ite (fun c_6 => ?_) (fun c_6 => ?_)
      · rw [i_lt] at c_6
        have k_7 : (501 : Int32).toInt = 501 := by decide
        refine So.imp (t_Mod_isDescriptor_j109 ) fun q_z h_z => ?_
        have p_8 := h_z
        exact (by show (q_z.toInt = 1 ∧ ((0 ≤ x0_j84.toInt ∧ x0_j84.toInt ≤ 63) ∨ (100 ≤ x0_j84.toInt ∧ x0_j84.toInt ≤ 115) ∨ (216 ≤ x0_j84.toInt ∧ x0_j84.toInt ≤ 343) ∨ ((400 ≤ x0_j84.toInt ∧ x0_j84.toInt ≤ 431) ∨ (440 ≤ x0_j84.toInt ∧ x0_j84.toInt ≤ 455) ∨ (460 ≤ x0_j84.toInt ∧ x0_j84.toInt ≤ 468) ∨ (480 ≤ x0_j84.toInt ∧ x0_j84.toInt ≤ 487)) ∨ (501 ≤ x0_j84.toInt ∧ x0_j84.toInt ≤ 516) ∨ x0_j84.toInt = 520)) ∨ (q_z.toInt = 0 ∧ ¬ ((0 ≤ x0_j84.toInt ∧ x0_j84.toInt ≤ 63) ∨ (100 ≤ x0_j84.toInt ∧ x0_j84.toInt ≤ 115) ∨ (216 ≤ x0_j84.toInt ∧ x0_j84.toInt ≤ 343) ∨ ((400 ≤ x0_j84.toInt ∧ x0_j84.toInt ≤ 431) ∨ (440 ≤ x0_j84.toInt ∧ x0_j84.toInt ≤ 455) ∨ (460 ≤ x0_j84.toInt ∧ x0_j84.toInt ≤ 468) ∨ (480 ≤ x0_j84.toInt ∧ x0_j84.toInt ≤ 487)) ∨ (501 ≤ x0_j84.toInt ∧ x0_j84.toInt ≤ 516) ∨ x0_j84.toInt = 520)); omega)
      · rw [i_lt] at c_6
        have k_9 : (501 : Int32).toInt = 501 := by decide
        refine So.ite (fun c_10 => ?_) (fun c_10 => ?_)
        · rw [i_le] at c_10
          have k_11 : (516 : Int32).toInt = 516 := by decide
          have k_12 : (1 : Int32).toInt = 1 := by decide
          exact So.one (by show ((1 : Int32).toInt = 1 ∧ ((0 ≤ x0_j84.toInt ∧ x0_j84.toInt ≤ 63) ∨ (100 ≤ x0_j84.toInt ∧ x0_j84.toInt ≤ 115) ∨ (216 ≤ x0_j84.toInt ∧ x0_j84.toInt ≤ 343) ∨ ((400 ≤ x0_j84.toInt ∧ x0_j84.toInt ≤ 431) ∨ (440 ≤ x0_j84.toInt ∧ x0_j84.toInt ≤ 455) ∨ (460 ≤ x0_j84.toInt ∧ x0_j84.toInt ≤ 468) ∨ (480 ≤ x0_j84.toInt ∧ x0_j84.toInt ≤ 487)) ∨ (501 ≤ x0_j84.toInt ∧ x0_j84.toInt ≤ 516) ∨ x0_j84.toInt = 520)) ∨ ((1 : Int32).toInt = 0 ∧ ¬ ((0 ≤ x0_j84.toInt ∧ x0_j84.toInt ≤ 63) ∨ (100 ≤ x0_j84.toInt ∧ x0_j84.toInt ≤ 115) ∨ (216 ≤ x0_j84.toInt ∧ x0_j84.toInt ≤ 343) ∨ ((400 ≤ x0_j84.toInt ∧ x0_j84.toInt ≤ 431) ∨ (440 ≤ x0_j84.toInt ∧ x0_j84.toInt ≤ 455) ∨ (460 ≤ x0_j84.toInt ∧ x0_j84.toInt ≤ 468) ∨ (480 ≤ x0_j84.toInt ∧ x0_j84.toInt ≤ 487)) ∨ (501 ≤ x0_j84.toInt ∧ x0_j84.toInt ≤ 516) ∨ x0_j84.toInt = 520)); omega)
        · rw [i_le] at c_10
          have k_13 : (516 : Int32).toInt = 516 := by decide
          refine So.imp (t_Mod_isDescriptor_j109 ) fun q_z h_z => ?_
          have p_14 := h_z
          exact (by show (q_z.toInt = 1 ∧ ((0 ≤ x0_j84.toInt ∧ x0_j84.toInt ≤ 63) ∨ (100 ≤ x0_j84.toInt ∧ x0_j84.toInt ≤ 115) ∨ (216 ≤ x0_j84.toInt ∧ x0_j84.toInt ≤ 343) ∨ ((400 ≤ x0_j84.toInt ∧ x0_j84.toInt ≤ 431) ∨ (440 ≤ x0_j84.toInt ∧ x0_j84.toInt ≤ 455) ∨ (460 ≤ x0_j84.toInt ∧ x0_j84.toInt ≤ 468) ∨ (480 ≤ x0_j84.toInt ∧ x0_j84.toInt ≤ 487)) ∨ (501 ≤ x0_j84.toInt ∧ x0_j84.toInt ≤ 516) ∨ x0_j84.toInt = 520)) ∨ (q_z.toInt = 0 ∧ ¬ ((0 ≤ x0_j84.toInt ∧ x0_j84.toInt ≤ 63) ∨ (100 ≤ x0_j84.toInt ∧ x0_j84.toInt ≤ 115) ∨ (216 ≤ x0_j84.toInt ∧ x0_j84.toInt ≤ 343) ∨ ((400 ≤ x0_j84.toInt ∧ x0_j84.toInt ≤ 431) ∨ (440 ≤ x0_j84.toInt ∧ x0_j84.toInt ≤ 455) ∨ (460 ≤ x0_j84.toInt ∧ x0_j84.toInt ≤ 468) ∨ (480 ≤ x0_j84.toInt ∧ x0_j84.toInt ≤ 487)) ∨ (501 ≤ x0_j84.toInt ∧ x0_j84.toInt ≤ 516) ∨ x0_j84.toInt = 520)); omega)
    · rw [i_eq] at c_5
      have k_15 : (1 : Int32).toInt = 1 := by decide
      exact So.one (by show ((1 : Int32).toInt = 1 ∧ ((0 ≤ x0_j84.toInt ∧ x0_j84.toInt ≤ 63) ∨ (100 ≤ x0_j84.toInt ∧ x0_j84.toInt ≤ 115) ∨ (216 ≤ x0_j84.toInt ∧ x0_j84.toInt ≤ 343) ∨ ((400 ≤ x0_j84.toInt ∧ x0_j84.toInt ≤ 431) ∨ (440 ≤ x0_j84.toInt ∧ x0_j84.toInt ≤ 455) ∨ (460 ≤ x0_j84.toInt ∧ x0_j84.toInt ≤ 468) ∨ (480 ≤ x0_j84.toInt ∧ x0_j84.toInt ≤ 487)) ∨ (501 ≤ x0_j84.toInt ∧ x0_j84.toInt ≤ 516) ∨ x0_j84.toInt = 520)) ∨ ((1 : Int32).toInt = 0 ∧ ¬ ((0 ≤ x0_j84.toInt ∧ x0_j84.toInt ≤ 63) ∨ (100 ≤ x0_j84.toInt ∧ x0_j84.toInt ≤ 115) ∨ (216 ≤ x0_j84.toInt ∧ x0_j84.toInt ≤ 343) ∨ ((400 ≤ x0_j84.toInt ∧ x0_j84.toInt ≤ 431) ∨ (440 ≤ x0_j84.toInt ∧ x0_j84.toInt ≤ 455) ∨ (460 ≤ x0_j84.toInt ∧ x0_j84.toInt ≤ 468) ∨ (480 ≤ x0_j84.toInt ∧ x0_j84.toInt ≤ 487)) ∨ (501 ≤ x0_j84.toInt ∧ x0_j84.toInt ≤ 516) ∨ x0_j84.toInt = 520)); omega)
  · rw [i_eq] at c_3
    have k_16 : (0 : Int32).toInt = 0 := by decide
    have k_17 : (1 : Int32).toInt = 1 := by decide
    exact So.one (by show ((1 : Int32).toInt = 1 ∧ ((0 ≤ x0_j84.toInt ∧ x0_j84.toInt ≤ 63) ∨ (100 ≤ x0_j84.toInt ∧ x0_j84.toInt ≤ 115) ∨ (216 ≤ x0_j84.toInt ∧ x0_j84.toInt ≤ 343) ∨ ((400 ≤ x0_j84.toInt ∧ x0_j84.toInt ≤ 431) ∨ (440 ≤ x0_j84.toInt ∧ x0_j84.toInt ≤ 455) ∨ (460 ≤ x0_j84.toInt ∧ x0_j84.toInt ≤ 468) ∨ (480 ≤ x0_j84.toInt ∧ x0_j84.toInt ≤ 487)) ∨ (501 ≤ x0_j84.toInt ∧ x0_j84.toInt ≤ 516) ∨ x0_j84.toInt = 520)) ∨ ((1 : Int32).toInt = 0 ∧ ¬ ((0 ≤ x0_j84.toInt ∧ x0_j84.toInt ≤ 63) ∨ (100 ≤ x0_j84.toInt ∧ x0_j84.toInt ≤ 115) ∨ (216 ≤ x0_j84.toInt ∧ x0_j84.toInt ≤ 343) ∨ ((400 ≤ x0_j84.toInt ∧ x0_j84.toInt ≤ 431) ∨ (440 ≤ x0_j84.toInt ∧ x0_j84.toInt ≤ 455) ∨ (460 ≤ x0_j84.toInt ∧ x0_j84.toInt ≤ 468) ∨ (480 ≤ x0_j84.toInt ∧ x0_j84.toInt ≤ 487)) ∨ (501 ≤ x0_j84.toInt ∧ x0_j84.toInt ≤ 516) ∨ x0_j84.toInt = 520)); omega)
theorem t_Mod_isDescriptor_j72 {x0_j72 : Int32} {x1_j72 : Int32} (g_0 : (x1_j72.toInt = 0 ∧ ¬ ((400 ≤ x0_j72.toInt ∧ x0_j72.toInt ≤ 431) ∨ (440 ≤ x0_j72.toInt ∧ x0_j72.toInt ≤ 455) ∨ (460 ≤ x0_j72.toInt ∧ x0_j72.toInt ≤ 468) ∨ (480 ≤ x0_j72.toInt ∧ x0_j72.toInt ≤ 487))) ∨ (x1_j72.toInt = 1 ∧ ((400 ≤ x0_j72.toInt ∧ x0_j72.toInt ≤ 431) ∨ (440 ≤ x0_j72.toInt ∧ x0_j72.toInt ≤ 455) ∨ (460 ≤ x0_j72.toInt ∧ x0_j72.toInt ≤ 468) ∨ (480 ≤ x0_j72.toInt ∧ x0_j72.toInt ≤ 487)))) (g_1 : ¬ (0 ≤ x0_j72.toInt ∧ x0_j72.toInt ≤ 63)) : So (Mod_isDescriptor_j72 x0_j72 x1_j72) (fun r => ((r.toInt = 1 ∧ ((0 ≤ x0_j72.toInt ∧ x0_j72.toInt ≤ 63) ∨ (100 ≤ x0_j72.toInt ∧ x0_j72.toInt ≤ 115) ∨ (216 ≤ x0_j72.toInt ∧ x0_j72.toInt ≤ 343) ∨ ((400 ≤ x0_j72.toInt ∧ x0_j72.toInt ≤ 431) ∨ (440 ≤ x0_j72.toInt ∧ x0_j72.toInt ≤ 455) ∨ (460 ≤ x0_j72.toInt ∧ x0_j72.toInt ≤ 468) ∨ (480 ≤ x0_j72.toInt ∧ x0_j72.toInt ≤ 487)) ∨ (501 ≤ x0_j72.toInt ∧ x0_j72.toInt ≤ 516) ∨ x0_j72.toInt = 520)) ∨ (r.toInt = 0 ∧ ¬ ((0 ≤ x0_j72.toInt ∧ x0_j72.toInt ≤ 63) ∨ (100 ≤ x0_j72.toInt ∧ x0_j72.toInt ≤ 115) ∨ (216 ≤ x0_j72.toInt ∧ x0_j72.toInt ≤ 343) ∨ ((400 ≤ x0_j72.toInt ∧ x0_j72.toInt ≤ 431) ∨ (440 ≤ x0_j72.toInt ∧ x0_j72.toInt ≤ 455) ∨ (460 ≤ x0_j72.toInt ∧ x0_j72.toInt ≤ 468) ∨ (480 ≤ x0_j72.toInt ∧ x0_j72.toInt ≤ 487)) ∨ (501 ≤ x0_j72.toInt ∧ x0_j72.toInt ≤ 516) ∨ x0_j72.toInt = 520)))) := by
  unfold Mod_isDescriptor_j72
  refine So.ite (fun c_1 => ?_) (fun c_1 => ?_)
  · rw [i_lt] at c_1
    have k_2 : (100 : Int32).toInt = 100 := by decide
    refine So.imp (t_Mod_isDescriptor_j84 (by show (x1_j72.toInt = 0 ∧ ¬ ((400 ≤ x0_j72.toInt ∧ x0_j72.toInt ≤ 431) ∨ (440 ≤ x0_j72.toInt ∧ x0_j72.toInt ≤ 455) ∨ (460 ≤ x0_j72.toInt ∧ x0_j72.toInt ≤ 468) ∨ (480 ≤ x0_j72.toInt ∧ x0_j72.toInt ≤ 487))) ∨ (x1_j72.toInt = 1 ∧ ((400 ≤ x0_j72.toInt ∧ x0_j72.toInt ≤ 431) ∨ (440 ≤ x0_j72.toInt ∧ x0_j72.toInt ≤ 455) ∨ (460 ≤ x0_j72.toInt ∧ x0_j72.toInt ≤ 468) ∨ (480 ≤ x0_j72.toInt ∧ x0_j72.toInt ≤ 487))); omega) (by show ¬ (0 ≤ x0_j72.toInt ∧ x0_j72.toInt ≤ 63); omega) (by show ¬ (100 ≤ x0_j72.toInt ∧ x0_j72.toInt ≤ 115); omega)) fun q_z h_z => ?_
    have p_3 := h_z
    exact (by show (q_z.toInt = 1 ∧ ((0 ≤ x0_j72.toInt ∧ x0_j72.toInt ≤ 63) ∨ (100 ≤ x0_j72.toInt ∧ x0_j72.toInt ≤ 115) ∨ (216 ≤ x0_j72.toInt ∧ x0_j72.toInt ≤ 343) ∨ ((400 ≤ x0_j72.toInt ∧ x0_j72.toInt ≤ 431) ∨ (440 ≤ x0_j72.toInt ∧ x0_j72.toInt ≤ 455) ∨ (460 ≤ x0_j72.toInt ∧ x0_j72.toInt ≤ 468) ∨ (480 ≤ x0_j72.toInt ∧ x0_j72.toInt ≤ 487)) ∨ (501 ≤ x0_j72.toInt ∧ x0_j72.toInt ≤ 516) ∨ x0_j72.toInt = 520)) ∨ (q_z.toInt = 0 ∧ ¬ ((0 ≤ x0_j72.toInt ∧ x0_j72.toInt ≤ 63) ∨ (100 ≤ x0_j72.toInt ∧ x0_j72.toInt ≤ 115) ∨ (216 ≤ x0_j72.toInt ∧ x0_j72.toInt ≤ 343) ∨ ((400 ≤ x0_j72.toInt ∧ x0_j72.toInt ≤ 431) ∨ (440 ≤ x0_j72.toInt ∧ x0_j72.toInt ≤ 455) ∨ (460 ≤ x0_j72.toInt ∧ x0_j72.toInt ≤ 468) ∨ (480 ≤ x0_j72.toInt ∧ x0_j72.toInt ≤ 487)) ∨ (501 ≤ x0_j72.toInt ∧ x0_j72.toInt ≤ 516) ∨ x0_j72.toInt = 520)); omega)
  · rw [i_lt] at c_1
    have k_4 : (100 : Int32).toInt = 100 := by decide
    refine So.ite (fun c_5 => ?_) (fun c_5 => ?_)
    · rw [i_le] at c_5
      have k_6 : (115 : Int32).toInt = 115 := by decide
      have k_7 : (1 : Int32).toInt = 1 := by decide
      exact So.one (by show ((1 : Int32).toInt = 1 ∧ ((0 ≤ x0_j72.toInt ∧ x0_j72.toInt ≤ 63) ∨ (100 ≤ x0_j72.toInt ∧ x0_j72.toInt ≤ 115) ∨ (216 ≤ x0_j72.toInt ∧ x0_j72.toInt ≤ 343) ∨ ((400 ≤ x0_j72.toInt ∧ x0_j72.toInt ≤ 431) ∨ (440 ≤ x0_j72.toInt ∧ x0_j72.toInt ≤ 455) ∨ (460 ≤ x0_j72.toInt ∧ x0_j72.toInt ≤ 468) ∨ (480 ≤ x0_j72.toInt ∧ x0_j72.toInt ≤ 487)) ∨ (501 ≤ x0_j72.toInt ∧ x0_j72.toInt ≤ 516) ∨ x0_j72.toInt = 520)) ∨ ((1 : Int32).toInt = 0 ∧ ¬ ((0 ≤ x0_j72.toInt ∧ x0_j72.toInt ≤ 63) ∨ (100 ≤ x0_j72.toInt ∧ x0_j72.toInt ≤ 115) ∨ (216 ≤ x0_j72.toInt ∧ x0_j72.toInt ≤ 343) ∨ ((400 ≤ x0_j72.toInt ∧ x0_j72.toInt ≤ 431) ∨ (440 ≤ x0_j72.toInt ∧ x0_j72.toInt ≤ 455) ∨ (460 ≤ x0_j72.toInt ∧ x0_j72.toInt ≤ 468) ∨ (480 ≤ x0_j72.toInt ∧ x0_j72.toInt ≤ 487)) ∨ (501 ≤ x0_j72.toInt ∧ x0_j72.toInt ≤ 516) ∨ x0_j72.toInt = 520)); omega)
    · rw [i_le] at c_5
      have k_8 : (115 : Int32).toInt = 115 := by decide
      refine So.imp (t_Mod_isDescriptor_j84 (by show (x1_j72.toInt = 0 ∧ ¬ ((400 ≤ x0_j72.toInt ∧ x0_j72.toInt ≤ 431) ∨ (440 ≤ x0_j72.toInt ∧ x0_j72.toInt ≤ 455) ∨ (460 ≤ x0_j72.toInt ∧ x0_j72.toInt ≤ 468) ∨ (480 ≤ x0_j72.toInt ∧ x0_j72.toInt ≤ 487))) ∨ (x1_j72.toInt = 1 ∧ ((400 ≤ x0_j72.toInt ∧ x0_j72.toInt ≤ 431) ∨ (440 ≤ x0_j72.toInt ∧ x0_j72.toInt ≤ 455) ∨ (460 ≤ x0_j72.toInt ∧ x0_j72.toInt ≤ 468) ∨ (480 ≤ x0_j72.toInt ∧ x0_j72.toInt ≤ 487))); omega) (by show ¬ (0 ≤ x0_j72.toInt ∧ x0_j72.toInt ≤ 63); omega) (by show ¬ (100 ≤ x0_j72.toInt ∧ x0_j72.toInt ≤ 115); omega)) fun q_z h_z => ?_
      have p_9 := h_z
      exact (by show (q_z.toInt = 1 ∧ ((0 ≤ x0_j72.toInt ∧ x0_j72.toInt ≤ 63) ∨ (100 ≤ x0_j72.toInt ∧ x0_j72.toInt ≤ 115) ∨ (216 ≤ x0_j72.toInt ∧ x0_j72.toInt ≤ 343) ∨ ((400 ≤ x0_j72.toInt ∧ x0_j72.toInt ≤ 431) ∨ (440 ≤ x0_j72.toInt ∧ x0_j72.toInt ≤ 455) ∨ (460 ≤ x0_j72.toInt ∧ x0_j72.toInt ≤ 468) ∨ (480 ≤ x0_j72.toInt ∧ x0_j72.toInt ≤ 487)) ∨ (501 ≤ x0_j72.toInt ∧ x0_j72.toInt ≤ 516) ∨ x0_j72.toInt = 520)) ∨ (q_z.toInt = 0 ∧ ¬ ((0 ≤ x0_j72.toInt ∧ x0_j72.toInt ≤ 63) ∨ (100 ≤ x0_j72.toInt ∧ x0_j72.toInt ≤ 115) ∨ (216 ≤ x0_j72.toInt ∧ x0_j72.toInt ≤ 343) ∨ ((400 ≤ x0_j72.toInt ∧ x0_j72.toInt ≤ 431) ∨ (440 ≤ x0_j72.toInt ∧ x0_j72.toInt ≤ 455) ∨ (460 ≤ x0_j72.toInt ∧ x0_j72.toInt ≤ 468) ∨ (480 ≤ x0_j72.toInt ∧ x0_j72.toInt ≤ 487)) ∨ (501 ≤ x0_j72.toInt ∧ x0_j72.toInt ≤ 516) ∨ x0_j72.toInt = 520)); omega)
theorem t_Mod_isDescriptor_j61 {x0_j61 : Int32} {t0_j61 : Int32} (g_0 : (t0_j61.toInt = 0 ∧ ¬ ((400 ≤ x0_j61.toInt ∧ x0_j61.toInt ≤ 431) ∨ (440 ≤ x0_j61.toInt ∧ x0_j61.toInt ≤ 455) ∨ (460 ≤ x0_j61.toInt ∧ x0_j61.toInt ≤ 468) ∨ (480 ≤ x0_j61.toInt ∧ x0_j61.toInt ≤ 487))) ∨ (t0_j61.toInt = 1 ∧ ((400 ≤ x0_j61.toInt ∧ x0_j61.toInt ≤ 431) ∨ (440 ≤ x0_j61.toInt ∧ x0_j61.toInt ≤ 455) ∨ (460 ≤ x0_j61.toInt ∧ x0_j61.toInt ≤ 468) ∨ (480 ≤ x0_j61.toInt ∧ x0_j61.toInt ≤ 487)))) : So (Mod_isDescriptor_j61 x0_j61 t0_j61) (fun r => ((r.toInt = 1 ∧ ((0 ≤ x0_j61.toInt ∧ x0_j61.toInt ≤ 63) ∨ (100 ≤ x0_j61.toInt ∧ x0_j61.toInt ≤ 115) ∨ (216 ≤ x0_j61.toInt ∧ x0_j61.toInt ≤ 343) ∨ ((400 ≤ x0_j61.toInt ∧ x0_j61.toInt ≤ 431) ∨ (440 ≤ x0_j61.toInt ∧ x0_j61.toInt ≤ 455) ∨ (460 ≤ x0_j61.toInt ∧ x0_j61.toInt ≤ 468) ∨ (480 ≤ x0_j61.toInt ∧ x0_j61.toInt ≤ 487)) ∨ (501 ≤ x0_j61.toInt ∧ x0_j61.toInt ≤ 516) ∨ x0_j61.toInt = 520)) ∨ (r.toInt = 0 ∧ ¬ ((0 ≤ x0_j61.toInt ∧ x0_j61.toInt ≤ 63) ∨ (100 ≤ x0_j61.toInt ∧ x0_j61.toInt ≤ 115) ∨ (216 ≤ x0_j61.toInt ∧ x0_j61.toInt ≤ 343) ∨ ((400 ≤ x0_j61.toInt ∧ x0_j61.toInt ≤ 431) ∨ (440 ≤ x0_j61.toInt ∧ x0_j61.toInt ≤ 455) ∨ (460 ≤ x0_j61.toInt ∧ x0_j61.toInt ≤ 468) ∨ (480 ≤ x0_j61.toInt ∧ x0_j61.toInt ≤ 487)) ∨ (501 ≤ x0_j61.toInt ∧ x0_j61.toInt ≤ 516) ∨ x0_j61.toInt = 520)))) := by
  unfold Mod_isDescriptor_j61
  refine So.ite (fun c_1 => ?_) (fun c_1 => ?_)
  · rw [i_lt] at c_1
    have k_2 : (0 : Int32).toInt = 0 := by decide
    refine So.imp (t_Mod_isDescriptor_j72 (by show (t0_j61.toInt = 0 ∧ ¬ ((400 ≤ x0_j61.toInt ∧ x0_j61.toInt ≤ 431) ∨ (440 ≤ x0_j61.toInt ∧ x0_j61.toInt ≤ 455) ∨ (460 ≤ x0_j61.toInt ∧ x0_j61.toInt ≤ 468) ∨ (480 ≤ x0_j61.toInt ∧ x0_j61.toInt ≤ 487))) ∨ (t0_j61.toInt = 1 ∧ ((400 ≤ x0_j61.toInt ∧ x0_j61.toInt ≤ 431) ∨ (440 ≤ x0_j61.toInt ∧ x0_j61.toInt ≤ 455) ∨ (460 ≤ x0_j61.toInt ∧ x0_j61.toInt ≤ 468) ∨ (480 ≤ x0_j61.toInt ∧ x0_j61.toInt ≤ 487))); omega) (by show ¬ (0 ≤ x0_j61.toInt ∧ x0_j61.toInt ≤ 63); omega)) fun q_z h_z => ?_
    have p_3 := h_z
    exact (by show (q_z.toInt = 1 ∧ ((0 ≤ x0_j61.toInt ∧ x0_j61.toInt ≤ 63) ∨ (100 ≤ x0_j61.toInt ∧ x0_j61.toInt ≤ 115) ∨ (216 ≤ x0_j61.toInt ∧ x0_j61.toInt ≤ 343) ∨ ((400 ≤ x0_j61.toInt ∧ x0_j61.toInt ≤ 431) ∨ (440 ≤ x0_j61.toInt ∧ x0_j61.toInt ≤ 455) ∨ (460 ≤ x0_j61.toInt ∧ x0_j61.toInt ≤ 468) ∨ (480 ≤ x0_j61.toInt ∧ x0_j61.toInt ≤ 487)) ∨ (501 ≤ x0_j61.toInt ∧ x0_j61.toInt ≤ 516) ∨ x0_j61.toInt = 520)) ∨ (q_z.toInt = 0 ∧ ¬ ((0 ≤ x0_j61.toInt ∧ x0_j61.toInt ≤ 63) ∨ (100 ≤ x0_j61.toInt ∧ x0_j61.toInt ≤ 115) ∨ (216 ≤ x0_j61.toInt ∧ x0_j61.toInt ≤ 343) ∨ ((400 ≤ x0_j61.toInt ∧ x0_j61.toInt ≤ 431) ∨ (440 ≤ x0_j61.toInt ∧ x0_j61.toInt ≤ 455) ∨ (460 ≤ x0_j61.toInt ∧ x0_j61.toInt ≤ 468) ∨ (480 ≤ x0_j61.toInt ∧ x0_j61.toInt ≤ 487)) ∨ (501 ≤ x0_j61.toInt ∧ x0_j61.toInt ≤ 516) ∨ x0_j61.toInt = 520)); omega)
  · rw [i_lt] at c_1
    have k_4 : (0 : Int32).toInt = 0 := by decide
    refine So.ite (fun c_5 => ?_) (fun c_5 => ?_)
    · rw [i_le] at c_5
      have k_6 : (63 : Int32).toInt = 63 := by decide
      have k_7 : (1 : Int32).toInt = 1 := by decide
      exact So.one (by show ((1 : Int32).toInt = 1 ∧ ((0 ≤ x0_j61.toInt ∧ x0_j61.toInt ≤ 63) ∨ (100 ≤ x0_j61.toInt ∧ x0_j61.toInt ≤ 115) ∨ (216 ≤ x0_j61.toInt ∧ x0_j61.toInt ≤ 343) ∨ ((400 ≤ x0_j61.toInt ∧ x0_j61.toInt ≤ 431) ∨ (440 ≤ x0_j61.toInt ∧ x0_j61.toInt ≤ 455) ∨ (460 ≤ x0_j61.toInt ∧ x0_j61.toInt ≤ 468) ∨ (480 ≤ x0_j61.toInt ∧ x0_j61.toInt ≤ 487)) ∨ (501 ≤ x0_j61.toInt ∧ x0_j61.toInt ≤ 516) ∨ x0_j61.toInt = 520)) ∨ ((1 : Int32).toInt = 0 ∧ ¬ ((0 ≤ x0_j61.toInt ∧ x0_j61.toInt ≤ 63) ∨ (100 ≤ x0_j61.toInt ∧ x0_j61.toInt ≤ 115) ∨ (216 ≤ x0_j61.toInt ∧ x0_j61.toInt ≤ 343) ∨ ((400 ≤ x0_j61.toInt ∧ x0_j61.toInt ≤ 431) ∨ (440 ≤ x0_j61.toInt ∧ x0_j61.toInt ≤ 455) ∨ (460 ≤ x0_j61.toInt ∧ x0_j61.toInt ≤ 468) ∨ (480 ≤ x0_j61.toInt ∧ x0_j61.toInt ≤ 487)) ∨ (501 ≤ x0_j61.toInt ∧ x0_j61.toInt ≤ 516) ∨ x0_j61.toInt = 520)); omega)
    · rw [i_le] at c_5
      have k_8 : (63 : Int32).toInt = 63 := by decide
      refine So.imp (t_Mod_isDescriptor_j72 (by show (t0_j61.toInt = 0 ∧ ¬ ((400 ≤ x0_j61.toInt ∧ x0_j61.toInt ≤ 431) ∨ (440 ≤ x0_j61.toInt ∧ x0_j61.toInt ≤ 455) ∨ (460 ≤ x0_j61.toInt ∧ x0_j61.toInt ≤ 468) ∨ (480 ≤ x0_j61.toInt ∧ x0_j61.toInt ≤ 487))) ∨ (t0_j61.toInt = 1 ∧ ((400 ≤ x0_j61.toInt ∧ x0_j61.toInt ≤ 431) ∨ (440 ≤ x0_j61.toInt ∧ x0_j61.toInt ≤ 455) ∨ (460 ≤ x0_j61.toInt ∧ x0_j61.toInt ≤ 468) ∨ (480 ≤ x0_j61.toInt ∧ x0_j61.toInt ≤ 487))); omega) (by show ¬ (0 ≤ x0_j61.toInt ∧ x0_j61.toInt ≤ 63); omega)) fun q_z h_z => ?_
      have p_9 := h_z
      exact (by show (q_z.toInt = 1 ∧ ((0 ≤ x0_j61.toInt ∧ x0_j61.toInt ≤ 63) ∨ (100 ≤ x0_j61.toInt ∧ x0_j61.toInt ≤ 115) ∨ (216 ≤ x0_j61.toInt ∧ x0_j61.toInt ≤ 343) ∨ ((400 ≤ x0_j61.toInt ∧ x0_j61.toInt ≤ 431) ∨ (440 ≤ x0_j61.toInt ∧ x0_j61.toInt ≤ 455) ∨ (460 ≤ x0_j61.toInt ∧ x0_j61.toInt ≤ 468) ∨ (480 ≤ x0_j61.toInt ∧ x0_j61.toInt ≤ 487)) ∨ (501 ≤ x0_j61.toInt ∧ x0_j61.toInt ≤ 516) ∨ x0_j61.toInt = 520)) ∨ (q_z.toInt = 0 ∧ ¬ ((0 ≤ x0_j61.toInt ∧ x0_j61.toInt ≤ 63) ∨ (100 ≤ x0_j61.toInt ∧ x0_j61.toInt ≤ 115) ∨ (216 ≤ x0_j61.toInt ∧ x0_j61.toInt ≤ 343) ∨ ((400 ≤ x0_j61.toInt ∧ x0_j61.toInt ≤ 431) ∨ (440 ≤ x0_j61.toInt ∧ x0_j61.toInt ≤ 455) ∨ (460 ≤ x0_j61.toInt ∧ x0_j61.toInt ≤ 468) ∨ (480 ≤ x0_j61.toInt ∧ x0_j61.toInt ≤ 487)) ∨ (501 ≤ x0_j61.toInt ∧ x0_j61.toInt ≤ 516) ∨ x0_j61.toInt = 520)); omega)
theorem t_Mod_isDescriptor {a0 : Int32}  : So (Mod_isDescriptor a0) (fun r => ((r.toInt = 1 ∧ ((0 ≤ a0.toInt ∧ a0.toInt ≤ 63) ∨ (100 ≤ a0.toInt ∧ a0.toInt ≤ 115) ∨ (216 ≤ a0.toInt ∧ a0.toInt ≤ 343) ∨ ((400 ≤ a0.toInt ∧ a0.toInt ≤ 431) ∨ (440 ≤ a0.toInt ∧ a0.toInt ≤ 455) ∨ (460 ≤ a0.toInt ∧ a0.toInt ≤ 468) ∨ (480 ≤ a0.toInt ∧ a0.toInt ≤ 487)) ∨ (501 ≤ a0.toInt ∧ a0.toInt ≤ 516) ∨ a0.toInt = 520)) ∨ (r.toInt = 0 ∧ ¬ ((0 ≤ a0.toInt ∧ a0.toInt ≤ 63) ∨ (100 ≤ a0.toInt ∧ a0.toInt ≤ 115) ∨ (216 ≤ a0.toInt ∧ a0.toInt ≤ 343) ∨ ((400 ≤ a0.toInt ∧ a0.toInt ≤ 431) ∨ (440 ≤ a0.toInt ∧ a0.toInt ≤ 455) ∨ (460 ≤ a0.toInt ∧ a0.toInt ≤ 468) ∨ (480 ≤ a0.toInt ∧ a0.toInt ≤ 487)) ∨ (501 ≤ a0.toInt ∧ a0.toInt ≤ 516) ∨ a0.toInt = 520)))) := by
  unfold Mod_isDescriptor
  refine So.ite (fun c_1 => ?_) (fun c_1 => ?_)
  · rw [i_lt] at c_1
    have k_2 : (400 : Int32).toInt = 400 := by decide
    unfold Mod_isDescriptor_j14
    refine So.ite (fun c_3 => ?_) (fun c_3 => ?_)
    · rw [i_lt] at c_3
      have k_4 : (440 : Int32).toInt = 440 := by decide
      unfold Mod_isDescriptor_j28
      refine So.ite (fun c_5 => ?_) (fun c_5 => ?_)
      · rw [i_lt] at c_5
        have k_6 : (460 : Int32).toInt = 460 := by decide
        unfold Mod_isDescriptor_j42
        refine So.ite (fun c_7 => ?_) (fun c_7 => ?_)
        · rw [i_lt] at c_7
          have k_8 : (480 : Int32).toInt = 480 := by decide
          unfold Mod_isDescriptor_j60
          have k_9 : (0 : Int32).toInt = 0 := by decide
          refine So.imp (t_Mod_isDescriptor_j61 (by show ((0 : Int32).toInt = 0 ∧ ¬ ((400 ≤ a0.toInt ∧ a0.toInt ≤ 431) ∨ (440 ≤ a0.toInt ∧ a0.toInt ≤ 455) ∨ (460 ≤ a0.toInt ∧ a0.toInt ≤ 468) ∨ (480 ≤ a0.toInt ∧ a0.toInt ≤ 487))) ∨ ((0 : Int32).toInt = 1 ∧ ((400 ≤ a0.toInt ∧ a0.toInt ≤ 431) ∨ (440 ≤ a0.toInt ∧ a0.toInt ≤ 455) ∨ (460 ≤ a0.toInt ∧ a0.toInt ≤ 468) ∨ (480 ≤ a0.toInt ∧ a0.toInt ≤ 487))); omega)) fun q_z h_z => ?_
          have p_10 := h_z
          exact (by show (q_z.toInt = 1 ∧ ((0 ≤ a0.toInt ∧ a0.toInt ≤ 63) ∨ (100 ≤ a0.toInt ∧ a0.toInt ≤ 115) ∨ (216 ≤ a0.toInt ∧ a0.toInt ≤ 343) ∨ ((400 ≤ a0.toInt ∧ a0.toInt ≤ 431) ∨ (440 ≤ a0.toInt ∧ a0.toInt ≤ 455) ∨ (460 ≤ a0.toInt ∧ a0.toInt ≤ 468) ∨ (480 ≤ a0.toInt ∧ a0.toInt ≤ 487)) ∨ (501 ≤ a0.toInt ∧ a0.toInt ≤ 516) ∨ a0.toInt = 520)) ∨ (q_z.toInt = 0 ∧ ¬ ((0 ≤ a0.toInt ∧ a0.toInt ≤ 63) ∨ (100 ≤ a0.toInt ∧ a0.toInt ≤ 115) ∨ (216 ≤ a0.toInt ∧ a0.toInt ≤ 343) ∨ ((400 ≤ a0.toInt ∧ a0.toInt ≤ 431) ∨ (440 ≤ a0.toInt ∧ a0.toInt ≤ 455) ∨ (460 ≤ a0.toInt ∧ a0.toInt ≤ 468) ∨ (480 ≤ a0.toInt ∧ a0.toInt ≤ 487)) ∨ (501 ≤ a0.toInt ∧ a0.toInt ≤ 516) ∨ a0.toInt = 520)); omega)
        · rw [i_lt] at c_7
          have k_11 : (480 : Int32).toInt = 480 := by decide
          refine So.ite (fun c_12 => ?_) (fun c_12 => ?_)
          · rw [i_lt] at c_12
            have k_13 : (487 : Int32).toInt = 487 := by decide
            unfold Mod_isDescriptor_j60
            have k_14 : (0 : Int32).toInt = 0 := by decide
            refine So.imp (t_Mod_isDescriptor_j61 (by show ((0 : Int32).toInt = 0 ∧ ¬ ((400 ≤ a0.toInt ∧ a0.toInt ≤ 431) ∨ (440 ≤ a0.toInt ∧ a0.toInt ≤ 455) ∨ (460 ≤ a0.toInt ∧ a0.toInt ≤ 468) ∨ (480 ≤ a0.toInt ∧ a0.toInt ≤ 487))) ∨ ((0 : Int32).toInt = 1 ∧ ((400 ≤ a0.toInt ∧ a0.toInt ≤ 431) ∨ (440 ≤ a0.toInt ∧ a0.toInt ≤ 455) ∨ (460 ≤ a0.toInt ∧ a0.toInt ≤ 468) ∨ (480 ≤ a0.toInt ∧ a0.toInt ≤ 487))); omega)) fun q_z h_z => ?_
            have p_15 := h_z
            exact (by show (q_z.toInt = 1 ∧ ((0 ≤ a0.toInt ∧ a0.toInt ≤ 63) ∨ (100 ≤ a0.toInt ∧ a0.toInt ≤ 115) ∨ (216 ≤ a0.toInt ∧ a0.toInt ≤ 343) ∨ ((400 ≤ a0.toInt ∧ a0.toInt ≤ 431) ∨ (440 ≤ a0.toInt ∧ a0.toInt ≤ 455) ∨ (460 ≤ a0.toInt ∧ a0.toInt ≤ 468) ∨ (480 ≤ a0.toInt ∧ a0.toInt ≤ 487)) ∨ (501 ≤ a0.toInt ∧ a0.toInt ≤ 516) ∨ a0.toInt = 520)) ∨ (q_z.toInt = 0 ∧ ¬ ((0 ≤ a0.toInt ∧ a0.toInt ≤ 63) ∨ (100 ≤ a0.toInt ∧ a0.toInt ≤ 115) ∨ (216 ≤ a0.toInt ∧ a0.toInt ≤ 343) ∨ ((400 ≤ a0.toInt ∧ a0.toInt ≤ 431) ∨ (440 ≤ a0.toInt ∧ a0.toInt ≤ 455) ∨ (460 ≤ a0.toInt ∧ a0.toInt ≤ 468) ∨ (480 ≤ a0.toInt ∧ a0.toInt ≤ 487)) ∨ (501 ≤ a0.toInt ∧ a0.toInt ≤ 516) ∨ a0.toInt = 520)); omega)
          · rw [i_lt] at c_12
            have k_16 : (487 : Int32).toInt = 487 := by decide
            unfold Mod_isDescriptor_j56
            have k_17 : (1 : Int32).toInt = 1 := by decide
            refine So.imp (t_Mod_isDescriptor_j61 (by show ((1 : Int32).toInt = 0 ∧ ¬ ((400 ≤ a0.toInt ∧ a0.toInt ≤ 431) ∨ (440 ≤ a0.toInt ∧ a0.toInt ≤ 455) ∨ (460 ≤ a0.toInt ∧ a0.toInt ≤ 468) ∨ (480 ≤ a0.toInt ∧ a0.toInt ≤ 487))) ∨ ((1 : Int32).toInt = 1 ∧ ((400 ≤ a0.toInt ∧ a0.toInt ≤ 431) ∨ (440 ≤ a0.toInt ∧ a0.toInt ≤ 455) ∨ (460 ≤ a0.toInt ∧ a0.toInt ≤ 468) ∨ (480 ≤ a0.toInt ∧ a0.toInt ≤ 487))); omega)) fun q_z h_z => ?_
            have p_18 := h_z
            exact (by show (q_z.toInt = 1 ∧ ((0 ≤ a0.toInt ∧ a0.toInt ≤ 63) ∨ (100 ≤ a0.toInt ∧ a0.toInt ≤ 115) ∨ (216 ≤ a0.toInt ∧ a0.toInt ≤ 343) ∨ ((400 ≤ a0.toInt ∧ a0.toInt ≤ 431) ∨ (440 ≤ a0.toInt ∧ a0.toInt ≤ 455) ∨ (460 ≤ a0.toInt ∧ a0.toInt ≤ 468) ∨ (480 ≤ a0.toInt ∧ a0.toInt ≤ 487)) ∨ (501 ≤ a0.toInt ∧ a0.toInt ≤ 516) ∨ a0.toInt = 520)) ∨ (q_z.toInt = 0 ∧ ¬ ((0 ≤ a0.toInt ∧ a0.toInt ≤ 63) ∨ (100 ≤ a0.toInt ∧ a0.toInt ≤ 115) ∨ (216 ≤ a0.toInt ∧ a0.toInt ≤ 343) ∨ ((400 ≤ a0.toInt ∧ a0.toInt ≤ 431) ∨ (440 ≤ a0.toInt ∧ a0.toInt ≤ 455) ∨ (460 ≤ a0.toInt ∧ a0.toInt ≤ 468) ∨ (480 ≤ a0.toInt ∧ a0.toInt ≤ 487)) ∨ (501 ≤ a0.toInt ∧ a0.toInt ≤ 516) ∨ a0.toInt = 520)); omega)
      · rw [i_lt] at c_5
        have k_19 : (460 : Int32).toInt = 460 := by decide
        refine So.ite (fun c_20 => ?_) (fun c_20 => ?_)
        · rw [i_le] at c_20
          have k_21 : (468 : Int32).toInt = 468 := by decide
          unfold Mod_isDescriptor_j56
          have k_22 : (1 : Int32).toInt = 1 := by decide
          refine So.imp (t_Mod_isDescriptor_j61 (by show ((1 : Int32).toInt = 0 ∧ ¬ ((400 ≤ a0.toInt ∧ a0.toInt ≤ 431) ∨ (440 ≤ a0.toInt ∧ a0.toInt ≤ 455) ∨ (460 ≤ a0.toInt ∧ a0.toInt ≤ 468) ∨ (480 ≤ a0.toInt ∧ a0.toInt ≤ 487))) ∨ ((1 : Int32).toInt = 1 ∧ ((400 ≤ a0.toInt ∧ a0.toInt ≤ 431) ∨ (440 ≤ a0.toInt ∧ a0.toInt ≤ 455) ∨ (460 ≤ a0.toInt ∧ a0.toInt ≤ 468) ∨ (480 ≤ a0.toInt ∧ a0.toInt ≤ 487))); omega)) fun q_z h_z => ?_
          have p_23 := h_z
          exact (by show (q_z.toInt = 1 ∧ ((0 ≤ a0.toInt ∧ a0.toInt ≤ 63) ∨ (100 ≤ a0.toInt ∧ a0.toInt ≤ 115) ∨ (216 ≤ a0.toInt ∧ a0.toInt ≤ 343) ∨ ((400 ≤ a0.toInt ∧ a0.toInt ≤ 431) ∨ (440 ≤ a0.toInt ∧ a0.toInt ≤ 455) ∨ (460 ≤ a0.toInt ∧ a0.toInt ≤ 468) ∨ (480 ≤ a0.toInt ∧ a0.toInt ≤ 487)) ∨ (501 ≤ a0.toInt ∧ a0.toInt ≤ 516) ∨ a0.toInt = 520)) ∨ (q_z.toInt = 0 ∧ ¬ ((0 ≤ a0.toInt ∧ a0.toInt ≤ 63) ∨ (100 ≤ a0.toInt ∧ a0.toInt ≤ 115) ∨ (216 ≤ a0.toInt ∧ a0.toInt ≤ 343) ∨ ((400 ≤ a0.toInt ∧ a0.toInt ≤ 431) ∨ (440 ≤ a0.toInt ∧ a0.toInt ≤ 455) ∨ (460 ≤ a0.toInt ∧ a0.toInt ≤ 468) ∨ (480 ≤ a0.toInt ∧ a0.toInt ≤ 487)) ∨ (501 ≤ a0.toInt ∧ a0.toInt ≤ 516) ∨ a0.toInt = 520)); omega)
        · rw [i_le] at c_20
          have k_24 : (468 : Int32).toInt = 468 := by decide
          unfold Mod_isDescriptor_j42
          refine So.ite (fun c_25 => ?_) (fun c_25 => ?_)
          · rw [i_lt] at c_25
            have k_26 : (480 : Int32).toInt = 480 := by decide
            unfold Mod_isDescriptor_j60
            have k_27 : (0 : Int32).toInt = 0 := by decide
            refine So.imp (t_Mod_isDescriptor_j61 (by show ((0 : Int32).toInt = 0 ∧ ¬ ((400 ≤ a0.toInt ∧ a0.toInt ≤ 431) ∨ (440 ≤ a0.toInt ∧ a0.toInt ≤ 455) ∨ (460 ≤ a0.toInt ∧ a0.toInt ≤ 468) ∨ (480 ≤ a0.toInt ∧ a0.toInt ≤ 487))) ∨ ((0 : Int32).toInt = 1 ∧ ((400 ≤ a0.toInt ∧ a0.toInt ≤ 431) ∨ (440 ≤ a0.toInt ∧ a0.toInt ≤ 455) ∨ (460 ≤ a0.toInt ∧ a0.toInt ≤ 468) ∨ (480 ≤ a0.toInt ∧ a0.toInt ≤ 487))); omega)) fun q_z h_z => ?_
            have p_28 := h_z
            exact (by show (q_z.toInt = 1 ∧ ((0 ≤ a0.toInt ∧ a0.toInt ≤ 63) ∨ (100 ≤ a0.toInt ∧ a0.toInt ≤ 115) ∨ (216 ≤ a0.toInt ∧ a0.toInt ≤ 343) ∨ ((400 ≤ a0.toInt ∧ a0.toInt ≤ 431) ∨ (440 ≤ a0.toInt ∧ a0.toInt ≤ 455) ∨ (460 ≤ a0.toInt ∧ a0.toInt ≤ 468) ∨ (480 ≤ a0.toInt ∧ a0.toInt ≤ 487)) ∨ (501 ≤ a0.toInt ∧ a0.toInt ≤ 516) ∨ a0.toInt = 520)) ∨ (q_z.toInt = 0 ∧ ¬ ((0 ≤ a0.toInt ∧ a0.toInt ≤ 63) ∨ (100 ≤ a0.toInt ∧ a0.toInt ≤ 115) ∨ (216 ≤ a0.toInt ∧ a0.toInt ≤ 343) ∨ ((400 ≤ a0.toInt ∧ a0.toInt ≤ 431) ∨ (440 ≤ a0.toInt ∧ a0.toInt ≤ 455) ∨ (460 ≤ a0.toInt ∧ a0.toInt ≤ 468) ∨ (480 ≤ a0.toInt ∧ a0.toInt ≤ 487)) ∨ (501 ≤ a0.toInt ∧ a0.toInt ≤ 516) ∨ a0.toInt = 520)); omega)
          · rw [i_lt] at c_25
            have k_29 : (480 : Int32).toInt = 480 := by decide
            refine So.ite (fun c_30 => ?_) (fun c_30 => ?_)
            · rw [i_lt] at c_30
              have k_31 : (487 : Int32).toInt = 487 := by decide
              unfold Mod_isDescriptor_j60
              have k_32 : (0 : Int32).toInt = 0 := by decide
              refine So.imp (t_Mod_isDescriptor_j61 (by show ((0 : Int32).toInt = 0 ∧ ¬ ((400 ≤ a0.toInt ∧ a0.toInt ≤ 431) ∨ (440 ≤ a0.toInt ∧ a0.toInt ≤ 455) ∨ (460 ≤ a0.toInt ∧ a0.toInt ≤ 468) ∨ (480 ≤ a0.toInt ∧ a0.toInt ≤ 487))) ∨ ((0 : Int32).toInt = 1 ∧ ((400 ≤ a0.toInt ∧ a0.toInt ≤ 431) ∨ (440 ≤ a0.toInt ∧ a0.toInt ≤ 455) ∨ (460 ≤ a0.toInt ∧ a0.toInt ≤ 468) ∨ (480 ≤ a0.toInt ∧ a0.toInt ≤ 487))); omega)) fun q_z h_z => ?_
              have p_33 := h_z
              exact (by show (q_z.toInt = 1 ∧ ((0 ≤ a0.toInt ∧ a0.toInt ≤ 63) ∨ (100 ≤ a0.toInt ∧ a0.toInt ≤ 115) ∨ (216 ≤ a0.toInt ∧ a0.toInt ≤ 343) ∨ ((400 ≤ a0.toInt ∧ a0.toInt ≤ 431) ∨ (440 ≤ a0.toInt ∧ a0.toInt ≤ 455) ∨ (460 ≤ a0.toInt ∧ a0.toInt ≤ 468) ∨ (480 ≤ a0.toInt ∧ a0.toInt ≤ 487)) ∨ (501 ≤ a0.toInt ∧ a0.toInt ≤ 516) ∨ a0.toInt = 520)) ∨ (q_z.toInt = 0 ∧ ¬ ((0 ≤ a0.toInt ∧ a0.toInt ≤ 63) ∨ (100 ≤ a0.toInt ∧ a0.toInt ≤ 115) ∨ (216 ≤ a0.toInt ∧ a0.toInt ≤ 343) ∨ ((400 ≤ a0.toInt ∧ a0.toInt ≤ 431) ∨ (440 ≤ a0.toInt ∧ a0.toInt ≤ 455) ∨ (460 ≤ a0.toInt ∧ a0.toInt ≤ 468) ∨ (480 ≤ a0.toInt ∧ a0.toInt ≤ 487)) ∨ (501 ≤ a0.toInt ∧ a0.toInt ≤ 516) ∨ a0.toInt = 520)); omega)
            · rw [i_lt] at c_30
              have k_34 : (487 : Int32).toInt = 487 := by decide
              unfold Mod_isDescriptor_j56
              have k_35 : (1 : Int32).toInt = 1 := by decide
              refine So.imp (t_Mod_isDescriptor_j61 (by show ((1 : Int32).toInt = 0 ∧ ¬ ((400 ≤ a0.toInt ∧ a0.toInt ≤ 431) ∨ (440 ≤ a0.toInt ∧ a0.toInt ≤ 455) ∨ (460 ≤ a0.toInt ∧ a0.toInt ≤ 468) ∨ (480 ≤ a0.toInt ∧ a0.toInt ≤ 487))) ∨ ((1 : Int32).toInt = 1 ∧ ((400 ≤ a0.toInt ∧ a0.toInt ≤ 431) ∨ (440 ≤ a0.toInt ∧ a0.toInt ≤ 455) ∨ (460 ≤ a0.toInt ∧ a0.toInt ≤ 468) ∨ (480 ≤ a0.toInt ∧ a0.toInt ≤ 487))); omega)) fun q_z h_z => ?_
              have p_36 := h_z
              exact (by show (q_z.toInt = 1 ∧ ((0 ≤ a0.toInt ∧ a0.toInt ≤ 63) ∨ (100 ≤ a0.toInt ∧ a0.toInt ≤ 115) ∨ (216 ≤ a0.toInt ∧ a0.toInt ≤ 343) ∨ ((400 ≤ a0.toInt ∧ a0.toInt ≤ 431) ∨ (440 ≤ a0.toInt ∧ a0.toInt ≤ 455) ∨ (460 ≤ a0.toInt ∧ a0.toInt ≤ 468) ∨ (480 ≤ a0.toInt ∧ a0.toInt ≤ 487)) ∨ (501 ≤ a0.toInt ∧ a0.toInt ≤ 516) ∨ a0.toInt = 520)) ∨ (q_z.toInt = 0 ∧ ¬ ((0 ≤ a0.toInt ∧ a0.toInt ≤ 63) ∨ (100 ≤ a0.toInt ∧ a0.toInt ≤ 115) ∨ (216 ≤ a0.toInt ∧ a0.toInt ≤ 343) ∨ ((400 ≤ a0.toInt ∧ a0.toInt ≤ 431) ∨ (440 ≤ a0.toInt ∧ a0.toInt ≤ 455) ∨ (460 ≤ a0.toInt ∧ a0.toInt ≤ 468) ∨ (480 ≤ a0.toInt ∧ a0.toInt ≤ 487)) ∨ (501 ≤ a0.toInt ∧ a0.toInt ≤ 516) ∨ a0.toInt = 520)); omega)
    · rw [i_lt] at c_3
      have k_37 : (440 : Int32).toInt = 440 := by decide
      refine So.ite (fun c_38 => ?_) (fun c_38 => ?_)
      · rw [i_le] at c_38
        have k_39 : (455 : Int32).toInt = 455 := by decide
        unfold Mod_isDescriptor_j56
        have k_40 : (1 : Int32).toInt = 1 := by decide
        refine So.imp (t_Mod_isDescriptor_j61 (by show ((1 : Int32).toInt = 0 ∧ ¬ ((400 ≤ a0.toInt ∧ a0.toInt ≤ 431) ∨ (440 ≤ a0.toInt ∧ a0.toInt ≤ 455) ∨ (460 ≤ a0.toInt ∧ a0.toInt ≤ 468) ∨ (480 ≤ a0.toInt ∧ a0.toInt ≤ 487))) ∨ ((1 : Int32).toInt = 1 ∧ ((400 ≤ a0.toInt ∧ a0.toInt ≤ 431) ∨ (440 ≤ a0.toInt ∧ a0.toInt ≤ 455) ∨ (460 ≤ a0.toInt ∧ a0.toInt ≤ 468) ∨ (480 ≤ a0.toInt ∧ a0.toInt ≤ 487))); omega)) fun q_z h_z => ?_
        have p_41 := h_z
        exact (by show (q_z.toInt = 1 ∧ ((0 ≤ a0.toInt ∧ a0.toInt ≤ 63) ∨ (100 ≤ a0.toInt ∧ a0.toInt ≤ 115) ∨ (216 ≤ a0.toInt ∧ a0.toInt ≤ 343) ∨ ((400 ≤ a0.toInt ∧ a0.toInt ≤ 431) ∨ (440 ≤ a0.toInt ∧ a0.toInt ≤ 455) ∨ (460 ≤ a0.toInt ∧ a0.toInt ≤ 468) ∨ (480 ≤ a0.toInt ∧ a0.toInt ≤ 487)) ∨ (501 ≤ a0.toInt ∧ a0.toInt ≤ 516) ∨ a0.toInt = 520)) ∨ (q_z.toInt = 0 ∧ ¬ ((0 ≤ a0.toInt ∧ a0.toInt ≤ 63) ∨ (100 ≤ a0.toInt ∧ a0.toInt ≤ 115) ∨ (216 ≤ a0.toInt ∧ a0.toInt ≤ 343) ∨ ((400 ≤ a0.toInt ∧ a0.toInt ≤ 431) ∨ (440 ≤ a0.toInt ∧ a0.toInt ≤ 455) ∨ (460 ≤ a0.toInt ∧ a0.toInt ≤ 468) ∨ (480 ≤ a0.toInt ∧ a0.toInt ≤ 487)) ∨ (501 ≤ a0.toInt ∧ a0.toInt ≤ 516) ∨ a0.toInt = 520)); omega)
      · rw [i_le] at c_38
        have k_42 : (455 : Int32).toInt = 455 := by decide
        unfold Mod_isDescriptor_j28
        refine So.ite (fun c_43 => ?_) (fun c_43 => ?_)
        · rw [i_lt] at c_43
          have k_44 : (460 : Int32).toInt = 460 := by decide
          unfold Mod_isDescriptor_j42
          refine So.ite (fun c_45 => ?_) (fun c_45 => ?_)
          · rw [i_lt] at c_45
            have k_46 : (480 : Int32).toInt = 480 := by decide
            unfold Mod_isDescriptor_j60
            have k_47 : (0 : Int32).toInt = 0 := by decide
            refine So.imp (t_Mod_isDescriptor_j61 (by show ((0 : Int32).toInt = 0 ∧ ¬ ((400 ≤ a0.toInt ∧ a0.toInt ≤ 431) ∨ (440 ≤ a0.toInt ∧ a0.toInt ≤ 455) ∨ (460 ≤ a0.toInt ∧ a0.toInt ≤ 468) ∨ (480 ≤ a0.toInt ∧ a0.toInt ≤ 487))) ∨ ((0 : Int32).toInt = 1 ∧ ((400 ≤ a0.toInt ∧ a0.toInt ≤ 431) ∨ (440 ≤ a0.toInt ∧ a0.toInt ≤ 455) ∨ (460 ≤ a0.toInt ∧ a0.toInt ≤ 468) ∨ (480 ≤ a0.toInt ∧ a0.toInt ≤ 487))); omega)) fun q_z h_z => ?_
            have p_48 := h_z
            exact (by show (q_z.toInt = 1 ∧ ((0 ≤ a0.toInt ∧ a0.toInt ≤ 63) ∨ (100 ≤ a0.toInt ∧ a0.toInt ≤ 115) ∨ (216 ≤ a0.toInt ∧ a0.toInt ≤ 343) ∨ ((400 ≤ a0.toInt ∧ a0.toInt ≤ 431) ∨ (440 ≤ a0.toInt ∧ a0.toInt ≤ 455) ∨ (460 ≤ a0.toInt ∧ a0.toInt ≤ 468) ∨ (480 ≤ a0.toInt ∧ a0.toInt ≤ 487)) ∨ (501 ≤ a0.toInt ∧ a0.toInt ≤ 516) ∨ a0.toInt = 520)) ∨ (q_z.toInt = 0 ∧ ¬ ((0 ≤ a0.toInt ∧ a0.toInt ≤ 63) ∨ (100 ≤ a0.toInt ∧ a0.toInt ≤ 115) ∨ (216 ≤ a0.toInt ∧ a0.toInt ≤ 343) ∨ ((400 ≤ a0.toInt ∧ a0.toInt ≤ 431) ∨ (440 ≤ a0.toInt ∧ a0.toInt ≤ 455) ∨ (460 ≤ a0.toInt ∧ a0.toInt ≤ 468) ∨ (480 ≤ a0.toInt ∧ a0.toInt ≤ 487)) ∨ (501 ≤ a0.toInt ∧ a0.toInt ≤ 516) ∨ a0.toInt = 520)); omega)
          · rw [i_lt] at c_45
            have k_49 : (480 : Int32).toInt = 480 := by decide
            refine So.ite (fun c_50 => ?_) (fun c_50 => ?_)
            · rw [i_lt] at c_50
              have k_51 : (487 : Int32).toInt = 487 := by decide
              unfold Mod_isDescriptor_j60
              have k_52 : (0 : Int32).toInt = 0 := by decide
              refine So.imp (t_Mod_isDescriptor_j61 (by show ((0 : Int32).toInt = 0 ∧ ¬ ((400 ≤ a0.toInt ∧ a0.toInt ≤ 431) ∨ (440 ≤ a0.toInt ∧ a0.toInt ≤ 455) ∨ (460 ≤ a0.toInt ∧ a0.toInt ≤ 468) ∨ (480 ≤ a0.toInt ∧ a0.toInt ≤ 487))) ∨ ((0 : Int32).toInt = 1 ∧ ((400 ≤ a0.toInt ∧ a0.toInt ≤ 431) ∨ (440 ≤ a0.toInt ∧ a0.toInt ≤ 455) ∨ (460 ≤ a0.toInt ∧ a0.toInt ≤ 468) ∨ (480 ≤ a0.toInt ∧ a0.toInt ≤ 487))); omega)) fun q_z h_z => ?_
              have p_53 := h_z
              exact (by show (q_z.toInt = 1 ∧ ((0 ≤ a0.toInt ∧ a0.toInt ≤ 63) ∨ (100 ≤ a0.toInt ∧ a0.toInt ≤ 115) ∨ (216 ≤ a0.toInt ∧ a0.toInt ≤ 343) ∨ ((400 ≤ a0.toInt ∧ a0.toInt ≤ 431) ∨ (440 ≤ a0.toInt ∧ a0.toInt ≤ 455) ∨ (460 ≤ a0.toInt ∧ a0.toInt ≤ 468) ∨ (480 ≤ a0.toInt ∧ a0.toInt ≤ 487)) ∨ (501 ≤ a0.toInt ∧ a0.toInt ≤ 516) ∨ a0.toInt = 520)) ∨ (q_z.toInt = 0 ∧ ¬ ((0 ≤ a0.toInt ∧ a0.toInt ≤ 63) ∨ (100 ≤ a0.toInt ∧ a0.toInt ≤ 115) ∨ (216 ≤ a0.toInt ∧ a0.toInt ≤ 343) ∨ ((400 ≤ a0.toInt ∧ a0.toInt ≤ 431) ∨ (440 ≤ a0.toInt ∧ a0.toInt ≤ 455) ∨ (460 ≤ a0.toInt ∧ a0.toInt ≤ 468) ∨ (480 ≤ a0.toInt ∧ a0.toInt ≤ 487)) ∨ (501 ≤ a0.toInt ∧ a0.toInt ≤ 516) ∨ a0.toInt = 520)); omega)
            · rw [i_lt] at c_50
              have k_54 : (487 : Int32).toInt = 487 := by decide
              unfold Mod_isDescriptor_j56
              have k_55 : (1 : Int32).toInt = 1 := by decide
              refine So.imp (t_Mod_isDescriptor_j61 (by show ((1 : Int32).toInt = 0 ∧ ¬ ((400 ≤ a0.toInt ∧ a0.toInt ≤ 431) ∨ (440 ≤ a0.toInt ∧ a0.toInt ≤ 455) ∨ (460 ≤ a0.toInt ∧ a0.toInt ≤ 468) ∨ (480 ≤ a0.toInt ∧ a0.toInt ≤ 487))) ∨ ((1 : Int32).toInt = 1 ∧ ((400 ≤ a0.toInt ∧ a0.toInt ≤ 431) ∨ (440 ≤ a0.toInt ∧ a0.toInt ≤ 455) ∨ (460 ≤ a0.toInt ∧ a0.toInt ≤ 468) ∨ (480 ≤ a0.toInt ∧ a0.toInt ≤ 487))); omega)) fun q_z h_z => ?_
              have p_56 := h_z
              exact (by show (q_z.toInt = 1 ∧ ((0 ≤ a0.toInt ∧ a0.toInt ≤ 63) ∨ (100 ≤ a0.toInt ∧ a0.toInt ≤ 115) ∨ (216 ≤ a0.toInt ∧ a0.toInt ≤ 343) ∨ ((400 ≤ a0.toInt ∧ a0.toInt ≤ 431) ∨ (440 ≤ a0.toInt ∧ a0.toInt ≤ 455) ∨ (460 ≤ a0.toInt ∧ a0.toInt ≤ 468) ∨ (480 ≤ a0.toInt ∧ a0.toInt ≤ 487)) ∨ (501 ≤ a0.toInt ∧ a0.toInt ≤ 516) ∨ a0.toInt = 520)) ∨ (q_z.toInt = 0 ∧ ¬ ((0 ≤ a0.toInt ∧ a0.toInt ≤ 63) ∨ (100 ≤ a0.toInt ∧ a0.toInt ≤ 115) ∨ (216 ≤ a0.toInt ∧ a0.toInt ≤ 343) ∨ ((400 ≤ a0.toInt ∧ a0.toInt ≤ 431) ∨ (440 ≤ a0.toInt ∧ a0.toInt ≤ 455) ∨ (460 ≤ a0.toInt ∧ a0.toInt ≤ 468) ∨ (480 ≤ a0.toInt ∧ a0.toInt ≤ 487)) ∨ (501 ≤ a0.toInt ∧ a0.toInt ≤ 516) ∨ a0.toInt = 520)); omega)
        · rw [i_lt] at c_43
          have k_57 : (460 : Int32).toInt = 460 := by decide
          refine So.ite (fun c_58 => ?_) (fun c_58 => ?_)
          · rw [i_le] at c_58
            have k_59 : (468 : Int32).toInt = 468 := by decide
            unfold Mod_isDescriptor_j56
            have k_60 : (1 : Int32).toInt = 1 := by decide
            refine So.imp (t_Mod_isDescriptor_j61 (by show ((1 : Int32).toInt = 0 ∧ ¬ ((400 ≤ a0.toInt ∧ a0.toInt ≤ 431) ∨ (440 ≤ a0.toInt ∧ a0.toInt ≤ 455) ∨ (460 ≤ a0.toInt ∧ a0.toInt ≤ 468) ∨ (480 ≤ a0.toInt ∧ a0.toInt ≤ 487))) ∨ ((1 : Int32).toInt = 1 ∧ ((400 ≤ a0.toInt ∧ a0.toInt ≤ 431) ∨ (440 ≤ a0.toInt ∧ a0.toInt ≤ 455) ∨ (460 ≤ a0.toInt ∧ a0.toInt ≤ 468) ∨ (480 ≤ a0.toInt ∧ a0.toInt ≤ 487))); omega)) fun q_z h_z => ?_
            have p_61 := h_z
            exact (by show (q_z.toInt = 1 ∧ ((0 ≤ a0.toInt ∧ a0.toInt ≤ 63) ∨ (100 ≤ a0.toInt ∧ a0.toInt ≤ 115) ∨ (216 ≤ a0.toInt ∧ a0.toInt ≤ 343) ∨ ((400 ≤ a0.toInt ∧ a0.toInt ≤ 431) ∨ (440 ≤ a0.toInt ∧ a0.toInt ≤ 455) ∨ (460 ≤ a0.toInt ∧ a0.toInt ≤ 468) ∨ (480 ≤ a0.toInt ∧ a0.toInt ≤ 487)) ∨ (501 ≤ a0.toInt ∧ a0.toInt ≤ 516) ∨ a0.toInt = 520)) ∨ (q_z.toInt = 0 ∧ ¬ ((0 ≤ a0.toInt ∧ a0.toInt ≤ 63) ∨ (100 ≤ a0.toInt ∧ a0.toInt ≤ 115) ∨ (216 ≤ a0.toInt ∧ a0.toInt ≤ 343) ∨ ((400 ≤ a0.toInt ∧ a0.toInt ≤ 431) ∨ (440 ≤ a0.toInt ∧ a0.toInt ≤ 455) ∨ (460 ≤ a0.toInt ∧ a0.toInt ≤ 468) ∨ (480 ≤ a0.toInt ∧ a0.toInt ≤ 487)) ∨ (501 ≤ a0.toInt ∧ a0.toInt ≤ 516) ∨ a0.toInt = 520)); omega)
          · rw [i_le] at c_58
            have k_62 : (468 : Int32).toInt = 468 := by decide
            unfold Mod_isDescriptor_j42
            refine So.ite (fun c_63 => ?_) (fun c_63 => ?_)
            · rw [i_lt] at c_63
              have k_64 : (480 : Int32).toInt = 480 := by decide
              unfold Mod_isDescriptor_j60
              have k_65 : (0 : Int32).toInt = 0 := by decide
              refine So.imp (t_Mod_isDescriptor_j61 (by show ((0 : Int32).toInt = 0 ∧ ¬ ((400 ≤ a0.toInt ∧ a0.toInt ≤ 431) ∨ (440 ≤ a0.toInt ∧ a0.toInt ≤ 455) ∨ (460 ≤ a0.toInt ∧ a0.toInt ≤ 468) ∨ (480 ≤ a0.toInt ∧ a0.toInt ≤ 487))) ∨ ((0 : Int32).toInt = 1 ∧ ((400 ≤ a0.toInt ∧ a0.toInt ≤ 431) ∨ (440 ≤ a0.toInt ∧ a0.toInt ≤ 455) ∨ (460 ≤ a0.toInt ∧ a0.toInt ≤ 468) ∨ (480 ≤ a0.toInt ∧ a0.toInt ≤ 487))); omega)) fun q_z h_z => ?_
              have p_66 := h_z
              exact (by show (q_z.toInt = 1 ∧ ((0 ≤ a0.toInt ∧ a0.toInt ≤ 63) ∨ (100 ≤ a0.toInt ∧ a0.toInt ≤ 115) ∨ (216 ≤ a0.toInt ∧ a0.toInt ≤ 343) ∨ ((400 ≤ a0.toInt ∧ a0.toInt ≤ 431) ∨ (440 ≤ a0.toInt ∧ a0.toInt ≤ 455) ∨ (460 ≤ a0.toInt ∧ a0.toInt ≤ 468) ∨ (480 ≤ a0.toInt ∧ a0.toInt ≤ 487)) ∨ (501 ≤ a0.toInt ∧ a0.toInt ≤ 516) ∨ a0.toInt = 520)) ∨ (q_z.toInt = 0 ∧ ¬ ((0 ≤ a0.toInt ∧ a0.toInt ≤ 63) ∨ (100 ≤ a0.toInt ∧ a0.toInt ≤ 115) ∨ (216 ≤ a0.toInt ∧ a0.toInt ≤ 343) ∨ ((400 ≤ a0.toInt ∧ a0.toInt ≤ 431) ∨ (440 ≤ a0.toInt ∧ a0.toInt ≤ 455) ∨ (460 ≤ a0.toInt ∧ a0.toInt ≤ 468) ∨ (480 ≤ a0.toInt ∧ a0.toInt ≤ 487)) ∨ (501 ≤ a0.toInt ∧ a0.toInt ≤ 516) ∨ a0.toInt = 520)); omega)
            · rw [i_lt] at c_63
              have k_67 : (480 : Int32).toInt = 480 := by decide
              refine So.ite (fun c_68 => ?_) (fun c_68 => ?_)
              · rw [i_lt] at c_68
                have k_69 : (487 : Int32).toInt = 487 := by decide
                unfold Mod_isDescriptor_j60
                have k_70 : (0 : Int32).toInt = 0 := by decide
                refine So.imp (t_Mod_isDescriptor_j61 (by show ((0 : Int32).toInt = 0 ∧ ¬ ((400 ≤ a0.toInt ∧ a0.toInt ≤ 431) ∨ (440 ≤ a0.toInt ∧ a0.toInt ≤ 455) ∨ (460 ≤ a0.toInt ∧ a0.toInt ≤ 468) ∨ (480 ≤ a0.toInt ∧ a0.toInt ≤ 487))) ∨ ((0 : Int32).toInt = 1 ∧ ((400 ≤ a0.toInt ∧ a0.toInt ≤ 431) ∨ (440 ≤ a0.toInt ∧ a0.toInt ≤ 455) ∨ (460 ≤ a0.toInt ∧ a0.toInt ≤ 468) ∨ (480 ≤ a0.toInt ∧ a0.toInt ≤ 487))); omega)) fun q_z h_z => ?_
                have p_71 := h_z
                exact (by show (q_z.toInt = 1 ∧ ((0 ≤ a0.toInt ∧ a0.toInt ≤ 63) ∨ (100 ≤ a0.toInt ∧ a0.toInt ≤ 115) ∨ (216 ≤ a0.toInt ∧ a0.toInt ≤ 343) ∨ ((400 ≤ a0.toInt ∧ a0.toInt ≤ 431) ∨ (440 ≤ a0.toInt ∧ a0.toInt ≤ 455) ∨ (460 ≤ a0.toInt ∧ a0.toInt ≤ 468) ∨ (480 ≤ a0.toInt ∧ a0.toInt ≤ 487)) ∨ (501 ≤ a0.toInt ∧ a0.toInt ≤ 516) ∨ a0.toInt = 520)) ∨ (q_z.toInt = 0 ∧ ¬ ((0 ≤ a0.toInt ∧ a0.toInt ≤ 63) ∨ (100 ≤ a0.toInt ∧ a0.toInt ≤ 115) ∨ (216 ≤ a0.toInt ∧ a0.toInt ≤ 343) ∨ ((400 ≤ a0.toInt ∧ a0.toInt ≤ 431) ∨ (440 ≤ a0.toInt ∧ a0.toInt ≤ 455) ∨ (460 ≤ a0.toInt ∧ a0.toInt ≤ 468) ∨ (480 ≤ a0.toInt ∧ a0.toInt ≤ 487)) ∨ (501 ≤ a0.toInt ∧ a0.toInt ≤ 516) ∨ a0.toInt = 520)); omega)
              · rw [i_lt] at c_68
                have k_72 : (487 : Int32).toInt = 487 := by decide
                unfold Mod_isDescriptor_j56
                have k_73 : (1 : Int32).toInt = 1 := by decide
                refine So.imp (t_Mod_isDescriptor_j61 (by show ((1 : Int32).toInt = 0 ∧ ¬ ((400 ≤ a0.toInt ∧ a0.toInt ≤ 431) ∨ (440 ≤ a0.toInt ∧ a0.toInt ≤ 455) ∨ (460 ≤ a0.toInt ∧ a0.toInt ≤ 468) ∨ (480 ≤ a0.toInt ∧ a0.toInt ≤ 487))) ∨ ((1 : Int32).toInt = 1 ∧ ((400 ≤ a0.toInt ∧ a0.toInt ≤ 431) ∨ (440 ≤ a0.toInt ∧ a0.toInt ≤ 455) ∨ (460 ≤ a0.toInt ∧ a0.toInt ≤ 468) ∨ (480 ≤ a0.toInt ∧ a0.toInt ≤ 487))); omega)) fun q_z h_z => ?_
                have p_74 := h_z
                exact (by show (q_z.toInt = 1 ∧ ((0 ≤ a0.toInt ∧ a0.toInt ≤ 63) ∨ (100 ≤ a0.toInt ∧ a0.toInt ≤ 115) ∨ (216 ≤ a0.toInt ∧ a0.toInt ≤ 343) ∨ ((400 ≤ a0.toInt ∧ a0.toInt ≤ 431) ∨ (440 ≤ a0.toInt ∧ a0.toInt ≤ 455) ∨ (460 ≤ a0.toInt ∧ a0.toInt ≤ 468) ∨ (480 ≤ a0.toInt ∧ a0.toInt ≤ 487)) ∨ (501 ≤ a0.toInt ∧ a0.toInt ≤ 516) ∨ a0.toInt = 520)) ∨ (q_z.toInt = 0 ∧ ¬ ((0 ≤ a0.toInt ∧ a0.toInt ≤ 63) ∨ (100 ≤ a0.toInt ∧ a0.toInt ≤ 115) ∨ (216 ≤ a0.toInt ∧ a0.toInt ≤ 343) ∨ ((400 ≤ a0.toInt ∧ a0.toInt ≤ 431) ∨ (440 ≤ a0.toInt ∧ a0.toInt ≤ 455) ∨ (460 ≤ a0.toInt ∧ a0.toInt ≤ 468) ∨ (480 ≤ a0.toInt ∧ a0.toInt ≤ 487)) ∨ (501 ≤ a0.toInt ∧ a0.toInt ≤ 516) ∨ a0.toInt = 520)); omega)
  · rw [i_lt] at c_1
    have k_75 : (400 : Int32).toInt = 400 := by decide
    refine So.ite (fun c_76 => ?_) (fun c_76 => ?_)
    · rw [i_le] at c_76
      have k_77 : (431 : Int32).toInt = 431 := by decide
      unfold Mod_isDescriptor_j56
      have k_78 : (1 : Int32).toInt = 1 := by decide
      refine So.imp (t_Mod_isDescriptor_j61 (by show ((1 : Int32).toInt = 0 ∧ ¬ ((400 ≤ a0.toInt ∧ a0.toInt ≤ 431) ∨ (440 ≤ a0.toInt ∧ a0.toInt ≤ 455) ∨ (460 ≤ a0.toInt ∧ a0.toInt ≤ 468) ∨ (480 ≤ a0.toInt ∧ a0.toInt ≤ 487))) ∨ ((1 : Int32).toInt = 1 ∧ ((400 ≤ a0.toInt ∧ a0.toInt ≤ 431) ∨ (440 ≤ a0.toInt ∧ a0.toInt ≤ 455) ∨ (460 ≤ a0.toInt ∧ a0.toInt ≤ 468) ∨ (480 ≤ a0.toInt ∧ a0.toInt ≤ 487))); omega)) fun q_z h_z => ?_
      have p_79 := h_z
      exact (by show (q_z.toInt = 1 ∧ ((0 ≤ a0.toInt ∧ a0.toInt ≤ 63) ∨ (100 ≤ a0.toInt ∧ a0.toInt ≤ 115) ∨ (216 ≤ a0.toInt ∧ a0.toInt ≤ 343) ∨ ((400 ≤ a0.toInt ∧ a0.toInt ≤ 431) ∨ (440 ≤ a0.toInt ∧ a0.toInt ≤ 455) ∨ (460 ≤ a0.toInt ∧ a0.toInt ≤ 468) ∨ (480 ≤ a0.toInt ∧ a0.toInt ≤ 487)) ∨ (501 ≤ a0.toInt ∧ a0.toInt ≤ 516) ∨ a0.toInt = 520)) ∨ (q_z.toInt = 0 ∧ ¬ ((0 ≤ a0.toInt ∧ a0.toInt ≤ 63) ∨ (100 ≤ a0.toInt ∧ a0.toInt ≤ 115) ∨ (216 ≤ a0.toInt ∧ a0.toInt ≤ 343) ∨ ((400 ≤ a0.toInt ∧ a0.toInt ≤ 431) ∨ (440 ≤ a0.toInt ∧ a0.toInt ≤ 455) ∨ (460 ≤ a0.toInt ∧ a0.toInt ≤ 468) ∨ (480 ≤ a0.toInt ∧ a0.toInt ≤ 487)) ∨ (501 ≤ a0.toInt ∧ a0.toInt ≤ 516) ∨ a0.toInt = 520)); omega)
    · rw [i_le] at c_76
      have k_80 : (431 : Int32).toInt = 431 := by decide
      unfold Mod_isDescriptor_j14
      refine So.ite (fun c_81 => ?_) (fun c_81 => ?_)
      · rw [i_lt] at c_81
        have k_82 : (440 : Int32).toInt = 440 := by decide
        unfold Mod_isDescriptor_j28
        refine So.ite (fun c_83 => ?_) (fun c_83 => ?_)
        · rw [i_lt] at c_83
          have k_84 : (460 : Int32).toInt = 460 := by decide
          unfold Mod_isDescriptor_j42
          refine So.ite (fun c_85 => ?_) (fun c_85 => ?_)
          · rw [i_lt] at c_85
            have k_86 : (480 : Int32).toInt = 480 := by decide
            unfold Mod_isDescriptor_j60
            have k_87 : (0 : Int32).toInt = 0 := by decide
            refine So.imp (t_Mod_isDescriptor_j61 (by show ((0 : Int32).toInt = 0 ∧ ¬ ((400 ≤ a0.toInt ∧ a0.toInt ≤ 431) ∨ (440 ≤ a0.toInt ∧ a0.toInt ≤ 455) ∨ (460 ≤ a0.toInt ∧ a0.toInt ≤ 468) ∨ (480 ≤ a0.toInt ∧ a0.toInt ≤ 487))) ∨ ((0 : Int32).toInt = 1 ∧ ((400 ≤ a0.toInt ∧ a0.toInt ≤ 431) ∨ (440 ≤ a0.toInt ∧ a0.toInt ≤ 455) ∨ (460 ≤ a0.toInt ∧ a0.toInt ≤ 468) ∨ (480 ≤ a0.toInt ∧ a0.toInt ≤ 487))); omega)) fun q_z h_z => ?_
            have p_88 := h_z
            exact (by show (q_z.toInt = 1 ∧ ((0 ≤ a0.toInt ∧ a0.toInt ≤ 63) ∨ (100 ≤ a0.toInt ∧ a0.toInt ≤ 115) ∨ (216 ≤ a0.toInt ∧ a0.toInt ≤ 343) ∨ ((400 ≤ a0.toInt ∧ a0.toInt ≤ 431) ∨ (440 ≤ a0.toInt ∧ a0.toInt ≤ 455) ∨ (460 ≤ a0.toInt ∧ a0.toInt ≤ 468) ∨ (480 ≤ a0.toInt ∧ a0.toInt ≤ 487)) ∨ (501 ≤ a0.toInt ∧ a0.toInt ≤ 516) ∨ a0.toInt = 520)) ∨ (q_z.toInt = 0 ∧ ¬ ((0 ≤ a0.toInt ∧ a0.toInt ≤ 63) ∨ (100 ≤ a0.toInt ∧ a0.toInt ≤ 115) ∨ (216 ≤ a0.toInt ∧ a0.toInt ≤ 343) ∨ ((400 ≤ a0.toInt ∧ a0.toInt ≤ 431) ∨ (440 ≤ a0.toInt ∧ a0.toInt ≤ 455) ∨ (460 ≤ a0.toInt ∧ a0.toInt ≤ 468) ∨ (480 ≤ a0.toInt ∧ a0.toInt ≤ 487)) ∨ (501 ≤ a0.toInt ∧ a0.toInt ≤ 516) ∨ a0.toInt = 520)); omega)
          · rw [i_lt] at c_85
            have k_89 : (480 : Int32).toInt = 480 := by decide
            refine So.ite (fun c_90 => ?_) (fun c_90 => ?_)
            · rw [i_lt] at c_90
              have k_91 : (487 : Int32).toInt = 487 := by decide
              unfold Mod_isDescriptor_j60
              have k_92 : (0 : Int32).toInt = 0 := by decide
              refine So.imp (t_Mod_isDescriptor_j61 (by show ((0 : Int32).toInt = 0 ∧ ¬ ((400 ≤ a0.toInt ∧ a0.toInt ≤ 431) ∨ (440 ≤ a0.toInt ∧ a0.toInt ≤ 455) ∨ (460 ≤ a0.toInt ∧ a0.toInt ≤ 468) ∨ (480 ≤ a0.toInt ∧ a0.toInt ≤ 487))) ∨ ((0 : Int32).toInt = 1 ∧ ((400 ≤ a0.toInt ∧ a0.toInt ≤ 431) ∨ (440 ≤ a0.toInt ∧ a0.toInt ≤ 455) ∨ (460 ≤ a0.toInt ∧ a0.toInt ≤ 468) ∨ (480 ≤ a0.toInt ∧ a0.toInt ≤ 487))); omega)) fun q_z h_z => ?_
              have p_93 := h_z
              exact (by show (q_z.toInt = 1 ∧ ((0 ≤ a0.toInt ∧ a0.toInt ≤ 63) ∨ (100 ≤ a0.toInt ∧ a0.toInt ≤ 115) ∨ (216 ≤ a0.toInt ∧ a0.toInt ≤ 343) ∨ ((400 ≤ a0.toInt ∧ a0.toInt ≤ 431) ∨ (440 ≤ a0.toInt ∧ a0.toInt ≤ 455) ∨ (460 ≤ a0.toInt ∧ a0.toInt ≤ 468) ∨ (480 ≤ a0.toInt ∧ a0.toInt ≤ 487)) ∨ (501 ≤ a0.toInt ∧ a0.toInt ≤ 516) ∨ a0.toInt = 520)) ∨ (q_z.toInt = 0 ∧ ¬ ((0 ≤ a0.toInt ∧ a0.toInt ≤ 63) ∨ (100 ≤ a0.toInt ∧ a0.toInt ≤ 115) ∨ (216 ≤ a0.toInt ∧ a0.toInt ≤ 343) ∨ ((400 ≤ a0.toInt ∧ a0.toInt ≤ 431) ∨ (440 ≤ a0.toInt ∧ a0.toInt ≤ 455) ∨ (460 ≤ a0.toInt ∧ a0.toInt ≤ 468) ∨ (480 ≤ a0.toInt ∧ a0.toInt ≤ 487)) ∨ (501 ≤ a0.toInt ∧ a0.toInt ≤ 516) ∨ a0.toInt = 520)); omega)
            · rw [i_lt] at c_90
              have k_94 : (487 : Int32).toInt = 487 := by decide
              unfold Mod_isDescriptor_j56
              have k_95 : (1 : Int32).toInt = 1 := by decide
              refine So.imp (t_Mod_isDescriptor_j61 (by show ((1 : Int32).toInt = 0 ∧ ¬ ((400 ≤ a0.toInt ∧ a0.toInt ≤ 431) ∨ (440 ≤ a0.toInt ∧ a0.toInt ≤ 455) ∨ (460 ≤ a0.toInt ∧ a0.toInt ≤ 468) ∨ (480 ≤ a0.toInt ∧ a0.toInt ≤ 487))) ∨ ((1 : Int32).toInt = 1 ∧ ((400 ≤ a0.toInt ∧ a0.toInt ≤ 431) ∨ (440 ≤ a0.toInt ∧ a0.toInt ≤ 455) ∨ (460 ≤ a0.toInt ∧ a0.toInt ≤ 468) ∨ (480 ≤ a0.toInt ∧ a0.toInt ≤ 487))); omega)) fun q_z h_z => ?_
              have p_96 := h_z
              exact (by show (q_z.toInt = 1 ∧ ((0 ≤ a0.toInt ∧ a0.toInt ≤ 63) ∨ (100 ≤ a0.toInt ∧ a0.toInt ≤ 115) ∨ (216 ≤ a0.toInt ∧ a0.toInt ≤ 343) ∨ ((400 ≤ a0.toInt ∧ a0.toInt ≤ 431) ∨ (440 ≤ a0.toInt ∧ a0.toInt ≤ 455) ∨ (460 ≤ a0.toInt ∧ a0.toInt ≤ 468) ∨ (480 ≤ a0.toInt ∧ a0.toInt ≤ 487)) ∨ (501 ≤ a0.toInt ∧ a0.toInt ≤ 516) ∨ a0.toInt = 520)) ∨ (q_z.toInt = 0 ∧ ¬ ((0 ≤ a0.toInt ∧ a0.toInt ≤ 63) ∨ (100 ≤ a0.toInt ∧ a0.toInt ≤ 115) ∨ (216 ≤ a0.toInt ∧ a0.toInt ≤ 343) ∨ ((400 ≤ a0.toInt ∧ a0.toInt ≤ 431) ∨ (440 ≤ a0.toInt ∧ a0.toInt ≤ 455) ∨ (460 ≤ a0.toInt ∧ a0.toInt ≤ 468) ∨ (480 ≤ a0.toInt ∧ a0.toInt ≤ 487)) ∨ (501 ≤ a0.toInt ∧ a0.toInt ≤ 516) ∨ a0.toInt = 520)); omega)
        · rw [i_lt] at c_83
          have k_97 : (460 : Int32).toInt = 460 := by decide
          refine So.ite (fun c_98 => ?_) (fun c_98 => ?_)
          · rw [i_le] at c_98
            have k_99 : (468 : Int32).toInt = 468 := by decide
            unfold Mod_isDescriptor_j56
            have k_100 : (1 : Int32).toInt = 1 := by decide
            refine So.imp (t_Mod_isDescriptor_j61 (by show ((1 : Int32).toInt = 0 ∧ ¬ ((400 ≤ a0.toInt ∧ a0.toInt ≤ 431) ∨ (440 ≤ a0.toInt ∧ a0.toInt ≤ 455) ∨ (460 ≤ a0.toInt ∧ a0.toInt ≤ 468) ∨ (480 ≤ a0.toInt ∧ a0.toInt ≤ 487))) ∨ ((1 : Int32).toInt = 1 ∧ ((400 ≤ a0.toInt ∧ a0.toInt ≤ 431) ∨ (440 ≤ a0.toInt ∧ a0.toInt ≤ 455) ∨ (460 ≤ a0.toInt ∧ a0.toInt ≤ 468) ∨ (480 ≤ a0.toInt ∧ a0.toInt ≤ 487))); omega)) fun q_z h_z => ?_
            have p_101 := h_z
            exact (by show (q_z.toInt = 1 ∧ ((0 ≤ a0.toInt ∧ a0.toInt ≤ 63) ∨ (100 ≤ a0.toInt ∧ a0.toInt ≤ 115) ∨ (216 ≤ a0.toInt ∧ a0.toInt ≤ 343) ∨ ((400 ≤ a0.toInt ∧ a0.toInt ≤ 431) ∨ (440 ≤ a0.toInt ∧ a0.toInt ≤ 455) ∨ (460 ≤ a0.toInt ∧ a0.toInt ≤ 468) ∨ (480 ≤ a0.toInt ∧ a0.toInt ≤ 487)) ∨ (501 ≤ a0.toInt ∧ a0.toInt ≤ 516) ∨ a0.toInt = 520)) ∨ (q_z.toInt = 0 ∧ ¬ ((0 ≤ a0.toInt ∧ a0.toInt ≤ 63) ∨ (100 ≤ a0.toInt ∧ a0.toInt ≤ 115) ∨ (216 ≤ a0.toInt ∧ a0.toInt ≤ 343) ∨ ((400 ≤ a0.toInt ∧ a0.toInt ≤ 431) ∨ (440 ≤ a0.toInt ∧ a0.toInt ≤ 455) ∨ (460 ≤ a0.toInt ∧ a0.toInt ≤ 468) ∨ (480 ≤ a0.toInt ∧ a0.toInt ≤ 487)) ∨ (501 ≤ a0.toInt ∧ a0.toInt ≤ 516) ∨ a0.toInt = 520)); omega)
          · rw [i_le] at c_98
            have k_102 : (468 : Int32).toInt = 468 := by decide
            unfold Mod_isDescriptor_j42
            refine So.ite (fun c_103 => ?_) (fun c_103 => ?_)
            · rw [i_lt] at c_103
              have k_104 : (480 : Int32).toInt = 480 := by decide
              unfold Mod_isDescriptor_j60
              have k_105 : (0 : Int32).toInt = 0 := by decide
              refine So.imp (t_Mod_isDescriptor_j61 (by show ((0 : Int32).toInt = 0 ∧ ¬ ((400 ≤ a0.toInt ∧ a0.toInt ≤ 431) ∨ (440 ≤ a0.toInt ∧ a0.toInt ≤ 455) ∨ (460 ≤ a0.toInt ∧ a0.toInt ≤ 468) ∨ (480 ≤ a0.toInt ∧ a0.toInt ≤ 487))) ∨ ((0 : Int32).toInt = 1 ∧ ((400 ≤ a0.toInt ∧ a0.toInt ≤ 431) ∨ (440 ≤ a0.toInt ∧ a0.toInt ≤ 455) ∨ (460 ≤ a0.toInt ∧ a0.toInt ≤ 468) ∨ (480 ≤ a0.toInt ∧ a0.toInt ≤ 487))); omega)) fun q_z h_z => ?_
              have p_106 := h_z
              exact (by show (q_z.toInt = 1 ∧ ((0 ≤ a0.toInt ∧ a0.toInt ≤ 63) ∨ (100 ≤ a0.toInt ∧ a0.toInt ≤ 115) ∨ (216 ≤ a0.toInt ∧ a0.toInt ≤ 343) ∨ ((400 ≤ a0.toInt ∧ a0.toInt ≤ 431) ∨ (440 ≤ a0.toInt ∧ a0.toInt ≤ 455) ∨ (460 ≤ a0.toInt ∧ a0.toInt ≤ 468) ∨ (480 ≤ a0.toInt ∧ a0.toInt ≤ 487)) ∨ (501 ≤ a0.toInt ∧ a0.toInt ≤ 516) ∨ a0.toInt = 520)) ∨ (q_z.toInt = 0 ∧ ¬ ((0 ≤ a0.toInt ∧ a0.toInt ≤ 63) ∨ (100 ≤ a0.toInt ∧ a0.toInt ≤ 115) ∨ (216 ≤ a0.toInt ∧ a0.toInt ≤ 343) ∨ ((400 ≤ a0.toInt ∧ a0.toInt ≤ 431) ∨ (440 ≤ a0.toInt ∧ a0.toInt ≤ 455) ∨ (460 ≤ a0.toInt ∧ a0.toInt ≤ 468) ∨ (480 ≤ a0.toInt ∧ a0.toInt ≤ 487)) ∨ (501 ≤ a0.toInt ∧ a0.toInt ≤ 516) ∨ a0.toInt = 520)); omega)
            · rw [i_lt] at c_103
              have k_107 : (480 : Int32).toInt = 480 := by decide
              refine So.ite (fun c_108 => ?_) (fun c_108 => ?_)
              · rw [i_lt] at c_108
                have k_109 : (487 : Int32).toInt = 487 := by decide
                unfold Mod_isDescriptor_j60
                have k_110 : (0 : Int32).toInt = 0 := by decide
                refine So.imp (t_Mod_isDescriptor_j61 (by show ((0 : Int32).toInt = 0 ∧ ¬ ((400 ≤ a0.toInt ∧ a0.toInt ≤ 431) ∨ (440 ≤ a0.toInt ∧ a0.toInt ≤ 455) ∨ (460 ≤ a0.toInt ∧ a0.toInt ≤ 468) ∨ (480 ≤ a0.toInt ∧ a0.toInt ≤ 487))) ∨ ((0 : Int32).toInt = 1 ∧ ((400 ≤ a0.toInt ∧ a0.toInt ≤ 431) ∨ (440 ≤ a0.toInt ∧ a0.toInt ≤ 455) ∨ (460 ≤ a0.toInt ∧ a0.toInt ≤ 468) ∨ (480 ≤ a0.toInt ∧ a0.toInt ≤ 487))); omega)) fun q_z h_z => ?_
                have p_111 := h_z
                exact (by show (q_z.toInt = 1 ∧ ((0 ≤ a0.toInt ∧ a0.toInt ≤ 63) ∨ (100 ≤ a0.toInt ∧ a0.toInt ≤ 115) ∨ (216 ≤ a0.toInt ∧ a0.toInt ≤ 343) ∨ ((400 ≤ a0.toInt ∧ a0.toInt ≤ 431) ∨ (440 ≤ a0.toInt ∧ a0.toInt ≤ 455) ∨ (460 ≤ a0.toInt ∧ a0.toInt ≤ 468) ∨ (480 ≤ a0.toInt ∧ a0.toInt ≤ 487)) ∨ (501 ≤ a0.toInt ∧ a0.toInt ≤ 516) ∨ a0.toInt = 520)) ∨ (q_z.toInt = 0 ∧ ¬ ((0 ≤ a0.toInt ∧ a0.toInt ≤ 63) ∨ (100 ≤ a0.toInt ∧ a0.toInt ≤ 115) ∨ (216 ≤ a0.toInt ∧ a0.toInt ≤ 343) ∨ ((400 ≤ a0.toInt ∧ a0.toInt ≤ 431) ∨ (440 ≤ a0.toInt ∧ a0.toInt ≤ 455) ∨ (460 ≤ a0.toInt ∧ a0.toInt ≤ 468) ∨ (480 ≤ a0.toInt ∧ a0.toInt ≤ 487)) ∨ (501 ≤ a0.toInt ∧ a0.toInt ≤ 516) ∨ a0.toInt = 520)); omega)
              · rw [i_lt] at c_108
                have k_112 : (487 : Int32).toInt = 487 := by decide
                unfold Mod_isDescriptor_j56
                have k_113 : (1 : Int32).toInt = 1 := by decide
                refine So.imp (t_Mod_isDescriptor_j61 (by show ((1 : Int32).toInt = 0 ∧ ¬ ((400 ≤ a0.toInt ∧ a0.toInt ≤ 431) ∨ (440 ≤ a0.toInt ∧ a0.toInt ≤ 455) ∨ (460 ≤ a0.toInt ∧ a0.toInt ≤ 468) ∨ (480 ≤ a0.toInt ∧ a0.toInt ≤ 487))) ∨ ((1 : Int32).toInt = 1 ∧ ((400 ≤ a0.toInt ∧ a0.toInt ≤ 431) ∨ (440 ≤ a0.toInt ∧ a0.toInt ≤ 455) ∨ (460 ≤ a0.toInt ∧ a0.toInt ≤ 468) ∨ (480 ≤ a0.toInt ∧ a0.toInt ≤ 487))); omega)) fun q_z h_z => ?_
                have p_114 := h_z
                exact (by show (q_z.toInt = 1 ∧ ((0 ≤ a0.toInt ∧ a0.toInt ≤ 63) ∨ (100 ≤ a0.toInt ∧ a0.toInt ≤ 115) ∨ (216 ≤ a0.toInt ∧ a0.toInt ≤ 343) ∨ ((400 ≤ a0.toInt ∧ a0.toInt ≤ 431) ∨ (440 ≤ a0.toInt ∧ a0.toInt ≤ 455) ∨ (460 ≤ a0.toInt ∧ a0.toInt ≤ 468) ∨ (480 ≤ a0.toInt ∧ a0.toInt ≤ 487)) ∨ (501 ≤ a0.toInt ∧ a0.toInt ≤ 516) ∨ a0.toInt = 520)) ∨ (q_z.toInt = 0 ∧ ¬ ((0 ≤ a0.toInt ∧ a0.toInt ≤ 63) ∨ (100 ≤ a0.toInt ∧ a0.toInt ≤ 115) ∨ (216 ≤ a0.toInt ∧ a0.toInt ≤ 343) ∨ ((400 ≤ a0.toInt ∧ a0.toInt ≤ 431) ∨ (440 ≤ a0.toInt ∧ a0.toInt ≤ 455) ∨ (460 ≤ a0.toInt ∧ a0.toInt ≤ 468) ∨ (480 ≤ a0.toInt ∧ a0.toInt ≤ 487)) ∨ (501 ≤ a0.toInt ∧ a0.toInt ≤ 516) ∨ a0.toInt = 520)); omega)
      · rw [i_lt] at c_81
        have k_115 : (440 : Int32).toInt = 440 := by decide
        refine So.ite (fun c_116 => ?_) (fun c_116 => ?_)
        · rw [i_le] at c_116
          have k_117 : (455 : Int32).toInt = 455 := by decide
          unfold Mod_isDescriptor_j56
          have k_118 : (1 : Int32).toInt = 1 := by decide
          refine So.imp (t_Mod_isDescriptor_j61 (by show ((1 : Int32).toInt = 0 ∧ ¬ ((400 ≤ a0.toInt ∧ a0.toInt ≤ 431) ∨ (440 ≤ a0.toInt ∧ a0.toInt ≤ 455) ∨ (460 ≤ a0.toInt ∧ a0.toInt ≤ 468) ∨ (480 ≤ a0.toInt ∧ a0.toInt ≤ 487))) ∨ ((1 : Int32).toInt = 1 ∧ ((400 ≤ a0.toInt ∧ a0.toInt ≤ 431) ∨ (440 ≤ a0.toInt ∧ a0.toInt ≤ 455) ∨ (460 ≤ a0.toInt ∧ a0.toInt ≤ 468) ∨ (480 ≤ a0.toInt ∧ a0.toInt ≤ 487))); omega)) fun q_z h_z => ?_
          have p_119 := h_z
          exact (by show (q_z.toInt = 1 ∧ ((0 ≤ a0.toInt ∧ a0.toInt ≤ 63) ∨ (100 ≤ a0.toInt ∧ a0.toInt ≤ 115) ∨ (216 ≤ a0.toInt ∧ a0.toInt ≤ 343) ∨ ((400 ≤ a0.toInt ∧ a0.toInt ≤ 431) ∨ (440 ≤ a0.toInt ∧ a0.toInt ≤ 455) ∨ (460 ≤ a0.toInt ∧ a0.toInt ≤ 468) ∨ (480 ≤ a0.toInt ∧ a0.toInt ≤ 487)) ∨ (501 ≤ a0.toInt ∧ a0.toInt ≤ 516) ∨ a0.toInt = 520)) ∨ (q_z.toInt = 0 ∧ ¬ ((0 ≤ a0.toInt ∧ a0.toInt ≤ 63) ∨ (100 ≤ a0.toInt ∧ a0.toInt ≤ 115) ∨ (216 ≤ a0.toInt ∧ a0.toInt ≤ 343) ∨ ((400 ≤ a0.toInt ∧ a0.toInt ≤ 431) ∨ (440 ≤ a0.toInt ∧ a0.toInt ≤ 455) ∨ (460 ≤ a0.toInt ∧ a0.toInt ≤ 468) ∨ (480 ≤ a0.toInt ∧ a0.toInt ≤ 487)) ∨ (501 ≤ a0.toInt ∧ a0.toInt ≤ 516) ∨ a0.toInt = 520)); omega)
        · rw [i_le] at c_116
          have k_120 : (455 : Int32).toInt = 455 := by decide
          unfold Mod_isDescriptor_j28
          refine So.ite (fun c_121 => ?_) (fun c_121 => ?_)
          · rw [i_lt] at c_121
            have k_122 : (460 : Int32).toInt = 460 := by decide
            unfold Mod_isDescriptor_j42
            refine So.ite (fun c_123 => ?_) (fun c_123 => ?_)
            · rw [i_lt] at c_123
              have k_124 : (480 : Int32).toInt = 480 := by decide
              unfold Mod_isDescriptor_j60
              have k_125 : (0 : Int32).toInt = 0 := by decide
              refine So.imp (t_Mod_isDescriptor_j61 (by show ((0 : Int32).toInt = 0 ∧ ¬ ((400 ≤ a0.toInt ∧ a0.toInt ≤ 431) ∨ (440 ≤ a0.toInt ∧ a0.toInt ≤ 455) ∨ (460 ≤ a0.toInt ∧ a0.toInt ≤ 468) ∨ (480 ≤ a0.toInt ∧ a0.toInt ≤ 487))) ∨ ((0 : Int32).toInt = 1 ∧ ((400 ≤ a0.toInt ∧ a0.toInt ≤ 431) ∨ (440 ≤ a0.toInt ∧ a0.toInt ≤ 455) ∨ (460 ≤ a0.toInt ∧ a0.toInt ≤ 468) ∨ (480 ≤ a0.toInt ∧ a0.toInt ≤ 487))); omega)) fun q_z h_z => ?_
              have p_126 := h_z
              exact (by show (q_z.toInt = 1 ∧ ((0 ≤ a0.toInt ∧ a0.toInt ≤ 63) ∨ (100 ≤ a0.toInt ∧ a0.toInt ≤ 115) ∨ (216 ≤ a0.toInt ∧ a0.toInt ≤ 343) ∨ ((400 ≤ a0.toInt ∧ a0.toInt ≤ 431) ∨ (440 ≤ a0.toInt ∧ a0.toInt ≤ 455) ∨ (460 ≤ a0.toInt ∧ a0.toInt ≤ 468) ∨ (480 ≤ a0.toInt ∧ a0.toInt ≤ 487)) ∨ (501 ≤ a0.toInt ∧ a0.toInt ≤ 516) ∨ a0.toInt = 520)) ∨ (q_z.toInt = 0 ∧ ¬ ((0 ≤ a0.toInt ∧ a0.toInt ≤ 63) ∨ (100 ≤ a0.toInt ∧ a0.toInt ≤ 115) ∨ (216 ≤ a0.toInt ∧ a0.toInt ≤ 343) ∨ ((400 ≤ a0.toInt ∧ a0.toInt ≤ 431) ∨ (440 ≤ a0.toInt ∧ a0.toInt ≤ 455) ∨ (460 ≤ a0.toInt ∧ a0.toInt ≤ 468) ∨ (480 ≤ a0.toInt ∧ a0.toInt ≤ 487)) ∨ (501 ≤ a0.toInt ∧ a0.toInt ≤ 516) ∨ a0.toInt = 520)); omega)
            · rw [i_lt] at c_123
              have k_127 : (480 : Int32).toInt = 480 := by decide
              refine So.ite (fun c_128 => ?_) (fun c_128 => ?_)
              · rw [i_lt] at c_128
                have k_129 : (487 : Int32).toInt = 487 := by decide
                unfold Mod_isDescriptor_j60
                have k_130 : (0 : Int32).toInt = 0 := by decide
                refine So.imp (t_Mod_isDescriptor_j61 (by show ((0 : Int32).toInt = 0 ∧ ¬ ((400 ≤ a0.toInt ∧ a0.toInt ≤ 431) ∨ (440 ≤ a0.toInt ∧ a0.toInt ≤ 455) ∨ (460 ≤ a0.toInt ∧ a0.toInt ≤ 468) ∨ (480 ≤ a0.toInt ∧ a0.toInt ≤ 487))) ∨ ((0 : Int32).toInt = 1 ∧ ((400 ≤ a0.toInt ∧ a0.toInt ≤ 431) ∨ (440 ≤ a0.toInt ∧ a0.toInt ≤ 455) ∨ (460 ≤ a0.toInt ∧ a0.toInt ≤ 468) ∨ (480 ≤ a0.toInt ∧ a0.toInt ≤ 487))); omega)) fun q_z h_z => ?_
                have p_131 := h_z
                exact (by show (q_z.toInt = 1 ∧ ((0 ≤ a0.toInt ∧ a0.toInt ≤ 63) ∨ (100 ≤ a0.toInt ∧ a0.toInt ≤ 115) ∨ (216 ≤ a0.toInt ∧ a0.toInt ≤ 343) ∨ ((400 ≤ a0.toInt ∧ a0.toInt ≤ 431) ∨ (440 ≤ a0.toInt ∧ a0.toInt ≤ 455) ∨ (460 ≤ a0.toInt ∧ a0.toInt ≤ 468) ∨ (480 ≤ a0.toInt ∧ a0.toInt ≤ 487)) ∨ (501 ≤ a0.toInt ∧ a0.toInt ≤ 516) ∨ a0.toInt = 520)) ∨ (q_z.toInt = 0 ∧ ¬ ((0 ≤ a0.toInt ∧ a0.toInt ≤ 63) ∨ (100 ≤ a0.toInt ∧ a0.toInt ≤ 115) ∨ (216 ≤ a0.toInt ∧ a0.toInt ≤ 343) ∨ ((400 ≤ a0.toInt ∧ a0.toInt ≤ 431) ∨ (440 ≤ a0.toInt ∧ a0.toInt ≤ 455) ∨ (460 ≤ a0.toInt ∧ a0.toInt ≤ 468) ∨ (480 ≤ a0.toInt ∧ a0.toInt ≤ 487)) ∨ (501 ≤ a0.toInt ∧ a0.toInt ≤ 516) ∨ a0.toInt = 520)); omega)
              · rw [i_lt] at c_128
                have k_132 : (487 : Int32).toInt = 487 := by decide
                unfold Mod_isDescriptor_j56
                have k_133 : (1 : Int32).toInt = 1 := by decide
                refine So.imp (t_Mod_isDescriptor_j61 (by show ((1 : Int32).toInt = 0 ∧ ¬ ((400 ≤ a0.toInt ∧ a0.toInt ≤ 431) ∨ (440 ≤ a0.toInt ∧ a0.toInt ≤ 455) ∨ (460 ≤ a0.toInt ∧ a0.toInt ≤ 468) ∨ (480 ≤ a0.toInt ∧ a0.toInt ≤ 487))) ∨ ((1 : Int32).toInt = 1 ∧ ((400 ≤ a0.toInt ∧ a0.toInt ≤ 431) ∨ (440 ≤ a0.toInt ∧ a0.toInt ≤ 455) ∨ (460 ≤ a0.toInt ∧ a0.toInt ≤ 468) ∨ (480 ≤ a0.toInt ∧ a0.toInt ≤ 487))); omega)) fun q_z h_z => ?_
                have p_134 := h_z
                exact (by show (q_z.toInt = 1 ∧ ((0 ≤ a0.toInt ∧ a0.toInt ≤ 63) ∨ (100 ≤ a0.toInt ∧ a0.toInt ≤ 115) ∨ (216 ≤ a0.toInt ∧ a0.toInt ≤ 343) ∨ ((400 ≤ a0.toInt ∧ a0.toInt ≤ 431) ∨ (440 ≤ a0.toInt ∧ a0.toInt ≤ 455) ∨ (460 ≤ a0.toInt ∧ a0.toInt ≤ 468) ∨ (480 ≤ a0.toInt ∧ a0.toInt ≤ 487)) ∨ (501 ≤ a0.toInt ∧ a0.toInt ≤ 516) ∨ a0.toInt = 520)) ∨ (q_z.toInt = 0 ∧ ¬ ((0 ≤ a0.toInt ∧ a0.toInt ≤ 63) ∨ (100 ≤ a0.toInt ∧ a0.toInt ≤ 115) ∨ (216 ≤ a0.toInt ∧ a0.toInt ≤ 343) ∨ ((400 ≤ a0.toInt ∧ a0.toInt ≤ 431) ∨ (440 ≤ a0.toInt ∧ a0.toInt ≤ 455) ∨ (460 ≤ a0.toInt ∧ a0.toInt ≤ 468) ∨ (480 ≤ a0.toInt ∧ a0.toInt ≤ 487)) ∨ (501 ≤ a0.toInt ∧ a0.toInt ≤ 516) ∨ a0.toInt = 520)); omega)
          · rw [i_lt] at c_121
            have k_135 : (460 : Int32).toInt = 460 := by decide
            refine So.ite (fun c_136 => ?_) (fun c_136 => ?_)
            · rw [i_le] at c_136
              have k_137 : (468 : Int32).toInt = 468 := by decide
              unfold Mod_isDescriptor_j56
              have k_138 : (1 : Int32).toInt = 1 := by decide
              refine So.imp (t_Mod_isDescriptor_j61 (by show ((1 : Int32).toInt = 0 ∧ ¬ ((400 ≤ a0.toInt ∧ a0.toInt ≤ 431) ∨ (440 ≤ a0.toInt ∧ a0.toInt ≤ 455) ∨ (460 ≤ a0.toInt ∧ a0.toInt ≤ 468) ∨ (480 ≤ a0.toInt ∧ a0.toInt ≤ 487))) ∨ ((1 : Int32).toInt = 1 ∧ ((400 ≤ a0.toInt ∧ a0.toInt ≤ 431) ∨ (440 ≤ a0.toInt ∧ a0.toInt ≤ 455) ∨ (460 ≤ a0.toInt ∧ a0.toInt ≤ 468) ∨ (480 ≤ a0.toInt ∧ a0.toInt ≤ 487))); omega)) fun q_z h_z => ?_
              have p_139 := h_z
              exact (by show (q_z.toInt = 1 ∧ ((0 ≤ a0.toInt ∧ a0.toInt ≤ 63) ∨ (100 ≤ a0.toInt ∧ a0.toInt ≤ 115) ∨ (216 ≤ a0.toInt ∧ a0.toInt ≤ 343) ∨ ((400 ≤ a0.toInt ∧ a0.toInt ≤ 431) ∨ (440 ≤ a0.toInt ∧ a0.toInt ≤ 455) ∨ (460 ≤ a0.toInt ∧ a0.toInt ≤ 468) ∨ (480 ≤ a0.toInt ∧ a0.toInt ≤ 487)) ∨ (501 ≤ a0.toInt ∧ a0.toInt ≤ 516) ∨ a0.toInt = 520)) ∨ (q_z.toInt = 0 ∧ ¬ ((0 ≤ a0.toInt ∧ a0.toInt ≤ 63) ∨ (100 ≤ a0.toInt ∧ a0.toInt ≤ 115) ∨ (216 ≤ a0.toInt ∧ a0.toInt ≤ 343) ∨ ((400 ≤ a0.toInt ∧ a0.toInt ≤ 431) ∨ (440 ≤ a0.toInt ∧ a0.toInt ≤ 455) ∨ (460 ≤ a0.toInt ∧ a0.toInt ≤ 468) ∨ (480 ≤ a0.toInt ∧ a0.toInt ≤ 487)) ∨ (501 ≤ a0.toInt ∧ a0.toInt ≤ 516) ∨ a0.toInt = 520)); omega)
            · rw [i_le] at c_136
              have k_140 : (468 : Int32).toInt = 468 := by decide
              unfold Mod_isDescriptor_j42
              refine So.ite (fun c_141 => ?_) (fun c_141 => ?_)
              · rw [i_lt] at c_141
                have k_142 : (480 : Int32).toInt = 480 := by decide
                unfold Mod_isDescriptor_j60
                have k_143 : (0 : Int32).toInt = 0 := by decide
                refine So.imp (t_Mod_isDescriptor_j61 (by show ((0 : Int32).toInt = 0 ∧ ¬ ((400 ≤ a0.toInt ∧ a0.toInt ≤ 431) ∨ (440 ≤ a0.toInt ∧ a0.toInt ≤ 455) ∨ (460 ≤ a0.toInt ∧ a0.toInt ≤ 468) ∨ (480 ≤ a0.toInt ∧ a0.toInt ≤ 487))) ∨ ((0 : Int32).toInt = 1 ∧ ((400 ≤ a0.toInt ∧ a0.toInt ≤ 431) ∨ (440 ≤ a0.toInt ∧ a0.toInt ≤ 455) ∨ (460 ≤ a0.toInt ∧ a0.toInt ≤ 468) ∨ (480 ≤ a0.toInt ∧ a0.toInt ≤ 487))); omega)) fun q_z h_z => ?_
                have p_144 := h_z
                exact (by show (q_z.toInt = 1 ∧ ((0 ≤ a0.toInt ∧ a0.toInt ≤ 63) ∨ (100 ≤ a0.toInt ∧ a0.toInt ≤ 115) ∨ (216 ≤ a0.toInt ∧ a0.toInt ≤ 343) ∨ ((400 ≤ a0.toInt ∧ a0.toInt ≤ 431) ∨ (440 ≤ a0.toInt ∧ a0.toInt ≤ 455) ∨ (460 ≤ a0.toInt ∧ a0.toInt ≤ 468) ∨ (480 ≤ a0.toInt ∧ a0.toInt ≤ 487)) ∨ (501 ≤ a0.toInt ∧ a0.toInt ≤ 516) ∨ a0.toInt = 520)) ∨ (q_z.toInt = 0 ∧ ¬ ((0 ≤ a0.toInt ∧ a0.toInt ≤ 63) ∨ (100 ≤ a0.toInt ∧ a0.toInt ≤ 115) ∨ (216 ≤ a0.toInt ∧ a0.toInt ≤ 343) ∨ ((400 ≤ a0.toInt ∧ a0.toInt ≤ 431) ∨ (440 ≤ a0.toInt ∧ a0.toInt ≤ 455) ∨ (460 ≤ a0.toInt ∧ a0.toInt ≤ 468) ∨ (480 ≤ a0.toInt ∧ a0.toInt ≤ 487)) ∨ (501 ≤ a0.toInt ∧ a0.toInt ≤ 516) ∨ a0.toInt = 520)); omega)
              · rw [i_lt] at c_141
                have k_145 : (480 : Int32).toInt = 480 := by decide
                refine So.ite (fun c_146 => ?_) (fun c_146 => ?_)
                · rw [i_lt] at c_146
                  have k_147 : (487 : Int32).toInt = 487 := by decide
                  unfold Mod_isDescriptor_j60
                  have k_148 : (0 : Int32).toInt = 0 := by decide
                  refine So.imp (t_Mod_isDescriptor_j61 (by show ((0 : Int32).toInt = 0 ∧ ¬ ((400 ≤ a0.toInt ∧ a0.toInt ≤ 431) ∨ (440 ≤ a0.toInt ∧ a0.toInt ≤ 455) ∨ (460 ≤ a0.toInt ∧ a0.toInt ≤ 468) ∨ (480 ≤ a0.toInt ∧ a0.toInt ≤ 487))) ∨ ((0 : Int32).toInt = 1 ∧ ((400 ≤ a0.toInt ∧ a0.toInt ≤ 431) ∨ (440 ≤ a0.toInt ∧ a0.toInt ≤ 455) ∨ (460 ≤ a0.toInt ∧ a0.toInt ≤ 468) ∨ (480 ≤ a0.toInt ∧ a0.toInt ≤ 487))); omega)) fun q_z h_z => ?_
                  have p_149 := h_z
                  exact (by show (q_z.toInt = 1 ∧ ((0 ≤ a0.toInt ∧ a0.toInt ≤ 63) ∨ (100 ≤ a0.toInt ∧ a0.toInt ≤ 115) ∨ (216 ≤ a0.toInt ∧ a0.toInt ≤ 343) ∨ ((400 ≤ a0.toInt ∧ a0.toInt ≤ 431) ∨ (440 ≤ a0.toInt ∧ a0.toInt ≤ 455) ∨ (460 ≤ a0.toInt ∧ a0.toInt ≤ 468) ∨ (480 ≤ a0.toInt ∧ a0.toInt ≤ 487)) ∨ (501 ≤ a0.toInt ∧ a0.toInt ≤ 516) ∨ a0.toInt = 520)) ∨ (q_z.toInt = 0 ∧ ¬ ((0 ≤ a0.toInt ∧ a0.toInt ≤ 63) ∨ (100 ≤ a0.toInt ∧ a0.toInt ≤ 115) ∨ (216 ≤ a0.toInt ∧ a0.toInt ≤ 343) ∨ ((400 ≤ a0.toInt ∧ a0.toInt ≤ 431) ∨ (440 ≤ a0.toInt ∧ a0.toInt ≤ 455) ∨ (460 ≤ a0.toInt ∧ a0.toInt ≤ 468) ∨ (480 ≤ a0.toInt ∧ a0.toInt ≤ 487)) ∨ (501 ≤ a0.toInt ∧ a0.toInt ≤ 516) ∨ a0.toInt = 520)); omega)
                · rw [i_lt] at c_146
                  have k_150 : (487 : Int32).toInt = 487 := by decide
                  unfold Mod_isDescriptor_j56
                  have k_151 : (1 : Int32).toInt = 1 := by decide
                  refine So.imp (t_Mod_isDescriptor_j61 (by show ((1 : Int32).toInt = 0 ∧ ¬ ((400 ≤ a0.toInt ∧ a0.toInt ≤ 431) ∨ (440 ≤ a0.toInt ∧ a0.toInt ≤ 455) ∨ (460 ≤ a0.toInt ∧ a0.toInt ≤ 468) ∨ (480 ≤ a0.toInt ∧ a0.toInt ≤ 487))) ∨ ((1 : Int32).toInt = 1 ∧ ((400 ≤ a0.toInt ∧ a0.toInt ≤ 431) ∨ (440 ≤ a0.toInt ∧ a0.toInt ≤ 455) ∨ (460 ≤ a0.toInt ∧ a0.toInt ≤ 468) ∨ (480 ≤ a0.toInt ∧ a0.toInt ≤ 487))); omega)) fun q_z h_z => ?_
                  have p_152 := h_z
                  exact (by show (q_z.toInt = 1 ∧ ((0 ≤ a0.toInt ∧ a0.toInt ≤ 63) ∨ (100 ≤ a0.toInt ∧ a0.toInt ≤ 115) ∨ (216 ≤ a0.toInt ∧ a0.toInt ≤ 343) ∨ ((400 ≤ a0.toInt ∧ a0.toInt ≤ 431) ∨ (440 ≤ a0.toInt ∧ a0.toInt ≤ 455) ∨ (460 ≤ a0.toInt ∧ a0.toInt ≤ 468) ∨ (480 ≤ a0.toInt ∧ a0.toInt ≤ 487)) ∨ (501 ≤ a0.toInt ∧ a0.toInt ≤ 516) ∨ a0.toInt = 520)) ∨ (q_z.toInt = 0 ∧ ¬ ((0 ≤ a0.toInt ∧ a0.toInt ≤ 63) ∨ (100 ≤ a0.toInt ∧ a0.toInt ≤ 115) ∨ (216 ≤ a0.toInt ∧ a0.toInt ≤ 343) ∨ ((400 ≤ a0.toInt ∧ a0.toInt ≤ 431) ∨ (440 ≤ a0.toInt ∧ a0.toInt ≤ 455) ∨ (460 ≤ a0.toInt ∧ a0.toInt ≤ 468) ∨ (480 ≤ a0.toInt ∧ a0.toInt ≤ 487)) ∨ (501 ≤ a0.toInt ∧ a0.toInt ≤ 516) ∨ a0.toInt = 520)); omega)
theorem t_Mod_operator {a0 : Int32}  : So (Mod_operator a0) (fun r => ((r.toInt = -1 ∧ ¬ (400 ≤ a0.toInt ∧ a0.toInt ≤ 487)) ∨ (0 ≤ r.toInt ∧ r.toInt ≤ 3 ∧ 400 ≤ a0.toInt ∧ a0.toInt ≤ 487 ∧ (r.toInt < 2 ∨ 460 ≤ a0.toInt)))) := by
  unfold Mod_operator
  refine So.ite (fun c_1 => ?_) (fun c_1 => ?_)
  · rw [i_lt] at c_1
    have k_2 : (400 : Int32).toInt = 400 := by decide
    have k_3 : ((-1) : Int32).toInt = -1 := by decide
    exact So.one (by show (((-1) : Int32).toInt = -1 ∧ ¬ (400 ≤ a0.toInt ∧ a0.toInt ≤ 487)) ∨ (0 ≤ ((-1) : Int32).toInt ∧ ((-1) : Int32).toInt ≤ 3 ∧ 400 ≤ a0.toInt ∧ a0.toInt ≤ 487 ∧ (((-1) : Int32).toInt < 2 ∨ 460 ≤ a0.toInt)); omega)
  · rw [i_lt] at c_1
    have k_4 : (400 : Int32).toInt = 400 := by decide
    refine So.ite (fun c_5 => ?_) (fun c_5 => ?_)
    · rw [i_le] at c_5
      have k_6 : (487 : Int32).toInt = 487 := by decide
      refine So.ite (fun c_7 => ?_) (fun c_7 => ?_)
      · rw [i_le] at c_7
        have k_8 : (440 : Int32).toInt = 440 := by decide
        refine So.ite (fun c_9 => ?_) (fun c_9 => ?_)
        · rw [i_le] at c_9
          have k_10 : (460 : Int32).toInt = 460 := by decide
          refine So.ite (fun c_11 => ?_) (fun c_11 => ?_)
          · rw [i_le] at c_11
            have k_12 : (480 : Int32).toInt = 480 := by decide
            have k_13 : (3 : Int32).toInt = 3 := by decide
            exact So.one (by show ((3 : Int32).toInt = -1 ∧ ¬ (400 ≤ a0.toInt ∧ a0.toInt ≤ 487)) ∨ (0 ≤ (3 : Int32).toInt ∧ (3 : Int32).toInt ≤ 3 ∧ 400 ≤ a0.toInt ∧ a0.toInt ≤ 487 ∧ ((3 : Int32).toInt < 2 ∨ 460 ≤ a0.toInt)); omega)
          · rw [i_le] at c_11
            have k_14 : (480 : Int32).toInt = 480 := by decide
            have k_15 : (2 : Int32).toInt = 2 := by decide
            exact So.one (by show ((2 : Int32).toInt = -1 ∧ ¬ (400 ≤ a0.toInt ∧ a0.toInt ≤ 487)) ∨ (0 ≤ (2 : Int32).toInt ∧ (2 : Int32).toInt ≤ 3 ∧ 400 ≤ a0.toInt ∧ a0.toInt ≤ 487 ∧ ((2 : Int32).toInt < 2 ∨ 460 ≤ a0.toInt)); omega)
        · rw [i_le] at c_9
          have k_16 : (460 : Int32).toInt = 460 := by decide
          have k_17 : (1 : Int32).toInt = 1 := by decide
          exact So.one (by show ((1 : Int32).toInt = -1 ∧ ¬ (400 ≤ a0.toInt ∧ a0.toInt ≤ 487)) ∨ (0 ≤ (1 : Int32).toInt ∧ (1 : Int32).toInt ≤ 3 ∧ 400 ≤ a0.toInt ∧ a0.toInt ≤ 487 ∧ ((1 : Int32).toInt < 2 ∨ 460 ≤ a0.toInt)); omega)
      · rw [i_le] at c_7
        have k_18 : (440 : Int32).toInt = 440 := by decide
        have k_19 : (0 : Int32).toInt = 0 := by decide
        exact So.one (by show ((0 : Int32).toInt = -1 ∧ ¬ (400 ≤ a0.toInt ∧ a0.toInt ≤ 487)) ∨ (0 ≤ (0 : Int32).toInt ∧ (0 : Int32).toInt ≤ 3 ∧ 400 ≤ a0.toInt ∧ a0.toInt ≤ 487 ∧ ((0 : Int32).toInt < 2 ∨ 460 ≤ a0.toInt)); omega)
    · rw [i_le] at c_5
      have k_20 : (487 : Int32).toInt = 487 := by decide
      have k_21 : ((-1) : Int32).toInt = -1 := by decide
      exact So.one (by show (((-1) : Int32).toInt = -1 ∧ ¬ (400 ≤ a0.toInt ∧ a0.toInt ≤ 487)) ∨ (0 ≤ ((-1) : Int32).toInt ∧ ((-1) : Int32).toInt ≤ 3 ∧ 400 ≤ a0.toInt ∧ a0.toInt ≤ 487 ∧ (((-1) : Int32).toInt < 2 ∨ 460 ≤ a0.toInt)); omega)
theorem t_Mod_append {a0 : Int32} {a1 : Int32} {sMo : S_Mo} {sMlists : (Nat → Int32)} {sMlengths : (Nat → Int32)} (I_sMo : I_Mo sMo) (I_sMlists : A_Mlists sMlists) (I_sMlengths : A_Mlengths sMlengths) : So (Mod_append a0 a1 sMo sMlists sMlengths) (fun r => I_Mo r.2.1 ∧ A_Mlists r.2.2.1 ∧ A_Mlengths r.2.2.2 ∧ (0 ≤ (Mo_thrown r.2.1).toInt) ∧ ((Mo_thrown r.2.1).toInt ≤ 2) ∧ ((Mo_used r.2.1).toInt = (Mo_used sMo).toInt) ∧ ((Mo_taped r.2.1).toInt = (Mo_taped sMo).toInt) ∧ ((Mo_madeMany r.2.1).toInt = (Mo_madeMany sMo).toInt) ∧ ((Mo_madeKind r.2.1).toInt = (Mo_madeKind sMo).toInt) ∧ ((Mo_madeSubsets r.2.1).toInt = (Mo_madeSubsets sMo).toInt) ∧ ((Mo_written r.2.1).toInt = (Mo_written sMo).toInt)) := by
  unfold Mod_append
  refine So.ite (fun c_1 => ?_) (fun c_1 => ?_)
  · rw [i_lt] at c_1
    have k_2 : ((-1) : Int32).toInt = -1 := by decide
    unfold Mod_append_j19
    unfold Mod_append_j24
    refine So.lt2 fun sMo_5 e_3 => ?_
    have I_4 : I_Mo sMo_5 := by rw [e_3]; exact (I_Mo_set_thrown I_sMo)
    have k_5 : (1 : Int32).toInt = 1 := by decide
    have f_6 : (Mo_thrown sMo_5).toInt = (1 : Int32).toInt := by subst e_3; rfl
    have f_7 : (Mo_used sMo_5).toInt = (Mo_used sMo).toInt := by subst e_3; rfl
    have f_8 : (Mo_madeMany sMo_5).toInt = (Mo_madeMany sMo).toInt := by subst e_3; rfl
    have f_9 : (Mo_madeKind sMo_5).toInt = (Mo_madeKind sMo).toInt := by subst e_3; rfl
    have f_10 : (Mo_madeSubsets sMo_5).toInt = (Mo_madeSubsets sMo).toInt := by subst e_3; rfl
    have f_11 : (Mo_written sMo_5).toInt = (Mo_written sMo).toInt := by subst e_3; rfl
    have f_12 : (Mo_taped sMo_5).toInt = (Mo_taped sMo).toInt := by subst e_3; rfl
    refine So.ite (fun c_13 => ?_) (fun c_13 => ?_)
    · rw [i_le] at c_13
      have k_14 : (0 : Int32).toInt = 0 := by decide
      unfold Mod_append_j37
      refine So.ite (fun c_15 => ?_) (fun c_15 => ?_)
      · rw [i_eq] at c_15
        refine So.gd (i_in.mpr (by omega)) ?_
        refine So.ite (fun c_16 => ?_) (fun c_16 => ?_)
        · rw [i_le] at c_16
          unfold Mod_append_j62
          refine So.ite (fun c_17 => ?_) (fun c_17 => ?_)
          · rw [i_eq] at c_17
            have f_18 := A_Mlengths_at I_sMlengths (a0.toNatClampNeg)
            have f_19 := i_natm a0
            have k_20 : (8 : Int32).toInt = 8 := by decide
            refine So.lt2 fun sMo_10 e_21 => ?_
            have I_22 : I_Mo sMo_10 := by rw [e_21]; exact (I_Mo_set_thrown I_4)
            have k_23 : (2 : Int32).toInt = 2 := by decide
            have f_24 : (Mo_thrown sMo_10).toInt = (2 : Int32).toInt := by subst e_21; rfl
            have f_25 : (Mo_used sMo_10).toInt = (Mo_used sMo_5).toInt := by subst e_21; rfl
            have f_26 : (Mo_madeMany sMo_10).toInt = (Mo_madeMany sMo_5).toInt := by subst e_21; rfl
            have f_27 : (Mo_madeKind sMo_10).toInt = (Mo_madeKind sMo_5).toInt := by subst e_21; rfl
            have f_28 : (Mo_madeSubsets sMo_10).toInt = (Mo_madeSubsets sMo_5).toInt := by subst e_21; rfl
            have f_29 : (Mo_written sMo_10).toInt = (Mo_written sMo_5).toInt := by subst e_21; rfl
            have f_30 : (Mo_taped sMo_10).toInt = (Mo_taped sMo_5).toInt := by subst e_21; rfl
            unfold Mod_append_j70
            refine So.ite (fun c_31 => ?_) (fun c_31 => ?_)
            · rw [i_le] at c_31
              refine So.gd (i_in.mpr (by omega)) ?_
              have k_32 : (24 : Int32).toInt = 24 := by decide
              first | have f_33 := i_mull 24 a0 (24) (by decide) (by omega) (by omega) | have f_33 := i_mullm 24 a0 (24) (by decide)
              first | have f_34 := i_add (a := (24 * a0)) (b := (sMlengths (a0.toNatClampNeg))) (by omega) (by omega) | have f_34 := i_addm (24 * a0) (sMlengths (a0.toNatClampNeg))
              refine So.gd (i_in.mpr (by omega)) ?_
              refine So.lt2 fun sMlists_14 e_35 => ?_
              have f_36 := i_natm ((24 * a0) + (sMlengths (a0.toNatClampNeg)))
              have I_37 : A_Mlists sMlists_14 := by rw [e_35]; exact (A_Mlists_upd I_sMlists (by show (0 ≤ (a1 : Int32).toInt ∧ (a1 : Int32).toInt ≤ 63) ∨ (100 ≤ (a1 : Int32).toInt ∧ (a1 : Int32).toInt ≤ 115) ∨ (216 ≤ (a1 : Int32).toInt ∧ (a1 : Int32).toInt ≤ 343) ∨ (400 ≤ (a1 : Int32).toInt ∧ (a1 : Int32).toInt ≤ 487) ∨ (501 ≤ (a1 : Int32).toInt ∧ (a1 : Int32).toInt ≤ 516) ∨ (a1 : Int32).toInt = 520; omega))
              refine So.gd (i_in.mpr (by omega)) ?_
              refine So.gd (i_in.mpr (by omega)) ?_
              refine So.lt2 fun sMlengths_17 e_38 => ?_
              first | have f_39 := i_add (a := (sMlengths (a0.toNatClampNeg))) (b := 1) (by omega) (by omega) | have f_39 := i_addm (sMlengths (a0.toNatClampNeg)) 1
              have I_40 : A_Mlengths sMlengths_17 := by rw [e_38]; exact (A_Mlengths_upd I_sMlengths (by show 0 ≤ (((sMlengths (a0.toNatClampNeg)) + 1) : Int32).toInt ∧ (((sMlengths (a0.toNatClampNeg)) + 1) : Int32).toInt ≤ 24 ∧ ((a0.toNatClampNeg) < 16 → (((sMlengths (a0.toNatClampNeg)) + 1) : Int32).toInt ≤ 8); omega))
              refine So.gd (i_in.mpr (by omega)) ?_
              exact So.one ⟨I_22, I_37, I_40, (by show 0 ≤ (Mo_thrown sMo_10).toInt; omega), (by show (Mo_thrown sMo_10).toInt ≤ 2; omega), (by show (Mo_used sMo_10).toInt = (Mo_used sMo).toInt; omega), (by show (Mo_taped sMo_10).toInt = (Mo_taped sMo).toInt; omega), (by show (Mo_madeMany sMo_10).toInt = (Mo_madeMany sMo).toInt; omega), (by show (Mo_madeKind sMo_10).toInt = (Mo_madeKind sMo).toInt; omega), (by show (Mo_madeSubsets sMo_10).toInt = (Mo_madeSubsets sMo).toInt; omega), (by show (Mo_written sMo_10).toInt = (Mo_written sMo).toInt; omega)⟩
            · rw [i_le] at c_31
              exact So.one ⟨I_22, I_sMlists, I_sMlengths, (by show 0 ≤ (Mo_thrown sMo_10).toInt; omega), (by show (Mo_thrown sMo_10).toInt ≤ 2; omega), (by show (Mo_used sMo_10).toInt = (Mo_used sMo).toInt; omega), (by show (Mo_taped sMo_10).toInt = (Mo_taped sMo).toInt; omega), (by show (Mo_madeMany sMo_10).toInt = (Mo_madeMany sMo).toInt; omega), (by show (Mo_madeKind sMo_10).toInt = (Mo_madeKind sMo).toInt; omega), (by show (Mo_madeSubsets sMo_10).toInt = (Mo_madeSubsets sMo).toInt; omega), (by show (Mo_written sMo_10).toInt = (Mo_written sMo).toInt; omega)⟩
          · rw [i_eq] at c_17
            have f_41 := A_Mlengths_at I_sMlengths (a0.toNatClampNeg)
            have f_42 := i_natm a0
            have k_43 : (8 : Int32).toInt = 8 := by decide
            unfold Mod_append_j70
            refine So.ite (fun c_44 => ?_) (fun c_44 => ?_)
            · rw [i_le] at c_44
              refine So.gd (i_in.mpr (by omega)) ?_
              have k_45 : (24 : Int32).toInt = 24 := by decide
              first | have f_46 := i_mull 24 a0 (24) (by decide) (by omega) (by omega) | have f_46 := i_mullm 24 a0 (24) (by decide)
              first | have f_47 := i_add (a := (24 * a0)) (b := (sMlengths (a0.toNatClampNeg))) (by omega) (by omega) | have f_47 := i_addm (24 * a0) (sMlengths (a0.toNatClampNeg))
              refine So.gd (i_in.mpr (by omega)) ?_
              refine So.lt2 fun sMlists_14 e_48 => ?_
              have f_49 := i_natm ((24 * a0) + (sMlengths (a0.toNatClampNeg)))
              have I_50 : A_Mlists sMlists_14 := by rw [e_48]; exact (A_Mlists_upd I_sMlists (by show (0 ≤ (a1 : Int32).toInt ∧ (a1 : Int32).toInt ≤ 63) ∨ (100 ≤ (a1 : Int32).toInt ∧ (a1 : Int32).toInt ≤ 115) ∨ (216 ≤ (a1 : Int32).toInt ∧ (a1 : Int32).toInt ≤ 343) ∨ (400 ≤ (a1 : Int32).toInt ∧ (a1 : Int32).toInt ≤ 487) ∨ (501 ≤ (a1 : Int32).toInt ∧ (a1 : Int32).toInt ≤ 516) ∨ (a1 : Int32).toInt = 520; omega))
              refine So.gd (i_in.mpr (by omega)) ?_
              refine So.gd (i_in.mpr (by omega)) ?_
              refine So.lt2 fun sMlengths_17 e_51 => ?_
              first | have f_52 := i_add (a := (sMlengths (a0.toNatClampNeg))) (b := 1) (by omega) (by omega) | have f_52 := i_addm (sMlengths (a0.toNatClampNeg)) 1
              have I_53 : A_Mlengths sMlengths_17 := by rw [e_51]; exact (A_Mlengths_upd I_sMlengths (by show 0 ≤ (((sMlengths (a0.toNatClampNeg)) + 1) : Int32).toInt ∧ (((sMlengths (a0.toNatClampNeg)) + 1) : Int32).toInt ≤ 24 ∧ ((a0.toNatClampNeg) < 16 → (((sMlengths (a0.toNatClampNeg)) + 1) : Int32).toInt ≤ 8); omega))
              refine So.gd (i_in.mpr (by omega)) ?_
              exact So.one ⟨I_4, I_50, I_53, (by show 0 ≤ (Mo_thrown sMo_5).toInt; omega), (by show (Mo_thrown sMo_5).toInt ≤ 2; omega), (by show (Mo_used sMo_5).toInt = (Mo_used sMo).toInt; omega), (by show (Mo_taped sMo_5).toInt = (Mo_taped sMo).toInt; omega), (by show (Mo_madeMany sMo_5).toInt = (Mo_madeMany sMo).toInt; omega), (by show (Mo_madeKind sMo_5).toInt = (Mo_madeKind sMo).toInt; omega), (by show (Mo_madeSubsets sMo_5).toInt = (Mo_madeSubsets sMo).toInt; omega), (by show (Mo_written sMo_5).toInt = (Mo_written sMo).toInt; omega)⟩
            · rw [i_le] at c_44
              exact So.one ⟨I_4, I_sMlists, I_sMlengths, (by show 0 ≤ (Mo_thrown sMo_5).toInt; omega), (by show (Mo_thrown sMo_5).toInt ≤ 2; omega), (by show (Mo_used sMo_5).toInt = (Mo_used sMo).toInt; omega), (by show (Mo_taped sMo_5).toInt = (Mo_taped sMo).toInt; omega), (by show (Mo_madeMany sMo_5).toInt = (Mo_madeMany sMo).toInt; omega), (by show (Mo_madeKind sMo_5).toInt = (Mo_madeKind sMo).toInt; omega), (by show (Mo_madeSubsets sMo_5).toInt = (Mo_madeSubsets sMo).toInt; omega), (by show (Mo_written sMo_5).toInt = (Mo_written sMo).toInt; omega)⟩
        · rw [i_le] at c_16
          unfold Mod_append_j62
          refine So.ite (fun c_54 => ?_) (fun c_54 => ?_)
          · rw [i_eq] at c_54
            have f_55 := A_Mlengths_at I_sMlengths (a0.toNatClampNeg)
            have f_56 := i_natm a0
            have k_57 : (24 : Int32).toInt = 24 := by decide
            refine So.lt2 fun sMo_10 e_58 => ?_
            have I_59 : I_Mo sMo_10 := by rw [e_58]; exact (I_Mo_set_thrown I_4)
            have k_60 : (2 : Int32).toInt = 2 := by decide
            have f_61 : (Mo_thrown sMo_10).toInt = (2 : Int32).toInt := by subst e_58; rfl
            have f_62 : (Mo_used sMo_10).toInt = (Mo_used sMo_5).toInt := by subst e_58; rfl
            have f_63 : (Mo_madeMany sMo_10).toInt = (Mo_madeMany sMo_5).toInt := by subst e_58; rfl
            have f_64 : (Mo_madeKind sMo_10).toInt = (Mo_madeKind sMo_5).toInt := by subst e_58; rfl
            have f_65 : (Mo_madeSubsets sMo_10).toInt = (Mo_madeSubsets sMo_5).toInt := by subst e_58; rfl
            have f_66 : (Mo_written sMo_10).toInt = (Mo_written sMo_5).toInt := by subst e_58; rfl
            have f_67 : (Mo_taped sMo_10).toInt = (Mo_taped sMo_5).toInt := by subst e_58; rfl
            unfold Mod_append_j70
            refine So.ite (fun c_68 => ?_) (fun c_68 => ?_)
            · rw [i_le] at c_68
              refine So.gd (i_in.mpr (by omega)) ?_
              first | have f_69 := i_mull 24 a0 (24) (by decide) (by omega) (by omega) | have f_69 := i_mullm 24 a0 (24) (by decide)
              first | have f_70 := i_add (a := (24 * a0)) (b := (sMlengths (a0.toNatClampNeg))) (by omega) (by omega) | have f_70 := i_addm (24 * a0) (sMlengths (a0.toNatClampNeg))
              refine So.gd (i_in.mpr (by omega)) ?_
              refine So.lt2 fun sMlists_14 e_71 => ?_
              have f_72 := i_natm ((24 * a0) + (sMlengths (a0.toNatClampNeg)))
              have I_73 : A_Mlists sMlists_14 := by rw [e_71]; exact (A_Mlists_upd I_sMlists (by show (0 ≤ (a1 : Int32).toInt ∧ (a1 : Int32).toInt ≤ 63) ∨ (100 ≤ (a1 : Int32).toInt ∧ (a1 : Int32).toInt ≤ 115) ∨ (216 ≤ (a1 : Int32).toInt ∧ (a1 : Int32).toInt ≤ 343) ∨ (400 ≤ (a1 : Int32).toInt ∧ (a1 : Int32).toInt ≤ 487) ∨ (501 ≤ (a1 : Int32).toInt ∧ (a1 : Int32).toInt ≤ 516) ∨ (a1 : Int32).toInt = 520; omega))
              refine So.gd (i_in.mpr (by omega)) ?_
              refine So.gd (i_in.mpr (by omega)) ?_
              refine So.lt2 fun sMlengths_17 e_74 => ?_
              first | have f_75 := i_add (a := (sMlengths (a0.toNatClampNeg))) (b := 1) (by omega) (by omega) | have f_75 := i_addm (sMlengths (a0.toNatClampNeg)) 1
              have I_76 : A_Mlengths sMlengths_17 := by rw [e_74]; exact (A_Mlengths_upd I_sMlengths (by show 0 ≤ (((sMlengths (a0.toNatClampNeg)) + 1) : Int32).toInt ∧ (((sMlengths (a0.toNatClampNeg)) + 1) : Int32).toInt ≤ 24 ∧ ((a0.toNatClampNeg) < 16 → (((sMlengths (a0.toNatClampNeg)) + 1) : Int32).toInt ≤ 8); omega))
              refine So.gd (i_in.mpr (by omega)) ?_
              exact So.one ⟨I_59, I_73, I_76, (by show 0 ≤ (Mo_thrown sMo_10).toInt; omega), (by show (Mo_thrown sMo_10).toInt ≤ 2; omega), (by show (Mo_used sMo_10).toInt = (Mo_used sMo).toInt; omega), (by show (Mo_taped sMo_10).toInt = (Mo_taped sMo).toInt; omega), (by show (Mo_madeMany sMo_10).toInt = (Mo_madeMany sMo).toInt; omega), (by show (Mo_madeKind sMo_10).toInt = (Mo_madeKind sMo).toInt; omega), (by show (Mo_madeSubsets sMo_10).toInt = (Mo_madeSubsets sMo).toInt; omega), (by show (Mo_written sMo_10).toInt = (Mo_written sMo).toInt; omega)⟩
            · rw [i_le] at c_68
              exact So.one ⟨I_59, I_sMlists, I_sMlengths, (by show 0 ≤ (Mo_thrown sMo_10).toInt; omega), (by show (Mo_thrown sMo_10).toInt ≤ 2; omega), (by show (Mo_used sMo_10).toInt = (Mo_used sMo).toInt; omega), (by show (Mo_taped sMo_10).toInt = (Mo_taped sMo).toInt; omega), (by show (Mo_madeMany sMo_10).toInt = (Mo_madeMany sMo).toInt; omega), (by show (Mo_madeKind sMo_10).toInt = (Mo_madeKind sMo).toInt; omega), (by show (Mo_madeSubsets sMo_10).toInt = (Mo_madeSubsets sMo).toInt; omega), (by show (Mo_written sMo_10).toInt = (Mo_written sMo).toInt; omega)⟩
          · rw [i_eq] at c_54
            have f_77 := A_Mlengths_at I_sMlengths (a0.toNatClampNeg)
            have f_78 := i_natm a0
            have k_79 : (24 : Int32).toInt = 24 := by decide
            unfold Mod_append_j70
            refine So.ite (fun c_80 => ?_) (fun c_80 => ?_)
            · rw [i_le] at c_80
              refine So.gd (i_in.mpr (by omega)) ?_
              first | have f_81 := i_mull 24 a0 (24) (by decide) (by omega) (by omega) | have f_81 := i_mullm 24 a0 (24) (by decide)
              first | have f_82 := i_add (a := (24 * a0)) (b := (sMlengths (a0.toNatClampNeg))) (by omega) (by omega) | have f_82 := i_addm (24 * a0) (sMlengths (a0.toNatClampNeg))
              refine So.gd (i_in.mpr (by omega)) ?_
              refine So.lt2 fun sMlists_14 e_83 => ?_
              have f_84 := i_natm ((24 * a0) + (sMlengths (a0.toNatClampNeg)))
              have I_85 : A_Mlists sMlists_14 := by rw [e_83]; exact (A_Mlists_upd I_sMlists (by show (0 ≤ (a1 : Int32).toInt ∧ (a1 : Int32).toInt ≤ 63) ∨ (100 ≤ (a1 : Int32).toInt ∧ (a1 : Int32).toInt ≤ 115) ∨ (216 ≤ (a1 : Int32).toInt ∧ (a1 : Int32).toInt ≤ 343) ∨ (400 ≤ (a1 : Int32).toInt ∧ (a1 : Int32).toInt ≤ 487) ∨ (501 ≤ (a1 : Int32).toInt ∧ (a1 : Int32).toInt ≤ 516) ∨ (a1 : Int32).toInt = 520; omega))
              refine So.gd (i_in.mpr (by omega)) ?_
              refine So.gd (i_in.mpr (by omega)) ?_
              refine So.lt2 fun sMlengths_17 e_86 => ?_
              first | have f_87 := i_add (a := (sMlengths (a0.toNatClampNeg))) (b := 1) (by omega) (by omega) | have f_87 := i_addm (sMlengths (a0.toNatClampNeg)) 1
              have I_88 : A_Mlengths sMlengths_17 := by rw [e_86]; exact (A_Mlengths_upd I_sMlengths (by show 0 ≤ (((sMlengths (a0.toNatClampNeg)) + 1) : Int32).toInt ∧ (((sMlengths (a0.toNatClampNeg)) + 1) : Int32).toInt ≤ 24 ∧ ((a0.toNatClampNeg) < 16 → (((sMlengths (a0.toNatClampNeg)) + 1) : Int32).toInt ≤ 8); omega))
              refine So.gd (i_in.mpr (by omega)) ?_
              exact So.one ⟨I_4, I_85, I_88, (by show 0 ≤ (Mo_thrown sMo_5).toInt; omega), (by show (Mo_thrown sMo_5).toInt ≤ 2; omega), (by show (Mo_used sMo_5).toInt = (Mo_used sMo).toInt; omega), (by show (Mo_taped sMo_5).toInt = (Mo_taped sMo).toInt; omega), (by show (Mo_madeMany sMo_5).toInt = (Mo_madeMany sMo).toInt; omega), (by show (Mo_madeKind sMo_5).toInt = (Mo_madeKind sMo).toInt; omega), (by show (Mo_madeSubsets sMo_5).toInt = (Mo_madeSubsets sMo).toInt; omega), (by show (Mo_written sMo_5).toInt = (Mo_written sMo).toInt; omega)⟩
            · rw [i_le] at c_80
              exact So.one ⟨I_4, I_sMlists, I_sMlengths, (by show 0 ≤ (Mo_thrown sMo_5).toInt; omega), (by show (Mo_thrown sMo_5).toInt ≤ 2; omega), (by show (Mo_used sMo_5).toInt = (Mo_used sMo).toInt; omega), (by show (Mo_taped sMo_5).toInt = (Mo_taped sMo).toInt; omega), (by show (Mo_madeMany sMo_5).toInt = (Mo_madeMany sMo).toInt; omega), (by show (Mo_madeKind sMo_5).toInt = (Mo_madeKind sMo).toInt; omega), (by show (Mo_madeSubsets sMo_5).toInt = (Mo_madeSubsets sMo).toInt; omega), (by show (Mo_written sMo_5).toInt = (Mo_written sMo).toInt; omega)⟩
      · rw [i_eq] at c_15
        unfold Mod_append_j70
        refine So.ite (fun c_89 => ?_) (fun c_89 => ?_)
        · rw [i_le] at c_89
          refine So.gd (i_in.mpr (by omega)) ?_
          have k_90 : (24 : Int32).toInt = 24 := by decide
          first | have f_91 := i_mull 24 a0 (24) (by decide) (by omega) (by omega) | have f_91 := i_mullm 24 a0 (24) (by decide)
          have f_92 := A_Mlengths_at I_sMlengths (a0.toNatClampNeg)
          have f_93 := i_natm a0
          first | have f_94 := i_add (a := (24 * a0)) (b := (sMlengths (a0.toNatClampNeg))) (by omega) (by omega) | have f_94 := i_addm (24 * a0) (sMlengths (a0.toNatClampNeg))
          refine So.gd (i_in.mpr (by omega)) ?_
          refine So.lt2 fun sMlists_14 e_95 => ?_
          have f_96 := i_natm ((24 * a0) + (sMlengths (a0.toNatClampNeg)))
          have I_97 : A_Mlists sMlists_14 := by rw [e_95]; exact (A_Mlists_upd I_sMlists (by show (0 ≤ (a1 : Int32).toInt ∧ (a1 : Int32).toInt ≤ 63) ∨ (100 ≤ (a1 : Int32).toInt ∧ (a1 : Int32).toInt ≤ 115) ∨ (216 ≤ (a1 : Int32).toInt ∧ (a1 : Int32).toInt ≤ 343) ∨ (400 ≤ (a1 : Int32).toInt ∧ (a1 : Int32).toInt ≤ 487) ∨ (501 ≤ (a1 : Int32).toInt ∧ (a1 : Int32).toInt ≤ 516) ∨ (a1 : Int32).toInt = 520; omega))
          refine So.gd (i_in.mpr (by omega)) ?_
          refine So.gd (i_in.mpr (by omega)) ?_
          refine So.lt2 fun sMlengths_17 e_98 => ?_
          first | have f_99 := i_add (a := (sMlengths (a0.toNatClampNeg))) (b := 1) (by omega) (by omega) | have f_99 := i_addm (sMlengths (a0.toNatClampNeg)) 1
          have I_100 : A_Mlengths sMlengths_17 := by rw [e_98]; exact (A_Mlengths_upd I_sMlengths (by show 0 ≤ (((sMlengths (a0.toNatClampNeg)) + 1) : Int32).toInt ∧ (((sMlengths (a0.toNatClampNeg)) + 1) : Int32).toInt ≤ 24 ∧ ((a0.toNatClampNeg) < 16 → (((sMlengths (a0.toNatClampNeg)) + 1) : Int32).toInt ≤ 8); omega))
          refine So.gd (i_in.mpr (by omega)) ?_
          exact So.one ⟨I_4, I_97, I_100, (by show 0 ≤ (Mo_thrown sMo_5).toInt; omega), (by show (Mo_thrown sMo_5).toInt ≤ 2; omega), (by show (Mo_used sMo_5).toInt = (Mo_used sMo).toInt; omega), (by show (Mo_taped sMo_5).toInt = (Mo_taped sMo).toInt; omega), (by show (Mo_madeMany sMo_5).toInt = (Mo_madeMany sMo).toInt; omega), (by show (Mo_madeKind sMo_5).toInt = (Mo_madeKind sMo).toInt; omega), (by show (Mo_madeSubsets sMo_5).toInt = (Mo_madeSubsets sMo).toInt; omega), (by show (Mo_written sMo_5).toInt = (Mo_written sMo).toInt; omega)⟩
        · rw [i_le] at c_89
          exact So.one ⟨I_4, I_sMlists, I_sMlengths, (by show 0 ≤ (Mo_thrown sMo_5).toInt; omega), (by show (Mo_thrown sMo_5).toInt ≤ 2; omega), (by show (Mo_used sMo_5).toInt = (Mo_used sMo).toInt; omega), (by show (Mo_taped sMo_5).toInt = (Mo_taped sMo).toInt; omega), (by show (Mo_madeMany sMo_5).toInt = (Mo_madeMany sMo).toInt; omega), (by show (Mo_madeKind sMo_5).toInt = (Mo_madeKind sMo).toInt; omega), (by show (Mo_madeSubsets sMo_5).toInt = (Mo_madeSubsets sMo).toInt; omega), (by show (Mo_written sMo_5).toInt = (Mo_written sMo).toInt; omega)⟩
    · rw [i_le] at c_13
      have k_101 : (0 : Int32).toInt = 0 := by decide
      unfold Mod_append_j37
      refine So.ite (fun c_102 => ?_) (fun c_102 => ?_)
      · rw [i_eq] at c_102
        have k_103 : (16 : Int32).toInt = 16 := by decide
        refine So.gd (i_in.mpr (by omega)) ?_
        refine So.ite (fun c_104 => ?_) (fun c_104 => ?_)
        · rw [i_le] at c_104
          unfold Mod_append_j62
          refine So.ite (fun c_105 => ?_) (fun c_105 => ?_)
          · rw [i_eq] at c_105
            have f_106 := A_Mlengths_at I_sMlengths ((16 : Int32).toNatClampNeg)
            have f_107 := i_natm (16 : Int32)
            have k_108 : (8 : Int32).toInt = 8 := by decide
            refine So.lt2 fun sMo_10 e_109 => ?_
            have I_110 : I_Mo sMo_10 := by rw [e_109]; exact (I_Mo_set_thrown I_4)
            have k_111 : (2 : Int32).toInt = 2 := by decide
            have f_112 : (Mo_thrown sMo_10).toInt = (2 : Int32).toInt := by subst e_109; rfl
            have f_113 : (Mo_used sMo_10).toInt = (Mo_used sMo_5).toInt := by subst e_109; rfl
            have f_114 : (Mo_madeMany sMo_10).toInt = (Mo_madeMany sMo_5).toInt := by subst e_109; rfl
            have f_115 : (Mo_madeKind sMo_10).toInt = (Mo_madeKind sMo_5).toInt := by subst e_109; rfl
            have f_116 : (Mo_madeSubsets sMo_10).toInt = (Mo_madeSubsets sMo_5).toInt := by subst e_109; rfl
            have f_117 : (Mo_written sMo_10).toInt = (Mo_written sMo_5).toInt := by subst e_109; rfl
            have f_118 : (Mo_taped sMo_10).toInt = (Mo_taped sMo_5).toInt := by subst e_109; rfl
            unfold Mod_append_j70
            refine So.ite (fun c_119 => ?_) (fun c_119 => ?_)
            · rw [i_le] at c_119
              refine So.gd (i_in.mpr (by omega)) ?_
              have k_120 : ((24 * 16) : Int32).toInt = 384 := by decide
              first | have f_121 := i_add (a := ((24 * 16) : Int32)) (b := (sMlengths ((16 : Int32).toNatClampNeg))) (by omega) (by omega) | have f_121 := i_addm ((24 * 16) : Int32) (sMlengths ((16 : Int32).toNatClampNeg))
              refine So.gd (i_in.mpr (by omega)) ?_
              refine So.lt2 fun sMlists_14 e_122 => ?_
              have f_123 := i_natm ((24 * 16) + (sMlengths ((16 : Int32).toNatClampNeg)))
              have I_124 : A_Mlists sMlists_14 := by rw [e_122]; exact (A_Mlists_upd I_sMlists (by show (0 ≤ (a1 : Int32).toInt ∧ (a1 : Int32).toInt ≤ 63) ∨ (100 ≤ (a1 : Int32).toInt ∧ (a1 : Int32).toInt ≤ 115) ∨ (216 ≤ (a1 : Int32).toInt ∧ (a1 : Int32).toInt ≤ 343) ∨ (400 ≤ (a1 : Int32).toInt ∧ (a1 : Int32).toInt ≤ 487) ∨ (501 ≤ (a1 : Int32).toInt ∧ (a1 : Int32).toInt ≤ 516) ∨ (a1 : Int32).toInt = 520; omega))
              refine So.gd (i_in.mpr (by omega)) ?_
              refine So.gd (i_in.mpr (by omega)) ?_
              refine So.lt2 fun sMlengths_17 e_125 => ?_
              first | have f_126 := i_add (a := (sMlengths ((16 : Int32).toNatClampNeg))) (b := 1) (by omega) (by omega) | have f_126 := i_addm (sMlengths ((16 : Int32).toNatClampNeg)) 1
              have I_127 : A_Mlengths sMlengths_17 := by rw [e_125]; exact (A_Mlengths_upd I_sMlengths (by show 0 ≤ (((sMlengths ((16 : Int32).toNatClampNeg)) + 1) : Int32).toInt ∧ (((sMlengths ((16 : Int32).toNatClampNeg)) + 1) : Int32).toInt ≤ 24 ∧ (((16 : Int32).toNatClampNeg) < 16 → (((sMlengths ((16 : Int32).toNatClampNeg)) + 1) : Int32).toInt ≤ 8); omega))
              refine So.gd (i_in.mpr (by omega)) ?_
              exact So.one ⟨I_110, I_124, I_127, (by show 0 ≤ (Mo_thrown sMo_10).toInt; omega), (by show (Mo_thrown sMo_10).toInt ≤ 2; omega), (by show (Mo_used sMo_10).toInt = (Mo_used sMo).toInt; omega), (by show (Mo_taped sMo_10).toInt = (Mo_taped sMo).toInt; omega), (by show (Mo_madeMany sMo_10).toInt = (Mo_madeMany sMo).toInt; omega), (by show (Mo_madeKind sMo_10).toInt = (Mo_madeKind sMo).toInt; omega), (by show (Mo_madeSubsets sMo_10).toInt = (Mo_madeSubsets sMo).toInt; omega), (by show (Mo_written sMo_10).toInt = (Mo_written sMo).toInt; omega)⟩
            · rw [i_le] at c_119
              exact So.one ⟨I_110, I_sMlists, I_sMlengths, (by show 0 ≤ (Mo_thrown sMo_10).toInt; omega), (by show (Mo_thrown sMo_10).toInt ≤ 2; omega), (by show (Mo_used sMo_10).toInt = (Mo_used sMo).toInt; omega), (by show (Mo_taped sMo_10).toInt = (Mo_taped sMo).toInt; omega), (by show (Mo_madeMany sMo_10).toInt = (Mo_madeMany sMo).toInt; omega), (by show (Mo_madeKind sMo_10).toInt = (Mo_madeKind sMo).toInt; omega), (by show (Mo_madeSubsets sMo_10).toInt = (Mo_madeSubsets sMo).toInt; omega), (by show (Mo_written sMo_10).toInt = (Mo_written sMo).toInt; omega)⟩
          · rw [i_eq] at c_105
            have f_128 := A_Mlengths_at I_sMlengths ((16 : Int32).toNatClampNeg)
            have f_129 := i_natm (16 : Int32)
            have k_130 : (8 : Int32).toInt = 8 := by decide
            unfold Mod_append_j70
            refine So.ite (fun c_131 => ?_) (fun c_131 => ?_)
            · rw [i_le] at c_131
              refine So.gd (i_in.mpr (by omega)) ?_
              have k_132 : ((24 * 16) : Int32).toInt = 384 := by decide
              first | have f_133 := i_add (a := ((24 * 16) : Int32)) (b := (sMlengths ((16 : Int32).toNatClampNeg))) (by omega) (by omega) | have f_133 := i_addm ((24 * 16) : Int32) (sMlengths ((16 : Int32).toNatClampNeg))
              refine So.gd (i_in.mpr (by omega)) ?_
              refine So.lt2 fun sMlists_14 e_134 => ?_
              have f_135 := i_natm ((24 * 16) + (sMlengths ((16 : Int32).toNatClampNeg)))
              have I_136 : A_Mlists sMlists_14 := by rw [e_134]; exact (A_Mlists_upd I_sMlists (by show (0 ≤ (a1 : Int32).toInt ∧ (a1 : Int32).toInt ≤ 63) ∨ (100 ≤ (a1 : Int32).toInt ∧ (a1 : Int32).toInt ≤ 115) ∨ (216 ≤ (a1 : Int32).toInt ∧ (a1 : Int32).toInt ≤ 343) ∨ (400 ≤ (a1 : Int32).toInt ∧ (a1 : Int32).toInt ≤ 487) ∨ (501 ≤ (a1 : Int32).toInt ∧ (a1 : Int32).toInt ≤ 516) ∨ (a1 : Int32).toInt = 520; omega))
              refine So.gd (i_in.mpr (by omega)) ?_
              refine So.gd (i_in.mpr (by omega)) ?_
              refine So.lt2 fun sMlengths_17 e_137 => ?_
              first | have f_138 := i_add (a := (sMlengths ((16 : Int32).toNatClampNeg))) (b := 1) (by omega) (by omega) | have f_138 := i_addm (sMlengths ((16 : Int32).toNatClampNeg)) 1
              have I_139 : A_Mlengths sMlengths_17 := by rw [e_137]; exact (A_Mlengths_upd I_sMlengths (by show 0 ≤ (((sMlengths ((16 : Int32).toNatClampNeg)) + 1) : Int32).toInt ∧ (((sMlengths ((16 : Int32).toNatClampNeg)) + 1) : Int32).toInt ≤ 24 ∧ (((16 : Int32).toNatClampNeg) < 16 → (((sMlengths ((16 : Int32).toNatClampNeg)) + 1) : Int32).toInt ≤ 8); omega))
              refine So.gd (i_in.mpr (by omega)) ?_
              exact So.one ⟨I_4, I_136, I_139, (by show 0 ≤ (Mo_thrown sMo_5).toInt; omega), (by show (Mo_thrown sMo_5).toInt ≤ 2; omega), (by show (Mo_used sMo_5).toInt = (Mo_used sMo).toInt; omega), (by show (Mo_taped sMo_5).toInt = (Mo_taped sMo).toInt; omega), (by show (Mo_madeMany sMo_5).toInt = (Mo_madeMany sMo).toInt; omega), (by show (Mo_madeKind sMo_5).toInt = (Mo_madeKind sMo).toInt; omega), (by show (Mo_madeSubsets sMo_5).toInt = (Mo_madeSubsets sMo).toInt; omega), (by show (Mo_written sMo_5).toInt = (Mo_written sMo).toInt; omega)⟩
            · rw [i_le] at c_131
              exact So.one ⟨I_4, I_sMlists, I_sMlengths, (by show 0 ≤ (Mo_thrown sMo_5).toInt; omega), (by show (Mo_thrown sMo_5).toInt ≤ 2; omega), (by show (Mo_used sMo_5).toInt = (Mo_used sMo).toInt; omega), (by show (Mo_taped sMo_5).toInt = (Mo_taped sMo).toInt; omega), (by show (Mo_madeMany sMo_5).toInt = (Mo_madeMany sMo).toInt; omega), (by show (Mo_madeKind sMo_5).toInt = (Mo_madeKind sMo).toInt; omega), (by show (Mo_madeSubsets sMo_5).toInt = (Mo_madeSubsets sMo).toInt; omega), (by show (Mo_written sMo_5).toInt = (Mo_written sMo).toInt; omega)⟩
        · rw [i_le] at c_104
          unfold Mod_append_j62
          refine So.ite (fun c_140 => ?_) (fun c_140 => ?_)
          · rw [i_eq] at c_140
            have f_141 := A_Mlengths_at I_sMlengths ((16 : Int32).toNatClampNeg)
            have f_142 := i_natm (16 : Int32)
            have k_143 : (24 : Int32).toInt = 24 := by decide
            refine So.lt2 fun sMo_10 e_144 => ?_
            have I_145 : I_Mo sMo_10 := by rw [e_144]; exact (I_Mo_set_thrown I_4)
            have k_146 : (2 : Int32).toInt = 2 := by decide
            have f_147 : (Mo_thrown sMo_10).toInt = (2 : Int32).toInt := by subst e_144; rfl
            have f_148 : (Mo_used sMo_10).toInt = (Mo_used sMo_5).toInt := by subst e_144; rfl
            have f_149 : (Mo_madeMany sMo_10).toInt = (Mo_madeMany sMo_5).toInt := by subst e_144; rfl
            have f_150 : (Mo_madeKind sMo_10).toInt = (Mo_madeKind sMo_5).toInt := by subst e_144; rfl
            have f_151 : (Mo_madeSubsets sMo_10).toInt = (Mo_madeSubsets sMo_5).toInt := by subst e_144; rfl
            have f_152 : (Mo_written sMo_10).toInt = (Mo_written sMo_5).toInt := by subst e_144; rfl
            have f_153 : (Mo_taped sMo_10).toInt = (Mo_taped sMo_5).toInt := by subst e_144; rfl
            unfold Mod_append_j70
            refine So.ite (fun c_154 => ?_) (fun c_154 => ?_)
            · rw [i_le] at c_154
              refine So.gd (i_in.mpr (by omega)) ?_
              have k_155 : ((24 * 16) : Int32).toInt = 384 := by decide
              first | have f_156 := i_add (a := ((24 * 16) : Int32)) (b := (sMlengths ((16 : Int32).toNatClampNeg))) (by omega) (by omega) | have f_156 := i_addm ((24 * 16) : Int32) (sMlengths ((16 : Int32).toNatClampNeg))
              refine So.gd (i_in.mpr (by omega)) ?_
              refine So.lt2 fun sMlists_14 e_157 => ?_
              have f_158 := i_natm ((24 * 16) + (sMlengths ((16 : Int32).toNatClampNeg)))
              have I_159 : A_Mlists sMlists_14 := by rw [e_157]; exact (A_Mlists_upd I_sMlists (by show (0 ≤ (a1 : Int32).toInt ∧ (a1 : Int32).toInt ≤ 63) ∨ (100 ≤ (a1 : Int32).toInt ∧ (a1 : Int32).toInt ≤ 115) ∨ (216 ≤ (a1 : Int32).toInt ∧ (a1 : Int32).toInt ≤ 343) ∨ (400 ≤ (a1 : Int32).toInt ∧ (a1 : Int32).toInt ≤ 487) ∨ (501 ≤ (a1 : Int32).toInt ∧ (a1 : Int32).toInt ≤ 516) ∨ (a1 : Int32).toInt = 520; omega))
              refine So.gd (i_in.mpr (by omega)) ?_
              refine So.gd (i_in.mpr (by omega)) ?_
              refine So.lt2 fun sMlengths_17 e_160 => ?_
              first | have f_161 := i_add (a := (sMlengths ((16 : Int32).toNatClampNeg))) (b := 1) (by omega) (by omega) | have f_161 := i_addm (sMlengths ((16 : Int32).toNatClampNeg)) 1
              have I_162 : A_Mlengths sMlengths_17 := by rw [e_160]; exact (A_Mlengths_upd I_sMlengths (by show 0 ≤ (((sMlengths ((16 : Int32).toNatClampNeg)) + 1) : Int32).toInt ∧ (((sMlengths ((16 : Int32).toNatClampNeg)) + 1) : Int32).toInt ≤ 24 ∧ (((16 : Int32).toNatClampNeg) < 16 → (((sMlengths ((16 : Int32).toNatClampNeg)) + 1) : Int32).toInt ≤ 8); omega))
              refine So.gd (i_in.mpr (by omega)) ?_
              exact So.one ⟨I_145, I_159, I_162, (by show 0 ≤ (Mo_thrown sMo_10).toInt; omega), (by show (Mo_thrown sMo_10).toInt ≤ 2; omega), (by show (Mo_used sMo_10).toInt = (Mo_used sMo).toInt; omega), (by show (Mo_taped sMo_10).toInt = (Mo_taped sMo).toInt; omega), (by show (Mo_madeMany sMo_10).toInt = (Mo_madeMany sMo).toInt; omega), (by show (Mo_madeKind sMo_10).toInt = (Mo_madeKind sMo).toInt; omega), (by show (Mo_madeSubsets sMo_10).toInt = (Mo_madeSubsets sMo).toInt; omega), (by show (Mo_written sMo_10).toInt = (Mo_written sMo).toInt; omega)⟩
            · rw [i_le] at c_154
              exact So.one ⟨I_145, I_sMlists, I_sMlengths, (by show 0 ≤ (Mo_thrown sMo_10).toInt; omega), (by show (Mo_thrown sMo_10).toInt ≤ 2; omega), (by show (Mo_used sMo_10).toInt = (Mo_used sMo).toInt; omega), (by show (Mo_taped sMo_10).toInt = (Mo_taped sMo).toInt; omega), (by show (Mo_madeMany sMo_10).toInt = (Mo_madeMany sMo).toInt; omega), (by show (Mo_madeKind sMo_10).toInt = (Mo_madeKind sMo).toInt; omega), (by show (Mo_madeSubsets sMo_10).toInt = (Mo_madeSubsets sMo).toInt; omega), (by show (Mo_written sMo_10).toInt = (Mo_written sMo).toInt; omega)⟩
          · rw [i_eq] at c_140
            have f_163 := A_Mlengths_at I_sMlengths ((16 : Int32).toNatClampNeg)
            have f_164 := i_natm (16 : Int32)
            have k_165 : (24 : Int32).toInt = 24 := by decide
            unfold Mod_append_j70
            refine So.ite (fun c_166 => ?_) (fun c_166 => ?_)
            · rw [i_le] at c_166
              refine So.gd (i_in.mpr (by omega)) ?_
              have k_167 : ((24 * 16) : Int32).toInt = 384 := by decide
              first | have f_168 := i_add (a := ((24 * 16) : Int32)) (b := (sMlengths ((16 : Int32).toNatClampNeg))) (by omega) (by omega) | have f_168 := i_addm ((24 * 16) : Int32) (sMlengths ((16 : Int32).toNatClampNeg))
              refine So.gd (i_in.mpr (by omega)) ?_
              refine So.lt2 fun sMlists_14 e_169 => ?_
              have f_170 := i_natm ((24 * 16) + (sMlengths ((16 : Int32).toNatClampNeg)))
              have I_171 : A_Mlists sMlists_14 := by rw [e_169]; exact (A_Mlists_upd I_sMlists (by show (0 ≤ (a1 : Int32).toInt ∧ (a1 : Int32).toInt ≤ 63) ∨ (100 ≤ (a1 : Int32).toInt ∧ (a1 : Int32).toInt ≤ 115) ∨ (216 ≤ (a1 : Int32).toInt ∧ (a1 : Int32).toInt ≤ 343) ∨ (400 ≤ (a1 : Int32).toInt ∧ (a1 : Int32).toInt ≤ 487) ∨ (501 ≤ (a1 : Int32).toInt ∧ (a1 : Int32).toInt ≤ 516) ∨ (a1 : Int32).toInt = 520; omega))
              refine So.gd (i_in.mpr (by omega)) ?_
              refine So.gd (i_in.mpr (by omega)) ?_
              refine So.lt2 fun sMlengths_17 e_172 => ?_
              first | have f_173 := i_add (a := (sMlengths ((16 : Int32).toNatClampNeg))) (b := 1) (by omega) (by omega) | have f_173 := i_addm (sMlengths ((16 : Int32).toNatClampNeg)) 1
              have I_174 : A_Mlengths sMlengths_17 := by rw [e_172]; exact (A_Mlengths_upd I_sMlengths (by show 0 ≤ (((sMlengths ((16 : Int32).toNatClampNeg)) + 1) : Int32).toInt ∧ (((sMlengths ((16 : Int32).toNatClampNeg)) + 1) : Int32).toInt ≤ 24 ∧ (((16 : Int32).toNatClampNeg) < 16 → (((sMlengths ((16 : Int32).toNatClampNeg)) + 1) : Int32).toInt ≤ 8); omega))
              refine So.gd (i_in.mpr (by omega)) ?_
              exact So.one ⟨I_4, I_171, I_174, (by show 0 ≤ (Mo_thrown sMo_5).toInt; omega), (by show (Mo_thrown sMo_5).toInt ≤ 2; omega), (by show (Mo_used sMo_5).toInt = (Mo_used sMo).toInt; omega), (by show (Mo_taped sMo_5).toInt = (Mo_taped sMo).toInt; omega), (by show (Mo_madeMany sMo_5).toInt = (Mo_madeMany sMo).toInt; omega), (by show (Mo_madeKind sMo_5).toInt = (Mo_madeKind sMo).toInt; omega), (by show (Mo_madeSubsets sMo_5).toInt = (Mo_madeSubsets sMo).toInt; omega), (by show (Mo_written sMo_5).toInt = (Mo_written sMo).toInt; omega)⟩
            · rw [i_le] at c_166
              exact So.one ⟨I_4, I_sMlists, I_sMlengths, (by show 0 ≤ (Mo_thrown sMo_5).toInt; omega), (by show (Mo_thrown sMo_5).toInt ≤ 2; omega), (by show (Mo_used sMo_5).toInt = (Mo_used sMo).toInt; omega), (by show (Mo_taped sMo_5).toInt = (Mo_taped sMo).toInt; omega), (by show (Mo_madeMany sMo_5).toInt = (Mo_madeMany sMo).toInt; omega), (by show (Mo_madeKind sMo_5).toInt = (Mo_madeKind sMo).toInt; omega), (by show (Mo_madeSubsets sMo_5).toInt = (Mo_madeSubsets sMo).toInt; omega), (by show (Mo_written sMo_5).toInt = (Mo_written sMo).toInt; omega)⟩
      · rw [i_eq] at c_102
        unfold Mod_append_j70
        refine So.ite (fun c_175 => ?_) (fun c_175 => ?_)
        · rw [i_le] at c_175
          have k_176 : (16 : Int32).toInt = 16 := by decide
          refine So.gd (i_in.mpr (by omega)) ?_
          have k_177 : ((24 * 16) : Int32).toInt = 384 := by decide
          have f_178 := A_Mlengths_at I_sMlengths ((16 : Int32).toNatClampNeg)
          have f_179 := i_natm (16 : Int32)
          first | have f_180 := i_add (a := ((24 * 16) : Int32)) (b := (sMlengths ((16 : Int32).toNatClampNeg))) (by omega) (by omega) | have f_180 := i_addm ((24 * 16) : Int32) (sMlengths ((16 : Int32).toNatClampNeg))
          refine So.gd (i_in.mpr (by omega)) ?_
          refine So.lt2 fun sMlists_14 e_181 => ?_
          have f_182 := i_natm ((24 * 16) + (sMlengths ((16 : Int32).toNatClampNeg)))
          have I_183 : A_Mlists sMlists_14 := by rw [e_181]; exact (A_Mlists_upd I_sMlists (by show (0 ≤ (a1 : Int32).toInt ∧ (a1 : Int32).toInt ≤ 63) ∨ (100 ≤ (a1 : Int32).toInt ∧ (a1 : Int32).toInt ≤ 115) ∨ (216 ≤ (a1 : Int32).toInt ∧ (a1 : Int32).toInt ≤ 343) ∨ (400 ≤ (a1 : Int32).toInt ∧ (a1 : Int32).toInt ≤ 487) ∨ (501 ≤ (a1 : Int32).toInt ∧ (a1 : Int32).toInt ≤ 516) ∨ (a1 : Int32).toInt = 520; omega))
          refine So.gd (i_in.mpr (by omega)) ?_
          refine So.gd (i_in.mpr (by omega)) ?_
          refine So.lt2 fun sMlengths_17 e_184 => ?_
          first | have f_185 := i_add (a := (sMlengths ((16 : Int32).toNatClampNeg))) (b := 1) (by omega) (by omega) | have f_185 := i_addm (sMlengths ((16 : Int32).toNatClampNeg)) 1
          have I_186 : A_Mlengths sMlengths_17 := by rw [e_184]; exact (A_Mlengths_upd I_sMlengths (by show 0 ≤ (((sMlengths ((16 : Int32).toNatClampNeg)) + 1) : Int32).toInt ∧ (((sMlengths ((16 : Int32).toNatClampNeg)) + 1) : Int32).toInt ≤ 24 ∧ (((16 : Int32).toNatClampNeg) < 16 → (((sMlengths ((16 : Int32).toNatClampNeg)) + 1) : Int32).toInt ≤ 8); omega))
          refine So.gd (i_in.mpr (by omega)) ?_
          exact So.one ⟨I_4, I_183, I_186, (by show 0 ≤ (Mo_thrown sMo_5).toInt; omega), (by show (Mo_thrown sMo_5).toInt ≤ 2; omega), (by show (Mo_used sMo_5).toInt = (Mo_used sMo).toInt; omega), (by show (Mo_taped sMo_5).toInt = (Mo_taped sMo).toInt; omega), (by show (Mo_madeMany sMo_5).toInt = (Mo_madeMany sMo).toInt; omega), (by show (Mo_madeKind sMo_5).toInt = (Mo_madeKind sMo).toInt; omega), (by show (Mo_madeSubsets sMo_5).toInt = (Mo_madeSubsets sMo).toInt; omega), (by show (Mo_written sMo_5).toInt = (Mo_written sMo).toInt; omega)⟩
        · rw [i_le] at c_175
          exact So.one ⟨I_4, I_sMlists, I_sMlengths, (by show 0 ≤ (Mo_thrown sMo_5).toInt; omega), (by show (Mo_thrown sMo_5).toInt ≤ 2; omega), (by show (Mo_used sMo_5).toInt = (Mo_used sMo).toInt; omega), (by show (Mo_taped sMo_5).toInt = (Mo_taped sMo).toInt; omega), (by show (Mo_madeMany sMo_5).toInt = (Mo_madeMany sMo).toInt; omega), (by show (Mo_madeKind sMo_5).toInt = (Mo_madeKind sMo).toInt; omega), (by show (Mo_madeSubsets sMo_5).toInt = (Mo_madeSubsets sMo).toInt; omega), (by show (Mo_written sMo_5).toInt = (Mo_written sMo).toInt; omega)⟩
  · rw [i_lt] at c_1
    have k_187 : ((-1) : Int32).toInt = -1 := by decide
    refine So.ite (fun c_188 => ?_) (fun c_188 => ?_)
    · rw [i_lt] at c_188
      have k_189 : (15 : Int32).toInt = 15 := by decide
      unfold Mod_append_j19
      unfold Mod_append_j24
      refine So.lt2 fun sMo_5 e_190 => ?_
      have I_191 : I_Mo sMo_5 := by rw [e_190]; exact (I_Mo_set_thrown I_sMo)
      have k_192 : (1 : Int32).toInt = 1 := by decide
      have f_193 : (Mo_thrown sMo_5).toInt = (1 : Int32).toInt := by subst e_190; rfl
      have f_194 : (Mo_used sMo_5).toInt = (Mo_used sMo).toInt := by subst e_190; rfl
      have f_195 : (Mo_madeMany sMo_5).toInt = (Mo_madeMany sMo).toInt := by subst e_190; rfl
      have f_196 : (Mo_madeKind sMo_5).toInt = (Mo_madeKind sMo).toInt := by subst e_190; rfl
      have f_197 : (Mo_madeSubsets sMo_5).toInt = (Mo_madeSubsets sMo).toInt := by subst e_190; rfl
      have f_198 : (Mo_written sMo_5).toInt = (Mo_written sMo).toInt := by subst e_190; rfl
      have f_199 : (Mo_taped sMo_5).toInt = (Mo_taped sMo).toInt := by subst e_190; rfl
      refine So.ite (fun c_200 => ?_) (fun c_200 => ?_)
      · rw [i_le] at c_200
        have k_201 : (0 : Int32).toInt = 0 := by decide
        unfold Mod_append_j37
        refine So.ite (fun c_202 => ?_) (fun c_202 => ?_)
        · rw [i_eq] at c_202
          refine So.gd (i_in.mpr (by omega)) ?_
          refine So.ite (fun c_203 => ?_) (fun c_203 => ?_)
          · rw [i_le] at c_203
            unfold Mod_append_j62
            refine So.ite (fun c_204 => ?_) (fun c_204 => ?_)
            · rw [i_eq] at c_204
              have f_205 := A_Mlengths_at I_sMlengths (a0.toNatClampNeg)
              have f_206 := i_natm a0
              have k_207 : (8 : Int32).toInt = 8 := by decide
              refine So.lt2 fun sMo_10 e_208 => ?_
              have I_209 : I_Mo sMo_10 := by rw [e_208]; exact (I_Mo_set_thrown I_191)
              have k_210 : (2 : Int32).toInt = 2 := by decide
              have f_211 : (Mo_thrown sMo_10).toInt = (2 : Int32).toInt := by subst e_208; rfl
              have f_212 : (Mo_used sMo_10).toInt = (Mo_used sMo_5).toInt := by subst e_208; rfl
              have f_213 : (Mo_madeMany sMo_10).toInt = (Mo_madeMany sMo_5).toInt := by subst e_208; rfl
              have f_214 : (Mo_madeKind sMo_10).toInt = (Mo_madeKind sMo_5).toInt := by subst e_208; rfl
              have f_215 : (Mo_madeSubsets sMo_10).toInt = (Mo_madeSubsets sMo_5).toInt := by subst e_208; rfl
              have f_216 : (Mo_written sMo_10).toInt = (Mo_written sMo_5).toInt := by subst e_208; rfl
              have f_217 : (Mo_taped sMo_10).toInt = (Mo_taped sMo_5).toInt := by subst e_208; rfl
              unfold Mod_append_j70
              refine So.ite (fun c_218 => ?_) (fun c_218 => ?_)
              · rw [i_le] at c_218
                refine So.gd (i_in.mpr (by omega)) ?_
                have k_219 : (24 : Int32).toInt = 24 := by decide
                first | have f_220 := i_mull 24 a0 (24) (by decide) (by omega) (by omega) | have f_220 := i_mullm 24 a0 (24) (by decide)
                first | have f_221 := i_add (a := (24 * a0)) (b := (sMlengths (a0.toNatClampNeg))) (by omega) (by omega) | have f_221 := i_addm (24 * a0) (sMlengths (a0.toNatClampNeg))
                refine So.gd (i_in.mpr (by omega)) ?_
                refine So.lt2 fun sMlists_14 e_222 => ?_
                have f_223 := i_natm ((24 * a0) + (sMlengths (a0.toNatClampNeg)))
                have I_224 : A_Mlists sMlists_14 := by rw [e_222]; exact (A_Mlists_upd I_sMlists (by show (0 ≤ (a1 : Int32).toInt ∧ (a1 : Int32).toInt ≤ 63) ∨ (100 ≤ (a1 : Int32).toInt ∧ (a1 : Int32).toInt ≤ 115) ∨ (216 ≤ (a1 : Int32).toInt ∧ (a1 : Int32).toInt ≤ 343) ∨ (400 ≤ (a1 : Int32).toInt ∧ (a1 : Int32).toInt ≤ 487) ∨ (501 ≤ (a1 : Int32).toInt ∧ (a1 : Int32).toInt ≤ 516) ∨ (a1 : Int32).toInt = 520; omega))
                refine So.gd (i_in.mpr (by omega)) ?_
                refine So.gd (i_in.mpr (by omega)) ?_
                refine So.lt2 fun sMlengths_17 e_225 => ?_
                first | have f_226 := i_add (a := (sMlengths (a0.toNatClampNeg))) (b := 1) (by omega) (by omega) | have f_226 := i_addm (sMlengths (a0.toNatClampNeg)) 1
                have I_227 : A_Mlengths sMlengths_17 := by rw [e_225]; exact (A_Mlengths_upd I_sMlengths (by show 0 ≤ (((sMlengths (a0.toNatClampNeg)) + 1) : Int32).toInt ∧ (((sMlengths (a0.toNatClampNeg)) + 1) : Int32).toInt ≤ 24 ∧ ((a0.toNatClampNeg) < 16 → (((sMlengths (a0.toNatClampNeg)) + 1) : Int32).toInt ≤ 8); omega))
                refine So.gd (i_in.mpr (by omega)) ?_
                exact So.one ⟨I_209, I_224, I_227, (by show 0 ≤ (Mo_thrown sMo_10).toInt; omega), (by show (Mo_thrown sMo_10).toInt ≤ 2; omega), (by show (Mo_used sMo_10).toInt = (Mo_used sMo).toInt; omega), (by show (Mo_taped sMo_10).toInt = (Mo_taped sMo).toInt; omega), (by show (Mo_madeMany sMo_10).toInt = (Mo_madeMany sMo).toInt; omega), (by show (Mo_madeKind sMo_10).toInt = (Mo_madeKind sMo).toInt; omega), (by show (Mo_madeSubsets sMo_10).toInt = (Mo_madeSubsets sMo).toInt; omega), (by show (Mo_written sMo_10).toInt = (Mo_written sMo).toInt; omega)⟩
              · rw [i_le] at c_218
                exact So.one ⟨I_209, I_sMlists, I_sMlengths, (by show 0 ≤ (Mo_thrown sMo_10).toInt; omega), (by show (Mo_thrown sMo_10).toInt ≤ 2; omega), (by show (Mo_used sMo_10).toInt = (Mo_used sMo).toInt; omega), (by show (Mo_taped sMo_10).toInt = (Mo_taped sMo).toInt; omega), (by show (Mo_madeMany sMo_10).toInt = (Mo_madeMany sMo).toInt; omega), (by show (Mo_madeKind sMo_10).toInt = (Mo_madeKind sMo).toInt; omega), (by show (Mo_madeSubsets sMo_10).toInt = (Mo_madeSubsets sMo).toInt; omega), (by show (Mo_written sMo_10).toInt = (Mo_written sMo).toInt; omega)⟩
            · rw [i_eq] at c_204
              have f_228 := A_Mlengths_at I_sMlengths (a0.toNatClampNeg)
              have f_229 := i_natm a0
              have k_230 : (8 : Int32).toInt = 8 := by decide
              unfold Mod_append_j70
              refine So.ite (fun c_231 => ?_) (fun c_231 => ?_)
              · rw [i_le] at c_231
                refine So.gd (i_in.mpr (by omega)) ?_
                have k_232 : (24 : Int32).toInt = 24 := by decide
                first | have f_233 := i_mull 24 a0 (24) (by decide) (by omega) (by omega) | have f_233 := i_mullm 24 a0 (24) (by decide)
                first | have f_234 := i_add (a := (24 * a0)) (b := (sMlengths (a0.toNatClampNeg))) (by omega) (by omega) | have f_234 := i_addm (24 * a0) (sMlengths (a0.toNatClampNeg))
                refine So.gd (i_in.mpr (by omega)) ?_
                refine So.lt2 fun sMlists_14 e_235 => ?_
                have f_236 := i_natm ((24 * a0) + (sMlengths (a0.toNatClampNeg)))
                have I_237 : A_Mlists sMlists_14 := by rw [e_235]; exact (A_Mlists_upd I_sMlists (by show (0 ≤ (a1 : Int32).toInt ∧ (a1 : Int32).toInt ≤ 63) ∨ (100 ≤ (a1 : Int32).toInt ∧ (a1 : Int32).toInt ≤ 115) ∨ (216 ≤ (a1 : Int32).toInt ∧ (a1 : Int32).toInt ≤ 343) ∨ (400 ≤ (a1 : Int32).toInt ∧ (a1 : Int32).toInt ≤ 487) ∨ (501 ≤ (a1 : Int32).toInt ∧ (a1 : Int32).toInt ≤ 516) ∨ (a1 : Int32).toInt = 520; omega))
                refine So.gd (i_in.mpr (by omega)) ?_
                refine So.gd (i_in.mpr (by omega)) ?_
                refine So.lt2 fun sMlengths_17 e_238 => ?_
                first | have f_239 := i_add (a := (sMlengths (a0.toNatClampNeg))) (b := 1) (by omega) (by omega) | have f_239 := i_addm (sMlengths (a0.toNatClampNeg)) 1
                have I_240 : A_Mlengths sMlengths_17 := by rw [e_238]; exact (A_Mlengths_upd I_sMlengths (by show 0 ≤ (((sMlengths (a0.toNatClampNeg)) + 1) : Int32).toInt ∧ (((sMlengths (a0.toNatClampNeg)) + 1) : Int32).toInt ≤ 24 ∧ ((a0.toNatClampNeg) < 16 → (((sMlengths (a0.toNatClampNeg)) + 1) : Int32).toInt ≤ 8); omega))
                refine So.gd (i_in.mpr (by omega)) ?_
                exact So.one ⟨I_191, I_237, I_240, (by show 0 ≤ (Mo_thrown sMo_5).toInt; omega), (by show (Mo_thrown sMo_5).toInt ≤ 2; omega), (by show (Mo_used sMo_5).toInt = (Mo_used sMo).toInt; omega), (by show (Mo_taped sMo_5).toInt = (Mo_taped sMo).toInt; omega), (by show (Mo_madeMany sMo_5).toInt = (Mo_madeMany sMo).toInt; omega), (by show (Mo_madeKind sMo_5).toInt = (Mo_madeKind sMo).toInt; omega), (by show (Mo_madeSubsets sMo_5).toInt = (Mo_madeSubsets sMo).toInt; omega), (by show (Mo_written sMo_5).toInt = (Mo_written sMo).toInt; omega)⟩
              · rw [i_le] at c_231
                exact So.one ⟨I_191, I_sMlists, I_sMlengths, (by show 0 ≤ (Mo_thrown sMo_5).toInt; omega), (by show (Mo_thrown sMo_5).toInt ≤ 2; omega), (by show (Mo_used sMo_5).toInt = (Mo_used sMo).toInt; omega), (by show (Mo_taped sMo_5).toInt = (Mo_taped sMo).toInt; omega), (by show (Mo_madeMany sMo_5).toInt = (Mo_madeMany sMo).toInt; omega), (by show (Mo_madeKind sMo_5).toInt = (Mo_madeKind sMo).toInt; omega), (by show (Mo_madeSubsets sMo_5).toInt = (Mo_madeSubsets sMo).toInt; omega), (by show (Mo_written sMo_5).toInt = (Mo_written sMo).toInt; omega)⟩
          · rw [i_le] at c_203
            unfold Mod_append_j62
            refine So.ite (fun c_241 => ?_) (fun c_241 => ?_)
            · rw [i_eq] at c_241
              have f_242 := A_Mlengths_at I_sMlengths (a0.toNatClampNeg)
              have f_243 := i_natm a0
              have k_244 : (24 : Int32).toInt = 24 := by decide
              refine So.lt2 fun sMo_10 e_245 => ?_
              have I_246 : I_Mo sMo_10 := by rw [e_245]; exact (I_Mo_set_thrown I_191)
              have k_247 : (2 : Int32).toInt = 2 := by decide
              have f_248 : (Mo_thrown sMo_10).toInt = (2 : Int32).toInt := by subst e_245; rfl
              have f_249 : (Mo_used sMo_10).toInt = (Mo_used sMo_5).toInt := by subst e_245; rfl
              have f_250 : (Mo_madeMany sMo_10).toInt = (Mo_madeMany sMo_5).toInt := by subst e_245; rfl
              have f_251 : (Mo_madeKind sMo_10).toInt = (Mo_madeKind sMo_5).toInt := by subst e_245; rfl
              have f_252 : (Mo_madeSubsets sMo_10).toInt = (Mo_madeSubsets sMo_5).toInt := by subst e_245; rfl
              have f_253 : (Mo_written sMo_10).toInt = (Mo_written sMo_5).toInt := by subst e_245; rfl
              have f_254 : (Mo_taped sMo_10).toInt = (Mo_taped sMo_5).toInt := by subst e_245; rfl
              unfold Mod_append_j70
              refine So.ite (fun c_255 => ?_) (fun c_255 => ?_)
              · rw [i_le] at c_255
                refine So.gd (i_in.mpr (by omega)) ?_
                first | have f_256 := i_mull 24 a0 (24) (by decide) (by omega) (by omega) | have f_256 := i_mullm 24 a0 (24) (by decide)
                first | have f_257 := i_add (a := (24 * a0)) (b := (sMlengths (a0.toNatClampNeg))) (by omega) (by omega) | have f_257 := i_addm (24 * a0) (sMlengths (a0.toNatClampNeg))
                refine So.gd (i_in.mpr (by omega)) ?_
                refine So.lt2 fun sMlists_14 e_258 => ?_
                have f_259 := i_natm ((24 * a0) + (sMlengths (a0.toNatClampNeg)))
                have I_260 : A_Mlists sMlists_14 := by rw [e_258]; exact (A_Mlists_upd I_sMlists (by show (0 ≤ (a1 : Int32).toInt ∧ (a1 : Int32).toInt ≤ 63) ∨ (100 ≤ (a1 : Int32).toInt ∧ (a1 : Int32).toInt ≤ 115) ∨ (216 ≤ (a1 : Int32).toInt ∧ (a1 : Int32).toInt ≤ 343) ∨ (400 ≤ (a1 : Int32).toInt ∧ (a1 : Int32).toInt ≤ 487) ∨ (501 ≤ (a1 : Int32).toInt ∧ (a1 : Int32).toInt ≤ 516) ∨ (a1 : Int32).toInt = 520; omega))
                refine So.gd (i_in.mpr (by omega)) ?_
                refine So.gd (i_in.mpr (by omega)) ?_
                refine So.lt2 fun sMlengths_17 e_261 => ?_
                first | have f_262 := i_add (a := (sMlengths (a0.toNatClampNeg))) (b := 1) (by omega) (by omega) | have f_262 := i_addm (sMlengths (a0.toNatClampNeg)) 1
                have I_263 : A_Mlengths sMlengths_17 := by rw [e_261]; exact (A_Mlengths_upd I_sMlengths (by show 0 ≤ (((sMlengths (a0.toNatClampNeg)) + 1) : Int32).toInt ∧ (((sMlengths (a0.toNatClampNeg)) + 1) : Int32).toInt ≤ 24 ∧ ((a0.toNatClampNeg) < 16 → (((sMlengths (a0.toNatClampNeg)) + 1) : Int32).toInt ≤ 8); omega))
                refine So.gd (i_in.mpr (by omega)) ?_
                exact So.one ⟨I_246, I_260, I_263, (by show 0 ≤ (Mo_thrown sMo_10).toInt; omega), (by show (Mo_thrown sMo_10).toInt ≤ 2; omega), (by show (Mo_used sMo_10).toInt = (Mo_used sMo).toInt; omega), (by show (Mo_taped sMo_10).toInt = (Mo_taped sMo).toInt; omega), (by show (Mo_madeMany sMo_10).toInt = (Mo_madeMany sMo).toInt; omega), (by show (Mo_madeKind sMo_10).toInt = (Mo_madeKind sMo).toInt; omega), (by show (Mo_madeSubsets sMo_10).toInt = (Mo_madeSubsets sMo).toInt; omega), (by show (Mo_written sMo_10).toInt = (Mo_written sMo).toInt; omega)⟩
              · rw [i_le] at c_255
                exact So.one ⟨I_246, I_sMlists, I_sMlengths, (by show 0 ≤ (Mo_thrown sMo_10).toInt; omega), (by show (Mo_thrown sMo_10).toInt ≤ 2; omega), (by show (Mo_used sMo_10).toInt = (Mo_used sMo).toInt; omega), (by show (Mo_taped sMo_10).toInt = (Mo_taped sMo).toInt; omega), (by show (Mo_madeMany sMo_10).toInt = (Mo_madeMany sMo).toInt; omega), (by show (Mo_madeKind sMo_10).toInt = (Mo_madeKind sMo).toInt; omega), (by show (Mo_madeSubsets sMo_10).toInt = (Mo_madeSubsets sMo).toInt; omega), (by show (Mo_written sMo_10).toInt = (Mo_written sMo).toInt; omega)⟩
            · rw [i_eq] at c_241
              have f_264 := A_Mlengths_at I_sMlengths (a0.toNatClampNeg)
              have f_265 := i_natm a0
              have k_266 : (24 : Int32).toInt = 24 := by decide
              unfold Mod_append_j70
              refine So.ite (fun c_267 => ?_) (fun c_267 => ?_)
              · rw [i_le] at c_267
                refine So.gd (i_in.mpr (by omega)) ?_
                first | have f_268 := i_mull 24 a0 (24) (by decide) (by omega) (by omega) | have f_268 := i_mullm 24 a0 (24) (by decide)
                first | have f_269 := i_add (a := (24 * a0)) (b := (sMlengths (a0.toNatClampNeg))) (by omega) (by omega) | have f_269 := i_addm (24 * a0) (sMlengths (a0.toNatClampNeg))
                refine So.gd (i_in.mpr (by omega)) ?_
                refine So.lt2 fun sMlists_14 e_270 => ?_
                have f_271 := i_natm ((24 * a0) + (sMlengths (a0.toNatClampNeg)))
                have I_272 : A_Mlists sMlists_14 := by rw [e_270]; exact (A_Mlists_upd I_sMlists (by show (0 ≤ (a1 : Int32).toInt ∧ (a1 : Int32).toInt ≤ 63) ∨ (100 ≤ (a1 : Int32).toInt ∧ (a1 : Int32).toInt ≤ 115) ∨ (216 ≤ (a1 : Int32).toInt ∧ (a1 : Int32).toInt ≤ 343) ∨ (400 ≤ (a1 : Int32).toInt ∧ (a1 : Int32).toInt ≤ 487) ∨ (501 ≤ (a1 : Int32).toInt ∧ (a1 : Int32).toInt ≤ 516) ∨ (a1 : Int32).toInt = 520; omega))
                refine So.gd (i_in.mpr (by omega)) ?_
                refine So.gd (i_in.mpr (by omega)) ?_
                refine So.lt2 fun sMlengths_17 e_273 => ?_
                first | have f_274 := i_add (a := (sMlengths (a0.toNatClampNeg))) (b := 1) (by omega) (by omega) | have f_274 := i_addm (sMlengths (a0.toNatClampNeg)) 1
                have I_275 : A_Mlengths sMlengths_17 := by rw [e_273]; exact (A_Mlengths_upd I_sMlengths (by show 0 ≤ (((sMlengths (a0.toNatClampNeg)) + 1) : Int32).toInt ∧ (((sMlengths (a0.toNatClampNeg)) + 1) : Int32).toInt ≤ 24 ∧ ((a0.toNatClampNeg) < 16 → (((sMlengths (a0.toNatClampNeg)) + 1) : Int32).toInt ≤ 8); omega))
                refine So.gd (i_in.mpr (by omega)) ?_
                exact So.one ⟨I_191, I_272, I_275, (by show 0 ≤ (Mo_thrown sMo_5).toInt; omega), (by show (Mo_thrown sMo_5).toInt ≤ 2; omega), (by show (Mo_used sMo_5).toInt = (Mo_used sMo).toInt; omega), (by show (Mo_taped sMo_5).toInt = (Mo_taped sMo).toInt; omega), (by show (Mo_madeMany sMo_5).toInt = (Mo_madeMany sMo).toInt; omega), (by show (Mo_madeKind sMo_5).toInt = (Mo_madeKind sMo).toInt; omega), (by show (Mo_madeSubsets sMo_5).toInt = (Mo_madeSubsets sMo).toInt; omega), (by show (Mo_written sMo_5).toInt = (Mo_written sMo).toInt; omega)⟩
              · rw [i_le] at c_267
                exact So.one ⟨I_191, I_sMlists, I_sMlengths, (by show 0 ≤ (Mo_thrown sMo_5).toInt; omega), (by show (Mo_thrown sMo_5).toInt ≤ 2; omega), (by show (Mo_used sMo_5).toInt = (Mo_used sMo).toInt; omega), (by show (Mo_taped sMo_5).toInt = (Mo_taped sMo).toInt; omega), (by show (Mo_madeMany sMo_5).toInt = (Mo_madeMany sMo).toInt; omega), (by show (Mo_madeKind sMo_5).toInt = (Mo_madeKind sMo).toInt; omega), (by show (Mo_madeSubsets sMo_5).toInt = (Mo_madeSubsets sMo).toInt; omega), (by show (Mo_written sMo_5).toInt = (Mo_written sMo).toInt; omega)⟩
        · rw [i_eq] at c_202
          unfold Mod_append_j70
          refine So.ite (fun c_276 => ?_) (fun c_276 => ?_)
          · rw [i_le] at c_276
            refine So.gd (i_in.mpr (by omega)) ?_
            have k_277 : (24 : Int32).toInt = 24 := by decide
            first | have f_278 := i_mull 24 a0 (24) (by decide) (by omega) (by omega) | have f_278 := i_mullm 24 a0 (24) (by decide)
            have f_279 := A_Mlengths_at I_sMlengths (a0.toNatClampNeg)
            have f_280 := i_natm a0
            first | have f_281 := i_add (a := (24 * a0)) (b := (sMlengths (a0.toNatClampNeg))) (by omega) (by omega) | have f_281 := i_addm (24 * a0) (sMlengths (a0.toNatClampNeg))
            refine So.gd (i_in.mpr (by omega)) ?_
            refine So.lt2 fun sMlists_14 e_282 => ?_
            have f_283 := i_natm ((24 * a0) + (sMlengths (a0.toNatClampNeg)))
            have I_284 : A_Mlists sMlists_14 := by rw [e_282]; exact (A_Mlists_upd I_sMlists (by show (0 ≤ (a1 : Int32).toInt ∧ (a1 : Int32).toInt ≤ 63) ∨ (100 ≤ (a1 : Int32).toInt ∧ (a1 : Int32).toInt ≤ 115) ∨ (216 ≤ (a1 : Int32).toInt ∧ (a1 : Int32).toInt ≤ 343) ∨ (400 ≤ (a1 : Int32).toInt ∧ (a1 : Int32).toInt ≤ 487) ∨ (501 ≤ (a1 : Int32).toInt ∧ (a1 : Int32).toInt ≤ 516) ∨ (a1 : Int32).toInt = 520; omega))
            refine So.gd (i_in.mpr (by omega)) ?_
            refine So.gd (i_in.mpr (by omega)) ?_
            refine So.lt2 fun sMlengths_17 e_285 => ?_
            first | have f_286 := i_add (a := (sMlengths (a0.toNatClampNeg))) (b := 1) (by omega) (by omega) | have f_286 := i_addm (sMlengths (a0.toNatClampNeg)) 1
            have I_287 : A_Mlengths sMlengths_17 := by rw [e_285]; exact (A_Mlengths_upd I_sMlengths (by show 0 ≤ (((sMlengths (a0.toNatClampNeg)) + 1) : Int32).toInt ∧ (((sMlengths (a0.toNatClampNeg)) + 1) : Int32).toInt ≤ 24 ∧ ((a0.toNatClampNeg) < 16 → (((sMlengths (a0.toNatClampNeg)) + 1) : Int32).toInt ≤ 8); omega))
            refine So.gd (i_in.mpr (by omega)) ?_
            exact So.one ⟨I_191, I_284, I_287, (by show 0 ≤ (Mo_thrown sMo_5).toInt; omega), (by show (Mo_thrown sMo_5).toInt ≤ 2; omega), (by show (Mo_used sMo_5).toInt = (Mo_used sMo).toInt; omega), (by show (Mo_taped sMo_5).toInt = (Mo_taped sMo).toInt; omega), (by show (Mo_madeMany sMo_5).toInt = (Mo_madeMany sMo).toInt; omega), (by show (Mo_madeKind sMo_5).toInt = (Mo_madeKind sMo).toInt; omega), (by show (Mo_madeSubsets sMo_5).toInt = (Mo_madeSubsets sMo).toInt; omega), (by show (Mo_written sMo_5).toInt = (Mo_written sMo).toInt; omega)⟩
          · rw [i_le] at c_276
            exact So.one ⟨I_191, I_sMlists, I_sMlengths, (by show 0 ≤ (Mo_thrown sMo_5).toInt; omega), (by show (Mo_thrown sMo_5).toInt ≤ 2; omega), (by show (Mo_used sMo_5).toInt = (Mo_used sMo).toInt; omega), (by show (Mo_taped sMo_5).toInt = (Mo_taped sMo).toInt; omega), (by show (Mo_madeMany sMo_5).toInt = (Mo_madeMany sMo).toInt; omega), (by show (Mo_madeKind sMo_5).toInt = (Mo_madeKind sMo).toInt; omega), (by show (Mo_madeSubsets sMo_5).toInt = (Mo_madeSubsets sMo).toInt; omega), (by show (Mo_written sMo_5).toInt = (Mo_written sMo).toInt; omega)⟩
      · rw [i_le] at c_200
        have k_288 : (0 : Int32).toInt = 0 := by decide
        unfold Mod_append_j37
        refine So.ite (fun c_289 => ?_) (fun c_289 => ?_)
        · rw [i_eq] at c_289
          have k_290 : (16 : Int32).toInt = 16 := by decide
          refine So.gd (i_in.mpr (by omega)) ?_
          refine So.ite (fun c_291 => ?_) (fun c_291 => ?_)
          · rw [i_le] at c_291
            unfold Mod_append_j62
            refine So.ite (fun c_292 => ?_) (fun c_292 => ?_)
            · rw [i_eq] at c_292
              have f_293 := A_Mlengths_at I_sMlengths ((16 : Int32).toNatClampNeg)
              have f_294 := i_natm (16 : Int32)
              have k_295 : (8 : Int32).toInt = 8 := by decide
              refine So.lt2 fun sMo_10 e_296 => ?_
              have I_297 : I_Mo sMo_10 := by rw [e_296]; exact (I_Mo_set_thrown I_191)
              have k_298 : (2 : Int32).toInt = 2 := by decide
              have f_299 : (Mo_thrown sMo_10).toInt = (2 : Int32).toInt := by subst e_296; rfl
              have f_300 : (Mo_used sMo_10).toInt = (Mo_used sMo_5).toInt := by subst e_296; rfl
              have f_301 : (Mo_madeMany sMo_10).toInt = (Mo_madeMany sMo_5).toInt := by subst e_296; rfl
              have f_302 : (Mo_madeKind sMo_10).toInt = (Mo_madeKind sMo_5).toInt := by subst e_296; rfl
              have f_303 : (Mo_madeSubsets sMo_10).toInt = (Mo_madeSubsets sMo_5).toInt := by subst e_296; rfl
              have f_304 : (Mo_written sMo_10).toInt = (Mo_written sMo_5).toInt := by subst e_296; rfl
              have f_305 : (Mo_taped sMo_10).toInt = (Mo_taped sMo_5).toInt := by subst e_296; rfl
              unfold Mod_append_j70
              refine So.ite (fun c_306 => ?_) (fun c_306 => ?_)
              · rw [i_le] at c_306
                refine So.gd (i_in.mpr (by omega)) ?_
                have k_307 : ((24 * 16) : Int32).toInt = 384 := by decide
                first | have f_308 := i_add (a := ((24 * 16) : Int32)) (b := (sMlengths ((16 : Int32).toNatClampNeg))) (by omega) (by omega) | have f_308 := i_addm ((24 * 16) : Int32) (sMlengths ((16 : Int32).toNatClampNeg))
                refine So.gd (i_in.mpr (by omega)) ?_
                refine So.lt2 fun sMlists_14 e_309 => ?_
                have f_310 := i_natm ((24 * 16) + (sMlengths ((16 : Int32).toNatClampNeg)))
                have I_311 : A_Mlists sMlists_14 := by rw [e_309]; exact (A_Mlists_upd I_sMlists (by show (0 ≤ (a1 : Int32).toInt ∧ (a1 : Int32).toInt ≤ 63) ∨ (100 ≤ (a1 : Int32).toInt ∧ (a1 : Int32).toInt ≤ 115) ∨ (216 ≤ (a1 : Int32).toInt ∧ (a1 : Int32).toInt ≤ 343) ∨ (400 ≤ (a1 : Int32).toInt ∧ (a1 : Int32).toInt ≤ 487) ∨ (501 ≤ (a1 : Int32).toInt ∧ (a1 : Int32).toInt ≤ 516) ∨ (a1 : Int32).toInt = 520; omega))
                refine So.gd (i_in.mpr (by omega)) ?_
                refine So.gd (i_in.mpr (by omega)) ?_
                refine So.lt2 fun sMlengths_17 e_312 => ?_
                first | have f_313 := i_add (a := (sMlengths ((16 : Int32).toNatClampNeg))) (b := 1) (by omega) (by omega) | have f_313 := i_addm (sMlengths ((16 : Int32).toNatClampNeg)) 1
                have I_314 : A_Mlengths sMlengths_17 := by rw [e_312]; exact (A_Mlengths_upd I_sMlengths (by show 0 ≤ (((sMlengths ((16 : Int32).toNatClampNeg)) + 1) : Int32).toInt ∧ (((sMlengths ((16 : Int32).toNatClampNeg)) + 1) : Int32).toInt ≤ 24 ∧ (((16 : Int32).toNatClampNeg) < 16 → (((sMlengths ((16 : Int32).toNatClampNeg)) + 1) : Int32).toInt ≤ 8); omega))
                refine So.gd (i_in.mpr (by omega)) ?_
                exact So.one ⟨I_297, I_311, I_314, (by show 0 ≤ (Mo_thrown sMo_10).toInt; omega), (by show (Mo_thrown sMo_10).toInt ≤ 2; omega), (by show (Mo_used sMo_10).toInt = (Mo_used sMo).toInt; omega), (by show (Mo_taped sMo_10).toInt = (Mo_taped sMo).toInt; omega), (by show (Mo_madeMany sMo_10).toInt = (Mo_madeMany sMo).toInt; omega), (by show (Mo_madeKind sMo_10).toInt = (Mo_madeKind sMo).toInt; omega), (by show (Mo_madeSubsets sMo_10).toInt = (Mo_madeSubsets sMo).toInt; omega), (by show (Mo_written sMo_10).toInt = (Mo_written sMo).toInt; omega)⟩
              · rw [i_le] at c_306
                exact So.one ⟨I_297, I_sMlists, I_sMlengths, (by show 0 ≤ (Mo_thrown sMo_10).toInt; omega), (by show (Mo_thrown sMo_10).toInt ≤ 2; omega), (by show (Mo_used sMo_10).toInt = (Mo_used sMo).toInt; omega), (by show (Mo_taped sMo_10).toInt = (Mo_taped sMo).toInt; omega), (by show (Mo_madeMany sMo_10).toInt = (Mo_madeMany sMo).toInt; omega), (by show (Mo_madeKind sMo_10).toInt = (Mo_madeKind sMo).toInt; omega), (by show (Mo_madeSubsets sMo_10).toInt = (Mo_madeSubsets sMo).toInt; omega), (by show (Mo_written sMo_10).toInt = (Mo_written sMo).toInt; omega)⟩
            · rw [i_eq] at c_292
              have f_315 := A_Mlengths_at I_sMlengths ((16 : Int32).toNatClampNeg)
              have f_316 := i_natm (16 : Int32)
              have k_317 : (8 : Int32).toInt = 8 := by decide
              unfold Mod_append_j70
              refine So.ite (fun c_318 => ?_) (fun c_318 => ?_)
              · rw [i_le] at c_318
                refine So.gd (i_in.mpr (by omega)) ?_
                have k_319 : ((24 * 16) : Int32).toInt = 384 := by decide
                first | have f_320 := i_add (a := ((24 * 16) : Int32)) (b := (sMlengths ((16 : Int32).toNatClampNeg))) (by omega) (by omega) | have f_320 := i_addm ((24 * 16) : Int32) (sMlengths ((16 : Int32).toNatClampNeg))
                refine So.gd (i_in.mpr (by omega)) ?_
                refine So.lt2 fun sMlists_14 e_321 => ?_
                have f_322 := i_natm ((24 * 16) + (sMlengths ((16 : Int32).toNatClampNeg)))
                have I_323 : A_Mlists sMlists_14 := by rw [e_321]; exact (A_Mlists_upd I_sMlists (by show (0 ≤ (a1 : Int32).toInt ∧ (a1 : Int32).toInt ≤ 63) ∨ (100 ≤ (a1 : Int32).toInt ∧ (a1 : Int32).toInt ≤ 115) ∨ (216 ≤ (a1 : Int32).toInt ∧ (a1 : Int32).toInt ≤ 343) ∨ (400 ≤ (a1 : Int32).toInt ∧ (a1 : Int32).toInt ≤ 487) ∨ (501 ≤ (a1 : Int32).toInt ∧ (a1 : Int32).toInt ≤ 516) ∨ (a1 : Int32).toInt = 520; omega))
                refine So.gd (i_in.mpr (by omega)) ?_
                refine So.gd (i_in.mpr (by omega)) ?_
                refine So.lt2 fun sMlengths_17 e_324 => ?_
                first | have f_325 := i_add (a := (sMlengths ((16 : Int32).toNatClampNeg))) (b := 1) (by omega) (by omega) | have f_325 := i_addm (sMlengths ((16 : Int32).toNatClampNeg)) 1
                have I_326 : A_Mlengths sMlengths_17 := by rw [e_324]; exact (A_Mlengths_upd I_sMlengths (by show 0 ≤ (((sMlengths ((16 : Int32).toNatClampNeg)) + 1) : Int32).toInt ∧ (((sMlengths ((16 : Int32).toNatClampNeg)) + 1) : Int32).toInt ≤ 24 ∧ (((16 : Int32).toNatClampNeg) < 16 → (((sMlengths ((16 : Int32).toNatClampNeg)) + 1) : Int32).toInt ≤ 8); omega))
                refine So.gd (i_in.mpr (by omega)) ?_
                exact So.one ⟨I_191, I_323, I_326, (by show 0 ≤ (Mo_thrown sMo_5).toInt; omega), (by show (Mo_thrown sMo_5).toInt ≤ 2; omega), (by show (Mo_used sMo_5).toInt = (Mo_used sMo).toInt; omega), (by show (Mo_taped sMo_5).toInt = (Mo_taped sMo).toInt; omega), (by show (Mo_madeMany sMo_5).toInt = (Mo_madeMany sMo).toInt; omega), (by show (Mo_madeKind sMo_5).toInt = (Mo_madeKind sMo).toInt; omega), (by show (Mo_madeSubsets sMo_5).toInt = (Mo_madeSubsets sMo).toInt; omega), (by show (Mo_written sMo_5).toInt = (Mo_written sMo).toInt; omega)⟩
              · rw [i_le] at c_318
                exact So.one ⟨I_191, I_sMlists, I_sMlengths, (by show 0 ≤ (Mo_thrown sMo_5).toInt; omega), (by show (Mo_thrown sMo_5).toInt ≤ 2; omega), (by show (Mo_used sMo_5).toInt = (Mo_used sMo).toInt; omega), (by show (Mo_taped sMo_5).toInt = (Mo_taped sMo).toInt; omega), (by show (Mo_madeMany sMo_5).toInt = (Mo_madeMany sMo).toInt; omega), (by show (Mo_madeKind sMo_5).toInt = (Mo_madeKind sMo).toInt; omega), (by show (Mo_madeSubsets sMo_5).toInt = (Mo_madeSubsets sMo).toInt; omega), (by show (Mo_written sMo_5).toInt = (Mo_written sMo).toInt; omega)⟩
          · rw [i_le] at c_291
            unfold Mod_append_j62
            refine So.ite (fun c_327 => ?_) (fun c_327 => ?_)
            · rw [i_eq] at c_327
              have f_328 := A_Mlengths_at I_sMlengths ((16 : Int32).toNatClampNeg)
              have f_329 := i_natm (16 : Int32)
              have k_330 : (24 : Int32).toInt = 24 := by decide
              refine So.lt2 fun sMo_10 e_331 => ?_
              have I_332 : I_Mo sMo_10 := by rw [e_331]; exact (I_Mo_set_thrown I_191)
              have k_333 : (2 : Int32).toInt = 2 := by decide
              have f_334 : (Mo_thrown sMo_10).toInt = (2 : Int32).toInt := by subst e_331; rfl
              have f_335 : (Mo_used sMo_10).toInt = (Mo_used sMo_5).toInt := by subst e_331; rfl
              have f_336 : (Mo_madeMany sMo_10).toInt = (Mo_madeMany sMo_5).toInt := by subst e_331; rfl
              have f_337 : (Mo_madeKind sMo_10).toInt = (Mo_madeKind sMo_5).toInt := by subst e_331; rfl
              have f_338 : (Mo_madeSubsets sMo_10).toInt = (Mo_madeSubsets sMo_5).toInt := by subst e_331; rfl
              have f_339 : (Mo_written sMo_10).toInt = (Mo_written sMo_5).toInt := by subst e_331; rfl
              have f_340 : (Mo_taped sMo_10).toInt = (Mo_taped sMo_5).toInt := by subst e_331; rfl
              unfold Mod_append_j70
              refine So.ite (fun c_341 => ?_) (fun c_341 => ?_)
              · rw [i_le] at c_341
                refine So.gd (i_in.mpr (by omega)) ?_
                have k_342 : ((24 * 16) : Int32).toInt = 384 := by decide
                first | have f_343 := i_add (a := ((24 * 16) : Int32)) (b := (sMlengths ((16 : Int32).toNatClampNeg))) (by omega) (by omega) | have f_343 := i_addm ((24 * 16) : Int32) (sMlengths ((16 : Int32).toNatClampNeg))
                refine So.gd (i_in.mpr (by omega)) ?_
                refine So.lt2 fun sMlists_14 e_344 => ?_
                have f_345 := i_natm ((24 * 16) + (sMlengths ((16 : Int32).toNatClampNeg)))
                have I_346 : A_Mlists sMlists_14 := by rw [e_344]; exact (A_Mlists_upd I_sMlists (by show (0 ≤ (a1 : Int32).toInt ∧ (a1 : Int32).toInt ≤ 63) ∨ (100 ≤ (a1 : Int32).toInt ∧ (a1 : Int32).toInt ≤ 115) ∨ (216 ≤ (a1 : Int32).toInt ∧ (a1 : Int32).toInt ≤ 343) ∨ (400 ≤ (a1 : Int32).toInt ∧ (a1 : Int32).toInt ≤ 487) ∨ (501 ≤ (a1 : Int32).toInt ∧ (a1 : Int32).toInt ≤ 516) ∨ (a1 : Int32).toInt = 520; omega))
                refine So.gd (i_in.mpr (by omega)) ?_
                refine So.gd (i_in.mpr (by omega)) ?_
                refine So.lt2 fun sMlengths_17 e_347 => ?_
                first | have f_348 := i_add (a := (sMlengths ((16 : Int32).toNatClampNeg))) (b := 1) (by omega) (by omega) | have f_348 := i_addm (sMlengths ((16 : Int32).toNatClampNeg)) 1
                have I_349 : A_Mlengths sMlengths_17 := by rw [e_347]; exact (A_Mlengths_upd I_sMlengths (by show 0 ≤ (((sMlengths ((16 : Int32).toNatClampNeg)) + 1) : Int32).toInt ∧ (((sMlengths ((16 : Int32).toNatClampNeg)) + 1) : Int32).toInt ≤ 24 ∧ (((16 : Int32).toNatClampNeg) < 16 → (((sMlengths ((16 : Int32).toNatClampNeg)) + 1) : Int32).toInt ≤ 8); omega))
                refine So.gd (i_in.mpr (by omega)) ?_
                exact So.one ⟨I_332, I_346, I_349, (by show 0 ≤ (Mo_thrown sMo_10).toInt; omega), (by show (Mo_thrown sMo_10).toInt ≤ 2; omega), (by show (Mo_used sMo_10).toInt = (Mo_used sMo).toInt; omega), (by show (Mo_taped sMo_10).toInt = (Mo_taped sMo).toInt; omega), (by show (Mo_madeMany sMo_10).toInt = (Mo_madeMany sMo).toInt; omega), (by show (Mo_madeKind sMo_10).toInt = (Mo_madeKind sMo).toInt; omega), (by show (Mo_madeSubsets sMo_10).toInt = (Mo_madeSubsets sMo).toInt; omega), (by show (Mo_written sMo_10).toInt = (Mo_written sMo).toInt; omega)⟩
              · rw [i_le] at c_341
                exact So.one ⟨I_332, I_sMlists, I_sMlengths, (by show 0 ≤ (Mo_thrown sMo_10).toInt; omega), (by show (Mo_thrown sMo_10).toInt ≤ 2; omega), (by show (Mo_used sMo_10).toInt = (Mo_used sMo).toInt; omega), (by show (Mo_taped sMo_10).toInt = (Mo_taped sMo).toInt; omega), (by show (Mo_madeMany sMo_10).toInt = (Mo_madeMany sMo).toInt; omega), (by show (Mo_madeKind sMo_10).toInt = (Mo_madeKind sMo).toInt; omega), (by show (Mo_madeSubsets sMo_10).toInt = (Mo_madeSubsets sMo).toInt; omega), (by show (Mo_written sMo_10).toInt = (Mo_written sMo).toInt; omega)⟩
            · rw [i_eq] at c_327
              have f_350 := A_Mlengths_at I_sMlengths ((16 : Int32).toNatClampNeg)
              have f_351 := i_natm (16 : Int32)
              have k_352 : (24 : Int32).toInt = 24 := by decide
              unfold Mod_append_j70
              refine So.ite (fun c_353 => ?_) (fun c_353 => ?_)
              · rw [i_le] at c_353
                refine So.gd (i_in.mpr (by omega)) ?_
                have k_354 : ((24 * 16) : Int32).toInt = 384 := by decide
                first | have f_355 := i_add (a := ((24 * 16) : Int32)) (b := (sMlengths ((16 : Int32).toNatClampNeg))) (by omega) (by omega) | have f_355 := i_addm ((24 * 16) : Int32) (sMlengths ((16 : Int32).toNatClampNeg))
                refine So.gd (i_in.mpr (by omega)) ?_
                refine So.lt2 fun sMlists_14 e_356 => ?_
                have f_357 := i_natm ((24 * 16) + (sMlengths ((16 : Int32).toNatClampNeg)))
                have I_358 : A_Mlists sMlists_14 := by rw [e_356]; exact (A_Mlists_upd I_sMlists (by show (0 ≤ (a1 : Int32).toInt ∧ (a1 : Int32).toInt ≤ 63) ∨ (100 ≤ (a1 : Int32).toInt ∧ (a1 : Int32).toInt ≤ 115) ∨ (216 ≤ (a1 : Int32).toInt ∧ (a1 : Int32).toInt ≤ 343) ∨ (400 ≤ (a1 : Int32).toInt ∧ (a1 : Int32).toInt ≤ 487) ∨ (501 ≤ (a1 : Int32).toInt ∧ (a1 : Int32).toInt ≤ 516) ∨ (a1 : Int32).toInt = 520; omega))
                refine So.gd (i_in.mpr (by omega)) ?_
                refine So.gd (i_in.mpr (by omega)) ?_
                refine So.lt2 fun sMlengths_17 e_359 => ?_
                first | have f_360 := i_add (a := (sMlengths ((16 : Int32).toNatClampNeg))) (b := 1) (by omega) (by omega) | have f_360 := i_addm (sMlengths ((16 : Int32).toNatClampNeg)) 1
                have I_361 : A_Mlengths sMlengths_17 := by rw [e_359]; exact (A_Mlengths_upd I_sMlengths (by show 0 ≤ (((sMlengths ((16 : Int32).toNatClampNeg)) + 1) : Int32).toInt ∧ (((sMlengths ((16 : Int32).toNatClampNeg)) + 1) : Int32).toInt ≤ 24 ∧ (((16 : Int32).toNatClampNeg) < 16 → (((sMlengths ((16 : Int32).toNatClampNeg)) + 1) : Int32).toInt ≤ 8); omega))
                refine So.gd (i_in.mpr (by omega)) ?_
                exact So.one ⟨I_191, I_358, I_361, (by show 0 ≤ (Mo_thrown sMo_5).toInt; omega), (by show (Mo_thrown sMo_5).toInt ≤ 2; omega), (by show (Mo_used sMo_5).toInt = (Mo_used sMo).toInt; omega), (by show (Mo_taped sMo_5).toInt = (Mo_taped sMo).toInt; omega), (by show (Mo_madeMany sMo_5).toInt = (Mo_madeMany sMo).toInt; omega), (by show (Mo_madeKind sMo_5).toInt = (Mo_madeKind sMo).toInt; omega), (by show (Mo_madeSubsets sMo_5).toInt = (Mo_madeSubsets sMo).toInt; omega), (by show (Mo_written sMo_5).toInt = (Mo_written sMo).toInt; omega)⟩
              · rw [i_le] at c_353
                exact So.one ⟨I_191, I_sMlists, I_sMlengths, (by show 0 ≤ (Mo_thrown sMo_5).toInt; omega), (by show (Mo_thrown sMo_5).toInt ≤ 2; omega), (by show (Mo_used sMo_5).toInt = (Mo_used sMo).toInt; omega), (by show (Mo_taped sMo_5).toInt = (Mo_taped sMo).toInt; omega), (by show (Mo_madeMany sMo_5).toInt = (Mo_madeMany sMo).toInt; omega), (by show (Mo_madeKind sMo_5).toInt = (Mo_madeKind sMo).toInt; omega), (by show (Mo_madeSubsets sMo_5).toInt = (Mo_madeSubsets sMo).toInt; omega), (by show (Mo_written sMo_5).toInt = (Mo_written sMo).toInt; omega)⟩
        · rw [i_eq] at c_289
          unfold Mod_append_j70
          refine So.ite (fun c_362 => ?_) (fun c_362 => ?_)
          · rw [i_le] at c_362
            have k_363 : (16 : Int32).toInt = 16 := by decide
            refine So.gd (i_in.mpr (by omega)) ?_
            have k_364 : ((24 * 16) : Int32).toInt = 384 := by decide
            have f_365 := A_Mlengths_at I_sMlengths ((16 : Int32).toNatClampNeg)
            have f_366 := i_natm (16 : Int32)
            first | have f_367 := i_add (a := ((24 * 16) : Int32)) (b := (sMlengths ((16 : Int32).toNatClampNeg))) (by omega) (by omega) | have f_367 := i_addm ((24 * 16) : Int32) (sMlengths ((16 : Int32).toNatClampNeg))
            refine So.gd (i_in.mpr (by omega)) ?_
            refine So.lt2 fun sMlists_14 e_368 => ?_
            have f_369 := i_natm ((24 * 16) + (sMlengths ((16 : Int32).toNatClampNeg)))
            have I_370 : A_Mlists sMlists_14 := by rw [e_368]; exact (A_Mlists_upd I_sMlists (by show (0 ≤ (a1 : Int32).toInt ∧ (a1 : Int32).toInt ≤ 63) ∨ (100 ≤ (a1 : Int32).toInt ∧ (a1 : Int32).toInt ≤ 115) ∨ (216 ≤ (a1 : Int32).toInt ∧ (a1 : Int32).toInt ≤ 343) ∨ (400 ≤ (a1 : Int32).toInt ∧ (a1 : Int32).toInt ≤ 487) ∨ (501 ≤ (a1 : Int32).toInt ∧ (a1 : Int32).toInt ≤ 516) ∨ (a1 : Int32).toInt = 520; omega))
            refine So.gd (i_in.mpr (by omega)) ?_
            refine So.gd (i_in.mpr (by omega)) ?_
            refine So.lt2 fun sMlengths_17 e_371 => ?_
            first | have f_372 := i_add (a := (sMlengths ((16 : Int32).toNatClampNeg))) (b := 1) (by omega) (by omega) | have f_372 := i_addm (sMlengths ((16 : Int32).toNatClampNeg)) 1
            have I_373 : A_Mlengths sMlengths_17 := by rw [e_371]; exact (A_Mlengths_upd I_sMlengths (by show 0 ≤ (((sMlengths ((16 : Int32).toNatClampNeg)) + 1) : Int32).toInt ∧ (((sMlengths ((16 : Int32).toNatClampNeg)) + 1) : Int32).toInt ≤ 24 ∧ (((16 : Int32).toNatClampNeg) < 16 → (((sMlengths ((16 : Int32).toNatClampNeg)) + 1) : Int32).toInt ≤ 8); omega))
            refine So.gd (i_in.mpr (by omega)) ?_
            exact So.one ⟨I_191, I_370, I_373, (by show 0 ≤ (Mo_thrown sMo_5).toInt; omega), (by show (Mo_thrown sMo_5).toInt ≤ 2; omega), (by show (Mo_used sMo_5).toInt = (Mo_used sMo).toInt; omega), (by show (Mo_taped sMo_5).toInt = (Mo_taped sMo).toInt; omega), (by show (Mo_madeMany sMo_5).toInt = (Mo_madeMany sMo).toInt; omega), (by show (Mo_madeKind sMo_5).toInt = (Mo_madeKind sMo).toInt; omega), (by show (Mo_madeSubsets sMo_5).toInt = (Mo_madeSubsets sMo).toInt; omega), (by show (Mo_written sMo_5).toInt = (Mo_written sMo).toInt; omega)⟩
          · rw [i_le] at c_362
            exact So.one ⟨I_191, I_sMlists, I_sMlengths, (by show 0 ≤ (Mo_thrown sMo_5).toInt; omega), (by show (Mo_thrown sMo_5).toInt ≤ 2; omega), (by show (Mo_used sMo_5).toInt = (Mo_used sMo).toInt; omega), (by show (Mo_taped sMo_5).toInt = (Mo_taped sMo).toInt; omega), (by show (Mo_madeMany sMo_5).toInt = (Mo_madeMany sMo).toInt; omega), (by show (Mo_madeKind sMo_5).toInt = (Mo_madeKind sMo).toInt; omega), (by show (Mo_madeSubsets sMo_5).toInt = (Mo_madeSubsets sMo).toInt; omega), (by show (Mo_written sMo_5).toInt = (Mo_written sMo).toInt; omega)⟩
    · rw [i_lt] at c_188
      have k_374 : (15 : Int32).toInt = 15 := by decide
      refine So.bd (t_Mod_isDescriptor ) fun q1 h_375 => ?_
      have p_376 := h_375
      refine So.ite (fun c_377 => ?_) (fun c_377 => ?_)
      · rw [i_eq] at c_377
        have k_378 : (0 : Int32).toInt = 0 := by decide
        unfold Mod_append_j19
        unfold Mod_append_j24
        refine So.lt2 fun sMo_5 e_379 => ?_
        have I_380 : I_Mo sMo_5 := by rw [e_379]; exact (I_Mo_set_thrown I_sMo)
        have k_381 : (1 : Int32).toInt = 1 := by decide
        have f_382 : (Mo_thrown sMo_5).toInt = (1 : Int32).toInt := by subst e_379; rfl
        have f_383 : (Mo_used sMo_5).toInt = (Mo_used sMo).toInt := by subst e_379; rfl
        have f_384 : (Mo_madeMany sMo_5).toInt = (Mo_madeMany sMo).toInt := by subst e_379; rfl
        have f_385 : (Mo_madeKind sMo_5).toInt = (Mo_madeKind sMo).toInt := by subst e_379; rfl
        have f_386 : (Mo_madeSubsets sMo_5).toInt = (Mo_madeSubsets sMo).toInt := by subst e_379; rfl
        have f_387 : (Mo_written sMo_5).toInt = (Mo_written sMo).toInt := by subst e_379; rfl
        have f_388 : (Mo_taped sMo_5).toInt = (Mo_taped sMo).toInt := by subst e_379; rfl
        refine So.ite (fun c_389 => ?_) (fun c_389 => ?_)
        · rw [i_le] at c_389
          unfold Mod_append_j37
          refine So.ite (fun c_390 => ?_) (fun c_390 => ?_)
          · rw [i_eq] at c_390
            refine So.gd (i_in.mpr (by omega)) ?_
            refine So.ite (fun c_391 => ?_) (fun c_391 => ?_)
            · rw [i_le] at c_391
              unfold Mod_append_j62
              refine So.ite (fun c_392 => ?_) (fun c_392 => ?_)
              · rw [i_eq] at c_392
                have f_393 := A_Mlengths_at I_sMlengths (a0.toNatClampNeg)
                have f_394 := i_natm a0
                have k_395 : (8 : Int32).toInt = 8 := by decide
                refine So.lt2 fun sMo_10 e_396 => ?_
                have I_397 : I_Mo sMo_10 := by rw [e_396]; exact (I_Mo_set_thrown I_380)
                have k_398 : (2 : Int32).toInt = 2 := by decide
                have f_399 : (Mo_thrown sMo_10).toInt = (2 : Int32).toInt := by subst e_396; rfl
                have f_400 : (Mo_used sMo_10).toInt = (Mo_used sMo_5).toInt := by subst e_396; rfl
                have f_401 : (Mo_madeMany sMo_10).toInt = (Mo_madeMany sMo_5).toInt := by subst e_396; rfl
                have f_402 : (Mo_madeKind sMo_10).toInt = (Mo_madeKind sMo_5).toInt := by subst e_396; rfl
                have f_403 : (Mo_madeSubsets sMo_10).toInt = (Mo_madeSubsets sMo_5).toInt := by subst e_396; rfl
                have f_404 : (Mo_written sMo_10).toInt = (Mo_written sMo_5).toInt := by subst e_396; rfl
                have f_405 : (Mo_taped sMo_10).toInt = (Mo_taped sMo_5).toInt := by subst e_396; rfl
                unfold Mod_append_j70
                refine So.ite (fun c_406 => ?_) (fun c_406 => ?_)
                · rw [i_le] at c_406
                  refine So.gd (i_in.mpr (by omega)) ?_
                  have k_407 : (24 : Int32).toInt = 24 := by decide
                  first | have f_408 := i_mull 24 a0 (24) (by decide) (by omega) (by omega) | have f_408 := i_mullm 24 a0 (24) (by decide)
                  first | have f_409 := i_add (a := (24 * a0)) (b := (sMlengths (a0.toNatClampNeg))) (by omega) (by omega) | have f_409 := i_addm (24 * a0) (sMlengths (a0.toNatClampNeg))
                  refine So.gd (i_in.mpr (by omega)) ?_
                  refine So.lt2 fun sMlists_14 e_410 => ?_
                  have f_411 := i_natm ((24 * a0) + (sMlengths (a0.toNatClampNeg)))
                  have I_412 : A_Mlists sMlists_14 := by rw [e_410]; exact (A_Mlists_upd I_sMlists (by show (0 ≤ (a1 : Int32).toInt ∧ (a1 : Int32).toInt ≤ 63) ∨ (100 ≤ (a1 : Int32).toInt ∧ (a1 : Int32).toInt ≤ 115) ∨ (216 ≤ (a1 : Int32).toInt ∧ (a1 : Int32).toInt ≤ 343) ∨ (400 ≤ (a1 : Int32).toInt ∧ (a1 : Int32).toInt ≤ 487) ∨ (501 ≤ (a1 : Int32).toInt ∧ (a1 : Int32).toInt ≤ 516) ∨ (a1 : Int32).toInt = 520; omega))
                  refine So.gd (i_in.mpr (by omega)) ?_
                  refine So.gd (i_in.mpr (by omega)) ?_
                  refine So.lt2 fun sMlengths_17 e_413 => ?_
                  first | have f_414 := i_add (a := (sMlengths (a0.toNatClampNeg))) (b := 1) (by omega) (by omega) | have f_414 := i_addm (sMlengths (a0.toNatClampNeg)) 1
                  have I_415 : A_Mlengths sMlengths_17 := by rw [e_413]; exact (A_Mlengths_upd I_sMlengths (by show 0 ≤ (((sMlengths (a0.toNatClampNeg)) + 1) : Int32).toInt ∧ (((sMlengths (a0.toNatClampNeg)) + 1) : Int32).toInt ≤ 24 ∧ ((a0.toNatClampNeg) < 16 → (((sMlengths (a0.toNatClampNeg)) + 1) : Int32).toInt ≤ 8); omega))
                  refine So.gd (i_in.mpr (by omega)) ?_
                  exact So.one ⟨I_397, I_412, I_415, (by show 0 ≤ (Mo_thrown sMo_10).toInt; omega), (by show (Mo_thrown sMo_10).toInt ≤ 2; omega), (by show (Mo_used sMo_10).toInt = (Mo_used sMo).toInt; omega), (by show (Mo_taped sMo_10).toInt = (Mo_taped sMo).toInt; omega), (by show (Mo_madeMany sMo_10).toInt = (Mo_madeMany sMo).toInt; omega), (by show (Mo_madeKind sMo_10).toInt = (Mo_madeKind sMo).toInt; omega), (by show (Mo_madeSubsets sMo_10).toInt = (Mo_madeSubsets sMo).toInt; omega), (by show (Mo_written sMo_10).toInt = (Mo_written sMo).toInt; omega)⟩
                · rw [i_le] at c_406
                  exact So.one ⟨I_397, I_sMlists, I_sMlengths, (by show 0 ≤ (Mo_thrown sMo_10).toInt; omega), (by show (Mo_thrown sMo_10).toInt ≤ 2; omega), (by show (Mo_used sMo_10).toInt = (Mo_used sMo).toInt; omega), (by show (Mo_taped sMo_10).toInt = (Mo_taped sMo).toInt; omega), (by show (Mo_madeMany sMo_10).toInt = (Mo_madeMany sMo).toInt; omega), (by show (Mo_madeKind sMo_10).toInt = (Mo_madeKind sMo).toInt; omega), (by show (Mo_madeSubsets sMo_10).toInt = (Mo_madeSubsets sMo).toInt; omega), (by show (Mo_written sMo_10).toInt = (Mo_written sMo).toInt; omega)⟩
              · rw [i_eq] at c_392
                have f_416 := A_Mlengths_at I_sMlengths (a0.toNatClampNeg)
                have f_417 := i_natm a0
                have k_418 : (8 : Int32).toInt = 8 := by decide
                unfold Mod_append_j70
                refine So.ite (fun c_419 => ?_) (fun c_419 => ?_)
                · rw [i_le] at c_419
                  refine So.gd (i_in.mpr (by omega)) ?_
                  have k_420 : (24 : Int32).toInt = 24 := by decide
                  first | have f_421 := i_mull 24 a0 (24) (by decide) (by omega) (by omega) | have f_421 := i_mullm 24 a0 (24) (by decide)
                  first | have f_422 := i_add (a := (24 * a0)) (b := (sMlengths (a0.toNatClampNeg))) (by omega) (by omega) | have f_422 := i_addm (24 * a0) (sMlengths (a0.toNatClampNeg))
                  refine So.gd (i_in.mpr (by omega)) ?_
                  refine So.lt2 fun sMlists_14 e_423 => ?_
                  have f_424 := i_natm ((24 * a0) + (sMlengths (a0.toNatClampNeg)))
                  have I_425 : A_Mlists sMlists_14 := by rw [e_423]; exact (A_Mlists_upd I_sMlists (by show (0 ≤ (a1 : Int32).toInt ∧ (a1 : Int32).toInt ≤ 63) ∨ (100 ≤ (a1 : Int32).toInt ∧ (a1 : Int32).toInt ≤ 115) ∨ (216 ≤ (a1 : Int32).toInt ∧ (a1 : Int32).toInt ≤ 343) ∨ (400 ≤ (a1 : Int32).toInt ∧ (a1 : Int32).toInt ≤ 487) ∨ (501 ≤ (a1 : Int32).toInt ∧ (a1 : Int32).toInt ≤ 516) ∨ (a1 : Int32).toInt = 520; omega))
                  refine So.gd (i_in.mpr (by omega)) ?_
                  refine So.gd (i_in.mpr (by omega)) ?_
                  refine So.lt2 fun sMlengths_17 e_426 => ?_
                  first | have f_427 := i_add (a := (sMlengths (a0.toNatClampNeg))) (b := 1) (by omega) (by omega) | have f_427 := i_addm (sMlengths (a0.toNatClampNeg)) 1
                  have I_428 : A_Mlengths sMlengths_17 := by rw [e_426]; exact (A_Mlengths_upd I_sMlengths (by show 0 ≤ (((sMlengths (a0.toNatClampNeg)) + 1) : Int32).toInt ∧ (((sMlengths (a0.toNatClampNeg)) + 1) : Int32).toInt ≤ 24 ∧ ((a0.toNatClampNeg) < 16 → (((sMlengths (a0.toNatClampNeg)) + 1) : Int32).toInt ≤ 8); omega))
                  refine So.gd (i_in.mpr (by omega)) ?_
                  exact So.one ⟨I_380, I_425, I_428, (by show 0 ≤ (Mo_thrown sMo_5).toInt; omega), (by show (Mo_thrown sMo_5).toInt ≤ 2; omega), (by show (Mo_used sMo_5).toInt = (Mo_used sMo).toInt; omega), (by show (Mo_taped sMo_5).toInt = (Mo_taped sMo).toInt; omega), (by show (Mo_madeMany sMo_5).toInt = (Mo_madeMany sMo).toInt; omega), (by show (Mo_madeKind sMo_5).toInt = (Mo_madeKind sMo).toInt; omega), (by show (Mo_madeSubsets sMo_5).toInt = (Mo_madeSubsets sMo).toInt; omega), (by show (Mo_written sMo_5).toInt = (Mo_written sMo).toInt; omega)⟩
                · rw [i_le] at c_419
                  exact So.one ⟨I_380, I_sMlists, I_sMlengths, (by show 0 ≤ (Mo_thrown sMo_5).toInt; omega), (by show (Mo_thrown sMo_5).toInt ≤ 2; omega), (by show (Mo_used sMo_5).toInt = (Mo_used sMo).toInt; omega), (by show (Mo_taped sMo_5).toInt = (Mo_taped sMo).toInt; omega), (by show (Mo_madeMany sMo_5).toInt = (Mo_madeMany sMo).toInt; omega), (by show (Mo_madeKind sMo_5).toInt = (Mo_madeKind sMo).toInt; omega), (by show (Mo_madeSubsets sMo_5).toInt = (Mo_madeSubsets sMo).toInt; omega), (by show (Mo_written sMo_5).toInt = (Mo_written sMo).toInt; omega)⟩
            · rw [i_le] at c_391
              unfold Mod_append_j62
              refine So.ite (fun c_429 => ?_) (fun c_429 => ?_)
              · rw [i_eq] at c_429
                have f_430 := A_Mlengths_at I_sMlengths (a0.toNatClampNeg)
                have f_431 := i_natm a0
                have k_432 : (24 : Int32).toInt = 24 := by decide
                refine So.lt2 fun sMo_10 e_433 => ?_
                have I_434 : I_Mo sMo_10 := by rw [e_433]; exact (I_Mo_set_thrown I_380)
                have k_435 : (2 : Int32).toInt = 2 := by decide
                have f_436 : (Mo_thrown sMo_10).toInt = (2 : Int32).toInt := by subst e_433; rfl
                have f_437 : (Mo_used sMo_10).toInt = (Mo_used sMo_5).toInt := by subst e_433; rfl
                have f_438 : (Mo_madeMany sMo_10).toInt = (Mo_madeMany sMo_5).toInt := by subst e_433; rfl
                have f_439 : (Mo_madeKind sMo_10).toInt = (Mo_madeKind sMo_5).toInt := by subst e_433; rfl
                have f_440 : (Mo_madeSubsets sMo_10).toInt = (Mo_madeSubsets sMo_5).toInt := by subst e_433; rfl
                have f_441 : (Mo_written sMo_10).toInt = (Mo_written sMo_5).toInt := by subst e_433; rfl
                have f_442 : (Mo_taped sMo_10).toInt = (Mo_taped sMo_5).toInt := by subst e_433; rfl
                unfold Mod_append_j70
                refine So.ite (fun c_443 => ?_) (fun c_443 => ?_)
                · rw [i_le] at c_443
                  refine So.gd (i_in.mpr (by omega)) ?_
                  first | have f_444 := i_mull 24 a0 (24) (by decide) (by omega) (by omega) | have f_444 := i_mullm 24 a0 (24) (by decide)
                  first | have f_445 := i_add (a := (24 * a0)) (b := (sMlengths (a0.toNatClampNeg))) (by omega) (by omega) | have f_445 := i_addm (24 * a0) (sMlengths (a0.toNatClampNeg))
                  refine So.gd (i_in.mpr (by omega)) ?_
                  refine So.lt2 fun sMlists_14 e_446 => ?_
                  have f_447 := i_natm ((24 * a0) + (sMlengths (a0.toNatClampNeg)))
                  have I_448 : A_Mlists sMlists_14 := by rw [e_446]; exact (A_Mlists_upd I_sMlists (by show (0 ≤ (a1 : Int32).toInt ∧ (a1 : Int32).toInt ≤ 63) ∨ (100 ≤ (a1 : Int32).toInt ∧ (a1 : Int32).toInt ≤ 115) ∨ (216 ≤ (a1 : Int32).toInt ∧ (a1 : Int32).toInt ≤ 343) ∨ (400 ≤ (a1 : Int32).toInt ∧ (a1 : Int32).toInt ≤ 487) ∨ (501 ≤ (a1 : Int32).toInt ∧ (a1 : Int32).toInt ≤ 516) ∨ (a1 : Int32).toInt = 520; omega))
                  refine So.gd (i_in.mpr (by omega)) ?_
                  refine So.gd (i_in.mpr (by omega)) ?_
                  refine So.lt2 fun sMlengths_17 e_449 => ?_
                  first | have f_450 := i_add (a := (sMlengths (a0.toNatClampNeg))) (b := 1) (by omega) (by omega) | have f_450 := i_addm (sMlengths (a0.toNatClampNeg)) 1
                  have I_451 : A_Mlengths sMlengths_17 := by rw [e_449]; exact (A_Mlengths_upd I_sMlengths (by show 0 ≤ (((sMlengths (a0.toNatClampNeg)) + 1) : Int32).toInt ∧ (((sMlengths (a0.toNatClampNeg)) + 1) : Int32).toInt ≤ 24 ∧ ((a0.toNatClampNeg) < 16 → (((sMlengths (a0.toNatClampNeg)) + 1) : Int32).toInt ≤ 8); omega))
                  refine So.gd (i_in.mpr (by omega)) ?_
                  exact So.one ⟨I_434, I_448, I_451, (by show 0 ≤ (Mo_thrown sMo_10).toInt; omega), (by show (Mo_thrown sMo_10).toInt ≤ 2; omega), (by show (Mo_used sMo_10).toInt = (Mo_used sMo).toInt; omega), (by show (Mo_taped sMo_10).toInt = (Mo_taped sMo).toInt; omega), (by show (Mo_madeMany sMo_10).toInt = (Mo_madeMany sMo).toInt; omega), (by show (Mo_madeKind sMo_10).toInt = (Mo_madeKind sMo).toInt; omega), (by show (Mo_madeSubsets sMo_10).toInt = (Mo_madeSubsets sMo).toInt; omega), (by show (Mo_written sMo_10).toInt = (Mo_written sMo).toInt; omega)⟩
                · rw [i_le] at c_443
                  exact So.one ⟨I_434, I_sMlists, I_sMlengths, (by show 0 ≤ (Mo_thrown sMo_10).toInt; omega), (by show (Mo_thrown sMo_10).toInt ≤ 2; omega), (by show (Mo_used sMo_10).toInt = (Mo_used sMo).toInt; omega), (by show (Mo_taped sMo_10).toInt = (Mo_taped sMo).toInt; omega), (by show (Mo_madeMany sMo_10).toInt = (Mo_madeMany sMo).toInt; omega), (by show (Mo_madeKind sMo_10).toInt = (Mo_madeKind sMo).toInt; omega), (by show (Mo_madeSubsets sMo_10).toInt = (Mo_madeSubsets sMo).toInt; omega), (by show (Mo_written sMo_10).toInt = (Mo_written sMo).toInt; omega)⟩
              · rw [i_eq] at c_429
                have f_452 := A_Mlengths_at I_sMlengths (a0.toNatClampNeg)
                have f_453 := i_natm a0
                have k_454 : (24 : Int32).toInt = 24 := by decide
                unfold Mod_append_j70
                refine So.ite (fun c_455 => ?_) (fun c_455 => ?_)
                · rw [i_le] at c_455
                  refine So.gd (i_in.mpr (by omega)) ?_
                  first | have f_456 := i_mull 24 a0 (24) (by decide) (by omega) (by omega) | have f_456 := i_mullm 24 a0 (24) (by decide)
                  first | have f_457 := i_add (a := (24 * a0)) (b := (sMlengths (a0.toNatClampNeg))) (by omega) (by omega) | have f_457 := i_addm (24 * a0) (sMlengths (a0.toNatClampNeg))
                  refine So.gd (i_in.mpr (by omega)) ?_
                  refine So.lt2 fun sMlists_14 e_458 => ?_
                  have f_459 := i_natm ((24 * a0) + (sMlengths (a0.toNatClampNeg)))
                  have I_460 : A_Mlists sMlists_14 := by rw [e_458]; exact (A_Mlists_upd I_sMlists (by show (0 ≤ (a1 : Int32).toInt ∧ (a1 : Int32).toInt ≤ 63) ∨ (100 ≤ (a1 : Int32).toInt ∧ (a1 : Int32).toInt ≤ 115) ∨ (216 ≤ (a1 : Int32).toInt ∧ (a1 : Int32).toInt ≤ 343) ∨ (400 ≤ (a1 : Int32).toInt ∧ (a1 : Int32).toInt ≤ 487) ∨ (501 ≤ (a1 : Int32).toInt ∧ (a1 : Int32).toInt ≤ 516) ∨ (a1 : Int32).toInt = 520; omega))
                  refine So.gd (i_in.mpr (by omega)) ?_
                  refine So.gd (i_in.mpr (by omega)) ?_
                  refine So.lt2 fun sMlengths_17 e_461 => ?_
                  first | have f_462 := i_add (a := (sMlengths (a0.toNatClampNeg))) (b := 1) (by omega) (by omega) | have f_462 := i_addm (sMlengths (a0.toNatClampNeg)) 1
                  have I_463 : A_Mlengths sMlengths_17 := by rw [e_461]; exact (A_Mlengths_upd I_sMlengths (by show 0 ≤ (((sMlengths (a0.toNatClampNeg)) + 1) : Int32).toInt ∧ (((sMlengths (a0.toNatClampNeg)) + 1) : Int32).toInt ≤ 24 ∧ ((a0.toNatClampNeg) < 16 → (((sMlengths (a0.toNatClampNeg)) + 1) : Int32).toInt ≤ 8); omega))
                  refine So.gd (i_in.mpr (by omega)) ?_
                  exact So.one ⟨I_380, I_460, I_463, (by show 0 ≤ (Mo_thrown sMo_5).toInt; omega), (by show (Mo_thrown sMo_5).toInt ≤ 2; omega), (by show (Mo_used sMo_5).toInt = (Mo_used sMo).toInt; omega), (by show (Mo_taped sMo_5).toInt = (Mo_taped sMo).toInt; omega), (by show (Mo_madeMany sMo_5).toInt = (Mo_madeMany sMo).toInt; omega), (by show (Mo_madeKind sMo_5).toInt = (Mo_madeKind sMo).toInt; omega), (by show (Mo_madeSubsets sMo_5).toInt = (Mo_madeSubsets sMo).toInt; omega), (by show (Mo_written sMo_5).toInt = (Mo_written sMo).toInt; omega)⟩
                · rw [i_le] at c_455
                  exact So.one ⟨I_380, I_sMlists, I_sMlengths, (by show 0 ≤ (Mo_thrown sMo_5).toInt; omega), (by show (Mo_thrown sMo_5).toInt ≤ 2; omega), (by show (Mo_used sMo_5).toInt = (Mo_used sMo).toInt; omega), (by show (Mo_taped sMo_5).toInt = (Mo_taped sMo).toInt; omega), (by show (Mo_madeMany sMo_5).toInt = (Mo_madeMany sMo).toInt; omega), (by show (Mo_madeKind sMo_5).toInt = (Mo_madeKind sMo).toInt; omega), (by show (Mo_madeSubsets sMo_5).toInt = (Mo_madeSubsets sMo).toInt; omega), (by show (Mo_written sMo_5).toInt = (Mo_written sMo).toInt; omega)⟩
          · rw [i_eq] at c_390
            unfold Mod_append_j70
            refine So.ite (fun c_464 => ?_) (fun c_464 => ?_)
            · rw [i_le] at c_464
              refine So.gd (i_in.mpr (by omega)) ?_
              have k_465 : (24 : Int32).toInt = 24 := by decide
              first | have f_466 := i_mull 24 a0 (24) (by decide) (by omega) (by omega) | have f_466 := i_mullm 24 a0 (24) (by decide)
              have f_467 := A_Mlengths_at I_sMlengths (a0.toNatClampNeg)
              have f_468 := i_natm a0
              first | have f_469 := i_add (a := (24 * a0)) (b := (sMlengths (a0.toNatClampNeg))) (by omega) (by omega) | have f_469 := i_addm (24 * a0) (sMlengths (a0.toNatClampNeg))
              refine So.gd (i_in.mpr (by omega)) ?_
              refine So.lt2 fun sMlists_14 e_470 => ?_
              have f_471 := i_natm ((24 * a0) + (sMlengths (a0.toNatClampNeg)))
              have I_472 : A_Mlists sMlists_14 := by rw [e_470]; exact (A_Mlists_upd I_sMlists (by show (0 ≤ (a1 : Int32).toInt ∧ (a1 : Int32).toInt ≤ 63) ∨ (100 ≤ (a1 : Int32).toInt ∧ (a1 : Int32).toInt ≤ 115) ∨ (216 ≤ (a1 : Int32).toInt ∧ (a1 : Int32).toInt ≤ 343) ∨ (400 ≤ (a1 : Int32).toInt ∧ (a1 : Int32).toInt ≤ 487) ∨ (501 ≤ (a1 : Int32).toInt ∧ (a1 : Int32).toInt ≤ 516) ∨ (a1 : Int32).toInt = 520; omega))
              refine So.gd (i_in.mpr (by omega)) ?_
              refine So.gd (i_in.mpr (by omega)) ?_
              refine So.lt2 fun sMlengths_17 e_473 => ?_
              first | have f_474 := i_add (a := (sMlengths (a0.toNatClampNeg))) (b := 1) (by omega) (by omega) | have f_474 := i_addm (sMlengths (a0.toNatClampNeg)) 1
              have I_475 : A_Mlengths sMlengths_17 := by rw [e_473]; exact (A_Mlengths_upd I_sMlengths (by show 0 ≤ (((sMlengths (a0.toNatClampNeg)) + 1) : Int32).toInt ∧ (((sMlengths (a0.toNatClampNeg)) + 1) : Int32).toInt ≤ 24 ∧ ((a0.toNatClampNeg) < 16 → (((sMlengths (a0.toNatClampNeg)) + 1) : Int32).toInt ≤ 8); omega))
              refine So.gd (i_in.mpr (by omega)) ?_
              exact So.one ⟨I_380, I_472, I_475, (by show 0 ≤ (Mo_thrown sMo_5).toInt; omega), (by show (Mo_thrown sMo_5).toInt ≤ 2; omega), (by show (Mo_used sMo_5).toInt = (Mo_used sMo).toInt; omega), (by show (Mo_taped sMo_5).toInt = (Mo_taped sMo).toInt; omega), (by show (Mo_madeMany sMo_5).toInt = (Mo_madeMany sMo).toInt; omega), (by show (Mo_madeKind sMo_5).toInt = (Mo_madeKind sMo).toInt; omega), (by show (Mo_madeSubsets sMo_5).toInt = (Mo_madeSubsets sMo).toInt; omega), (by show (Mo_written sMo_5).toInt = (Mo_written sMo).toInt; omega)⟩
            · rw [i_le] at c_464
              exact So.one ⟨I_380, I_sMlists, I_sMlengths, (by show 0 ≤ (Mo_thrown sMo_5).toInt; omega), (by show (Mo_thrown sMo_5).toInt ≤ 2; omega), (by show (Mo_used sMo_5).toInt = (Mo_used sMo).toInt; omega), (by show (Mo_taped sMo_5).toInt = (Mo_taped sMo).toInt; omega), (by show (Mo_madeMany sMo_5).toInt = (Mo_madeMany sMo).toInt; omega), (by show (Mo_madeKind sMo_5).toInt = (Mo_madeKind sMo).toInt; omega), (by show (Mo_madeSubsets sMo_5).toInt = (Mo_madeSubsets sMo).toInt; omega), (by show (Mo_written sMo_5).toInt = (Mo_written sMo).toInt; omega)⟩
        · rw [i_le] at c_389
          unfold Mod_append_j37
          refine So.ite (fun c_476 => ?_) (fun c_476 => ?_)
          · rw [i_eq] at c_476
            have k_477 : (16 : Int32).toInt = 16 := by decide
            refine So.gd (i_in.mpr (by omega)) ?_
            refine So.ite (fun c_478 => ?_) (fun c_478 => ?_)
            · rw [i_le] at c_478
              unfold Mod_append_j62
              refine So.ite (fun c_479 => ?_) (fun c_479 => ?_)
              · rw [i_eq] at c_479
                have f_480 := A_Mlengths_at I_sMlengths ((16 : Int32).toNatClampNeg)
                have f_481 := i_natm (16 : Int32)
                have k_482 : (8 : Int32).toInt = 8 := by decide
                refine So.lt2 fun sMo_10 e_483 => ?_
                have I_484 : I_Mo sMo_10 := by rw [e_483]; exact (I_Mo_set_thrown I_380)
                have k_485 : (2 : Int32).toInt = 2 := by decide
                have f_486 : (Mo_thrown sMo_10).toInt = (2 : Int32).toInt := by subst e_483; rfl
                have f_487 : (Mo_used sMo_10).toInt = (Mo_used sMo_5).toInt := by subst e_483; rfl
                have f_488 : (Mo_madeMany sMo_10).toInt = (Mo_madeMany sMo_5).toInt := by subst e_483; rfl
                have f_489 : (Mo_madeKind sMo_10).toInt = (Mo_madeKind sMo_5).toInt := by subst e_483; rfl
                have f_490 : (Mo_madeSubsets sMo_10).toInt = (Mo_madeSubsets sMo_5).toInt := by subst e_483; rfl
                have f_491 : (Mo_written sMo_10).toInt = (Mo_written sMo_5).toInt := by subst e_483; rfl
                have f_492 : (Mo_taped sMo_10).toInt = (Mo_taped sMo_5).toInt := by subst e_483; rfl
                unfold Mod_append_j70
                refine So.ite (fun c_493 => ?_) (fun c_493 => ?_)
                · rw [i_le] at c_493
                  refine So.gd (i_in.mpr (by omega)) ?_
                  have k_494 : ((24 * 16) : Int32).toInt = 384 := by decide
                  first | have f_495 := i_add (a := ((24 * 16) : Int32)) (b := (sMlengths ((16 : Int32).toNatClampNeg))) (by omega) (by omega) | have f_495 := i_addm ((24 * 16) : Int32) (sMlengths ((16 : Int32).toNatClampNeg))
                  refine So.gd (i_in.mpr (by omega)) ?_
                  refine So.lt2 fun sMlists_14 e_496 => ?_
                  have f_497 := i_natm ((24 * 16) + (sMlengths ((16 : Int32).toNatClampNeg)))
                  have I_498 : A_Mlists sMlists_14 := by rw [e_496]; exact (A_Mlists_upd I_sMlists (by show (0 ≤ (a1 : Int32).toInt ∧ (a1 : Int32).toInt ≤ 63) ∨ (100 ≤ (a1 : Int32).toInt ∧ (a1 : Int32).toInt ≤ 115) ∨ (216 ≤ (a1 : Int32).toInt ∧ (a1 : Int32).toInt ≤ 343) ∨ (400 ≤ (a1 : Int32).toInt ∧ (a1 : Int32).toInt ≤ 487) ∨ (501 ≤ (a1 : Int32).toInt ∧ (a1 : Int32).toInt ≤ 516) ∨ (a1 : Int32).toInt = 520; omega))
                  refine So.gd (i_in.mpr (by omega)) ?_
                  refine So.gd (i_in.mpr (by omega)) ?_
                  refine So.lt2 fun sMlengths_17 e_499 => ?_
                  first | have f_500 := i_add (a := (sMlengths ((16 : Int32).toNatClampNeg))) (b := 1) (by omega) (by omega) | have f_500 := i_addm (sMlengths ((16 : Int32).toNatClampNeg)) 1
                  have I_501 : A_Mlengths sMlengths_17 := by rw [e_499]; exact (A_Mlengths_upd I_sMlengths (by show 0 ≤ (((sMlengths ((16 : Int32).toNatClampNeg)) + 1) : Int32).toInt ∧ (((sMlengths ((16 : Int32).toNatClampNeg)) + 1) : Int32).toInt ≤ 24 ∧ (((16 : Int32).toNatClampNeg) < 16 → (((sMlengths ((16 : Int32).toNatClampNeg)) + 1) : Int32).toInt ≤ 8); omega))
                  refine So.gd (i_in.mpr (by omega)) ?_
                  exact So.one ⟨I_484, I_498, I_501, (by show 0 ≤ (Mo_thrown sMo_10).toInt; omega), (by show (Mo_thrown sMo_10).toInt ≤ 2; omega), (by show (Mo_used sMo_10).toInt = (Mo_used sMo).toInt; omega), (by show (Mo_taped sMo_10).toInt = (Mo_taped sMo).toInt; omega), (by show (Mo_madeMany sMo_10).toInt = (Mo_madeMany sMo).toInt; omega), (by show (Mo_madeKind sMo_10).toInt = (Mo_madeKind sMo).toInt; omega), (by show (Mo_madeSubsets sMo_10).toInt = (Mo_madeSubsets sMo).toInt; omega), (by show (Mo_written sMo_10).toInt = (Mo_written sMo).toInt; omega)⟩
                · rw [i_le] at c_493
                  exact So.one ⟨I_484, I_sMlists, I_sMlengths, (by show 0 ≤ (Mo_thrown sMo_10).toInt; omega), (by show (Mo_thrown sMo_10).toInt ≤ 2; omega), (by show (Mo_used sMo_10).toInt = (Mo_used sMo).toInt; omega), (by show (Mo_taped sMo_10).toInt = (Mo_taped sMo).toInt; omega), (by show (Mo_madeMany sMo_10).toInt = (Mo_madeMany sMo).toInt; omega), (by show (Mo_madeKind sMo_10).toInt = (Mo_madeKind sMo).toInt; omega), (by show (Mo_madeSubsets sMo_10).toInt = (Mo_madeSubsets sMo).toInt; omega), (by show (Mo_written sMo_10).toInt = (Mo_written sMo).toInt; omega)⟩
              · rw [i_eq] at c_479
                have f_502 := A_Mlengths_at I_sMlengths ((16 : Int32).toNatClampNeg)
                have f_503 := i_natm (16 : Int32)
                have k_504 : (8 : Int32).toInt = 8 := by decide
                unfold Mod_append_j70
                refine So.ite (fun c_505 => ?_) (fun c_505 => ?_)
                · rw [i_le] at c_505
                  refine So.gd (i_in.mpr (by omega)) ?_
                  have k_506 : ((24 * 16) : Int32).toInt = 384 := by decide
                  first | have f_507 := i_add (a := ((24 * 16) : Int32)) (b := (sMlengths ((16 : Int32).toNatClampNeg))) (by omega) (by omega) | have f_507 := i_addm ((24 * 16) : Int32) (sMlengths ((16 : Int32).toNatClampNeg))
                  refine So.gd (i_in.mpr (by omega)) ?_
                  refine So.lt2 fun sMlists_14 e_508 => ?_
                  have f_509 := i_natm ((24 * 16) + (sMlengths ((16 : Int32).toNatClampNeg)))
                  have I_510 : A_Mlists sMlists_14 := by rw [e_508]; exact (A_Mlists_upd I_sMlists (by show (0 ≤ (a1 : Int32).toInt ∧ (a1 : Int32).toInt ≤ 63) ∨ (100 ≤ (a1 : Int32).toInt ∧ (a1 : Int32).toInt ≤ 115) ∨ (216 ≤ (a1 : Int32).toInt ∧ (a1 : Int32).toInt ≤ 343) ∨ (400 ≤ (a1 : Int32).toInt ∧ (a1 : Int32).toInt ≤ 487) ∨ (501 ≤ (a1 : Int32).toInt ∧ (a1 : Int32).toInt ≤ 516) ∨ (a1 : Int32).toInt = 520; omega))
                  refine So.gd (i_in.mpr (by omega)) ?_
                  refine So.gd (i_in.mpr (by omega)) ?_
                  refine So.lt2 fun sMlengths_17 e_511 => ?_
                  first | have f_512 := i_add (a := (sMlengths ((16 : Int32).toNatClampNeg))) (b := 1) (by omega) (by omega) | have f_512 := i_addm (sMlengths ((16 : Int32).toNatClampNeg)) 1
                  have I_513 : A_Mlengths sMlengths_17 := by rw [e_511]; exact (A_Mlengths_upd I_sMlengths (by show 0 ≤ (((sMlengths ((16 : Int32).toNatClampNeg)) + 1) : Int32).toInt ∧ (((sMlengths ((16 : Int32).toNatClampNeg)) + 1) : Int32).toInt ≤ 24 ∧ (((16 : Int32).toNatClampNeg) < 16 → (((sMlengths ((16 : Int32).toNatClampNeg)) + 1) : Int32).toInt ≤ 8); omega))
                  refine So.gd (i_in.mpr (by omega)) ?_
                  exact So.one ⟨I_380, I_510, I_513, (by show 0 ≤ (Mo_thrown sMo_5).toInt; omega), (by show (Mo_thrown sMo_5).toInt ≤ 2; omega), (by show (Mo_used sMo_5).toInt = (Mo_used sMo).toInt; omega), (by show (Mo_taped sMo_5).toInt = (Mo_taped sMo).toInt; omega), (by show (Mo_madeMany sMo_5).toInt = (Mo_madeMany sMo).toInt; omega), (by show (Mo_madeKind sMo_5).toInt = (Mo_madeKind sMo).toInt; omega), (by show (Mo_madeSubsets sMo_5).toInt = (Mo_madeSubsets sMo).toInt; omega), (by show (Mo_written sMo_5).toInt = (Mo_written sMo).toInt; omega)⟩
                · rw [i_le] at c_505
                  exact So.one ⟨I_380, I_sMlists, I_sMlengths, (by show 0 ≤ (Mo_thrown sMo_5).toInt; omega), (by show (Mo_thrown sMo_5).toInt ≤ 2; omega), (by show (Mo_used sMo_5).toInt = (Mo_used sMo).toInt; omega), (by show (Mo_taped sMo_5).toInt = (Mo_taped sMo).toInt; omega), (by show (Mo_madeMany sMo_5).toInt = (Mo_madeMany sMo).toInt; omega), (by show (Mo_madeKind sMo_5).toInt = (Mo_madeKind sMo).toInt; omega), (by show (Mo_madeSubsets sMo_5).toInt = (Mo_madeSubsets sMo).toInt; omega), (by show (Mo_written sMo_5).toInt = (Mo_written sMo).toInt; omega)⟩
            · rw [i_le] at c_478
              unfold Mod_append_j62
              refine So.ite (fun c_514 => ?_) (fun c_514 => ?_)
              · rw [i_eq] at c_514
                have f_515 := A_Mlengths_at I_sMlengths ((16 : Int32).toNatClampNeg)
                have f_516 := i_natm (16 : Int32)
                have k_517 : (24 : Int32).toInt = 24 := by decide
                refine So.lt2 fun sMo_10 e_518 => ?_
                have I_519 : I_Mo sMo_10 := by rw [e_518]; exact (I_Mo_set_thrown I_380)
                have k_520 : (2 : Int32).toInt = 2 := by decide
                have f_521 : (Mo_thrown sMo_10).toInt = (2 : Int32).toInt := by subst e_518; rfl
                have f_522 : (Mo_used sMo_10).toInt = (Mo_used sMo_5).toInt := by subst e_518; rfl
                have f_523 : (Mo_madeMany sMo_10).toInt = (Mo_madeMany sMo_5).toInt := by subst e_518; rfl
                have f_524 : (Mo_madeKind sMo_10).toInt = (Mo_madeKind sMo_5).toInt := by subst e_518; rfl
                have f_525 : (Mo_madeSubsets sMo_10).toInt = (Mo_madeSubsets sMo_5).toInt := by subst e_518; rfl
                have f_526 : (Mo_written sMo_10).toInt = (Mo_written sMo_5).toInt := by subst e_518; rfl
                have f_527 : (Mo_taped sMo_10).toInt = (Mo_taped sMo_5).toInt := by subst e_518; rfl
                unfold Mod_append_j70
                refine So.ite (fun c_528 => ?_) (fun c_528 => ?_)
                · rw [i_le] at c_528
                  refine So.gd (i_in.mpr (by omega)) ?_
                  have k_529 : ((24 * 16) : Int32).toInt = 384 := by decide
                  first | have f_530 := i_add (a := ((24 * 16) : Int32)) (b := (sMlengths ((16 : Int32).toNatClampNeg))) (by omega) (by omega) | have f_530 := i_addm ((24 * 16) : Int32) (sMlengths ((16 : Int32).toNatClampNeg))
                  refine So.gd (i_in.mpr (by omega)) ?_
                  refine So.lt2 fun sMlists_14 e_531 => ?_
                  have f_532 := i_natm ((24 * 16) + (sMlengths ((16 : Int32).toNatClampNeg)))
                  have I_533 : A_Mlists sMlists_14 := by rw [e_531]; exact (A_Mlists_upd I_sMlists (by show (0 ≤ (a1 : Int32).toInt ∧ (a1 : Int32).toInt ≤ 63) ∨ (100 ≤ (a1 : Int32).toInt ∧ (a1 : Int32).toInt ≤ 115) ∨ (216 ≤ (a1 : Int32).toInt ∧ (a1 : Int32).toInt ≤ 343) ∨ (400 ≤ (a1 : Int32).toInt ∧ (a1 : Int32).toInt ≤ 487) ∨ (501 ≤ (a1 : Int32).toInt ∧ (a1 : Int32).toInt ≤ 516) ∨ (a1 : Int32).toInt = 520; omega))
                  refine So.gd (i_in.mpr (by omega)) ?_
                  refine So.gd (i_in.mpr (by omega)) ?_
                  refine So.lt2 fun sMlengths_17 e_534 => ?_
                  first | have f_535 := i_add (a := (sMlengths ((16 : Int32).toNatClampNeg))) (b := 1) (by omega) (by omega) | have f_535 := i_addm (sMlengths ((16 : Int32).toNatClampNeg)) 1
                  have I_536 : A_Mlengths sMlengths_17 := by rw [e_534]; exact (A_Mlengths_upd I_sMlengths (by show 0 ≤ (((sMlengths ((16 : Int32).toNatClampNeg)) + 1) : Int32).toInt ∧ (((sMlengths ((16 : Int32).toNatClampNeg)) + 1) : Int32).toInt ≤ 24 ∧ (((16 : Int32).toNatClampNeg) < 16 → (((sMlengths ((16 : Int32).toNatClampNeg)) + 1) : Int32).toInt ≤ 8); omega))
                  refine So.gd (i_in.mpr (by omega)) ?_
                  exact So.one ⟨I_519, I_533, I_536, (by show 0 ≤ (Mo_thrown sMo_10).toInt; omega), (by show (Mo_thrown sMo_10).toInt ≤ 2; omega), (by show (Mo_used sMo_10).toInt = (Mo_used sMo).toInt; omega), (by show (Mo_taped sMo_10).toInt = (Mo_taped sMo).toInt; omega), (by show (Mo_madeMany sMo_10).toInt = (Mo_madeMany sMo).toInt; omega), (by show (Mo_madeKind sMo_10).toInt = (Mo_madeKind sMo).toInt; omega), (by show (Mo_madeSubsets sMo_10).toInt = (Mo_madeSubsets sMo).toInt; omega), (by show (Mo_written sMo_10).toInt = (Mo_written sMo).toInt; omega)⟩
                · rw [i_le] at c_528
                  exact So.one ⟨I_519, I_sMlists, I_sMlengths, (by show 0 ≤ (Mo_thrown sMo_10).toInt; omega), (by show (Mo_thrown sMo_10).toInt ≤ 2; omega), (by show (Mo_used sMo_10).toInt = (Mo_used sMo).toInt; omega), (by show (Mo_taped sMo_10).toInt = (Mo_taped sMo).toInt; omega), (by show (Mo_madeMany sMo_10).toInt = (Mo_madeMany sMo).toInt; omega), (by show (Mo_madeKind sMo_10).toInt = (Mo_madeKind sMo).toInt; omega), (by show (Mo_madeSubsets sMo_10).toInt = (Mo_madeSubsets sMo).toInt; omega), (by show (Mo_written sMo_10).toInt = (Mo_written sMo).toInt; omega)⟩
              · rw [i_eq] at c_514
                have f_537 := A_Mlengths_at I_sMlengths ((16 : Int32).toNatClampNeg)
                have f_538 := i_natm (16 : Int32)
                have k_539 : (24 : Int32).toInt = 24 := by decide
                unfold Mod_append_j70
                refine So.ite (fun c_540 => ?_) (fun c_540 => ?_)
                · rw [i_le] at c_540
                  refine So.gd (i_in.mpr (by omega)) ?_
                  have k_541 : ((24 * 16) : Int32).toInt = 384 := by decide
                  first | have f_542 := i_add (a := ((24 * 16) : Int32)) (b := (sMlengths ((16 : Int32).toNatClampNeg))) (by omega) (by omega) | have f_542 := i_addm ((24 * 16) : Int32) (sMlengths ((16 : Int32).toNatClampNeg))
                  refine So.gd (i_in.mpr (by omega)) ?_
                  refine So.lt2 fun sMlists_14 e_543 => ?_
                  have f_544 := i_natm ((24 * 16) + (sMlengths ((16 : Int32).toNatClampNeg)))
                  have I_545 : A_Mlists sMlists_14 := by rw [e_543]; exact (A_Mlists_upd I_sMlists (by show (0 ≤ (a1 : Int32).toInt ∧ (a1 : Int32).toInt ≤ 63) ∨ (100 ≤ (a1 : Int32).toInt ∧ (a1 : Int32).toInt ≤ 115) ∨ (216 ≤ (a1 : Int32).toInt ∧ (a1 : Int32).toInt ≤ 343) ∨ (400 ≤ (a1 : Int32).toInt ∧ (a1 : Int32).toInt ≤ 487) ∨ (501 ≤ (a1 : Int32).toInt ∧ (a1 : Int32).toInt ≤ 516) ∨ (a1 : Int32).toInt = 520; omega))
                  refine So.gd (i_in.mpr (by omega)) ?_
                  refine So.gd (i_in.mpr (by omega)) ?_
                  refine So.lt2 fun sMlengths_17 e_546 => ?_
                  first | have f_547 := i_add (a := (sMlengths ((16 : Int32).toNatClampNeg))) (b := 1) (by omega) (by omega) | have f_547 := i_addm (sMlengths ((16 : Int32).toNatClampNeg)) 1
                  have I_548 : A_Mlengths sMlengths_17 := by rw [e_546]; exact (A_Mlengths_upd I_sMlengths (by show 0 ≤ (((sMlengths ((16 : Int32).toNatClampNeg)) + 1) : Int32).toInt ∧ (((sMlengths ((16 : Int32).toNatClampNeg)) + 1) : Int32).toInt ≤ 24 ∧ (((16 : Int32).toNatClampNeg) < 16 → (((sMlengths ((16 : Int32).toNatClampNeg)) + 1) : Int32).toInt ≤ 8); omega))
                  refine So.gd (i_in.mpr (by omega)) ?_
                  exact So.one ⟨I_380, I_545, I_548, (by show 0 ≤ (Mo_thrown sMo_5).toInt; omega), (by show (Mo_thrown sMo_5).toInt ≤ 2; omega), (by show (Mo_used sMo_5).toInt = (Mo_used sMo).toInt; omega), (by show (Mo_taped sMo_5).toInt = (Mo_taped sMo).toInt; omega), (by show (Mo_madeMany sMo_5).toInt = (Mo_madeMany sMo).toInt; omega), (by show (Mo_madeKind sMo_5).toInt = (Mo_madeKind sMo).toInt; omega), (by show (Mo_madeSubsets sMo_5).toInt = (Mo_madeSubsets sMo).toInt; omega), (by show (Mo_written sMo_5).toInt = (Mo_written sMo).toInt; omega)⟩
                · rw [i_le] at c_540
                  exact So.one ⟨I_380, I_sMlists, I_sMlengths, (by show 0 ≤ (Mo_thrown sMo_5).toInt; omega), (by show (Mo_thrown sMo_5).toInt ≤ 2; omega), (by show (Mo_used sMo_5).toInt = (Mo_used sMo).toInt; omega), (by show (Mo_taped sMo_5).toInt = (Mo_taped sMo).toInt; omega), (by show (Mo_madeMany sMo_5).toInt = (Mo_madeMany sMo).toInt; omega), (by show (Mo_madeKind sMo_5).toInt = (Mo_madeKind sMo).toInt; omega), (by show (Mo_madeSubsets sMo_5).toInt = (Mo_madeSubsets sMo).toInt; omega), (by show (Mo_written sMo_5).toInt = (Mo_written sMo).toInt; omega)⟩
          · rw [i_eq] at c_476
            unfold Mod_append_j70
            refine So.ite (fun c_549 => ?_) (fun c_549 => ?_)
            · rw [i_le] at c_549
              have k_550 : (16 : Int32).toInt = 16 := by decide
              refine So.gd (i_in.mpr (by omega)) ?_
              have k_551 : ((24 * 16) : Int32).toInt = 384 := by decide
              have f_552 := A_Mlengths_at I_sMlengths ((16 : Int32).toNatClampNeg)
              have f_553 := i_natm (16 : Int32)
              first | have f_554 := i_add (a := ((24 * 16) : Int32)) (b := (sMlengths ((16 : Int32).toNatClampNeg))) (by omega) (by omega) | have f_554 := i_addm ((24 * 16) : Int32) (sMlengths ((16 : Int32).toNatClampNeg))
              refine So.gd (i_in.mpr (by omega)) ?_
              refine So.lt2 fun sMlists_14 e_555 => ?_
              have f_556 := i_natm ((24 * 16) + (sMlengths ((16 : Int32).toNatClampNeg)))
              have I_557 : A_Mlists sMlists_14 := by rw [e_555]; exact (A_Mlists_upd I_sMlists (by show (0 ≤ (a1 : Int32).toInt ∧ (a1 : Int32).toInt ≤ 63) ∨ (100 ≤ (a1 : Int32).toInt ∧ (a1 : Int32).toInt ≤ 115) ∨ (216 ≤ (a1 : Int32).toInt ∧ (a1 : Int32).toInt ≤ 343) ∨ (400 ≤ (a1 : Int32).toInt ∧ (a1 : Int32).toInt ≤ 487) ∨ (501 ≤ (a1 : Int32).toInt ∧ (a1 : Int32).toInt ≤ 516) ∨ (a1 : Int32).toInt = 520; omega))
              refine So.gd (i_in.mpr (by omega)) ?_
              refine So.gd (i_in.mpr (by omega)) ?_
              refine So.lt2 fun sMlengths_17 e_558 => ?_
              first | have f_559 := i_add (a := (sMlengths ((16 : Int32).toNatClampNeg))) (b := 1) (by omega) (by omega) | have f_559 := i_addm (sMlengths ((16 : Int32).toNatClampNeg)) 1
              have I_560 : A_Mlengths sMlengths_17 := by rw [e_558]; exact (A_Mlengths_upd I_sMlengths (by show 0 ≤ (((sMlengths ((16 : Int32).toNatClampNeg)) + 1) : Int32).toInt ∧ (((sMlengths ((16 : Int32).toNatClampNeg)) + 1) : Int32).toInt ≤ 24 ∧ (((16 : Int32).toNatClampNeg) < 16 → (((sMlengths ((16 : Int32).toNatClampNeg)) + 1) : Int32).toInt ≤ 8); omega))
              refine So.gd (i_in.mpr (by omega)) ?_
              exact So.one ⟨I_380, I_557, I_560, (by show 0 ≤ (Mo_thrown sMo_5).toInt; omega), (by show (Mo_thrown sMo_5).toInt ≤ 2; omega), (by show (Mo_used sMo_5).toInt = (Mo_used sMo).toInt; omega), (by show (Mo_taped sMo_5).toInt = (Mo_taped sMo).toInt; omega), (by show (Mo_madeMany sMo_5).toInt = (Mo_madeMany sMo).toInt; omega), (by show (Mo_madeKind sMo_5).toInt = (Mo_madeKind sMo).toInt; omega), (by show (Mo_madeSubsets sMo_5).toInt = (Mo_madeSubsets sMo).toInt; omega), (by show (Mo_written sMo_5).toInt = (Mo_written sMo).toInt; omega)⟩
            · rw [i_le] at c_549
              exact So.one ⟨I_380, I_sMlists, I_sMlengths, (by show 0 ≤ (Mo_thrown sMo_5).toInt; omega), (by show (Mo_thrown sMo_5).toInt ≤ 2; omega), (by show (Mo_used sMo_5).toInt = (Mo_used sMo).toInt; omega), (by show (Mo_taped sMo_5).toInt = (Mo_taped sMo).toInt; omega), (by show (Mo_madeMany sMo_5).toInt = (Mo_madeMany sMo).toInt; omega), (by show (Mo_madeKind sMo_5).toInt = (Mo_madeKind sMo).toInt; omega), (by show (Mo_madeSubsets sMo_5).toInt = (Mo_madeSubsets sMo).toInt; omega), (by show (Mo_written sMo_5).toInt = (Mo_written sMo).toInt; omega)⟩
      · rw [i_eq] at c_377
        have k_561 : (0 : Int32).toInt = 0 := by decide
        unfold Mod_append_j24
        refine So.lt2 fun sMo_5 e_562 => ?_
        have I_563 : I_Mo sMo_5 := by rw [e_562]; exact (I_Mo_set_thrown I_sMo)
        have f_564 : (Mo_thrown sMo_5).toInt = (0 : Int32).toInt := by subst e_562; rfl
        have f_565 : (Mo_used sMo_5).toInt = (Mo_used sMo).toInt := by subst e_562; rfl
        have f_566 : (Mo_madeMany sMo_5).toInt = (Mo_madeMany sMo).toInt := by subst e_562; rfl
        have f_567 : (Mo_madeKind sMo_5).toInt = (Mo_madeKind sMo).toInt := by subst e_562; rfl
        have f_568 : (Mo_madeSubsets sMo_5).toInt = (Mo_madeSubsets sMo).toInt := by subst e_562; rfl
        have f_569 : (Mo_written sMo_5).toInt = (Mo_written sMo).toInt := by subst e_562; rfl
        have f_570 : (Mo_taped sMo_5).toInt = (Mo_taped sMo).toInt := by subst e_562; rfl
        refine So.ite (fun c_571 => ?_) (fun c_571 => ?_)
        · rw [i_le] at c_571
          unfold Mod_append_j37
          refine So.ite (fun c_572 => ?_) (fun c_572 => ?_)
          · rw [i_eq] at c_572
            refine So.gd (i_in.mpr (by omega)) ?_
            refine So.ite (fun c_573 => ?_) (fun c_573 => ?_)
            · rw [i_le] at c_573
              unfold Mod_append_j62
              refine So.ite (fun c_574 => ?_) (fun c_574 => ?_)
              · rw [i_eq] at c_574
                have f_575 := A_Mlengths_at I_sMlengths (a0.toNatClampNeg)
                have f_576 := i_natm a0
                have k_577 : (8 : Int32).toInt = 8 := by decide
                refine So.lt2 fun sMo_10 e_578 => ?_
                have I_579 : I_Mo sMo_10 := by rw [e_578]; exact (I_Mo_set_thrown I_563)
                have k_580 : (2 : Int32).toInt = 2 := by decide
                have f_581 : (Mo_thrown sMo_10).toInt = (2 : Int32).toInt := by subst e_578; rfl
                have f_582 : (Mo_used sMo_10).toInt = (Mo_used sMo_5).toInt := by subst e_578; rfl
                have f_583 : (Mo_madeMany sMo_10).toInt = (Mo_madeMany sMo_5).toInt := by subst e_578; rfl
                have f_584 : (Mo_madeKind sMo_10).toInt = (Mo_madeKind sMo_5).toInt := by subst e_578; rfl
                have f_585 : (Mo_madeSubsets sMo_10).toInt = (Mo_madeSubsets sMo_5).toInt := by subst e_578; rfl
                have f_586 : (Mo_written sMo_10).toInt = (Mo_written sMo_5).toInt := by subst e_578; rfl
                have f_587 : (Mo_taped sMo_10).toInt = (Mo_taped sMo_5).toInt := by subst e_578; rfl
                unfold Mod_append_j70
                refine So.ite (fun c_588 => ?_) (fun c_588 => ?_)
                · rw [i_le] at c_588
                  refine So.gd (i_in.mpr (by omega)) ?_
                  have k_589 : (24 : Int32).toInt = 24 := by decide
                  first | have f_590 := i_mull 24 a0 (24) (by decide) (by omega) (by omega) | have f_590 := i_mullm 24 a0 (24) (by decide)
                  first | have f_591 := i_add (a := (24 * a0)) (b := (sMlengths (a0.toNatClampNeg))) (by omega) (by omega) | have f_591 := i_addm (24 * a0) (sMlengths (a0.toNatClampNeg))
                  refine So.gd (i_in.mpr (by omega)) ?_
                  refine So.lt2 fun sMlists_14 e_592 => ?_
                  have f_593 := i_natm ((24 * a0) + (sMlengths (a0.toNatClampNeg)))
                  have I_594 : A_Mlists sMlists_14 := by rw [e_592]; exact (A_Mlists_upd I_sMlists (by show (0 ≤ (a1 : Int32).toInt ∧ (a1 : Int32).toInt ≤ 63) ∨ (100 ≤ (a1 : Int32).toInt ∧ (a1 : Int32).toInt ≤ 115) ∨ (216 ≤ (a1 : Int32).toInt ∧ (a1 : Int32).toInt ≤ 343) ∨ (400 ≤ (a1 : Int32).toInt ∧ (a1 : Int32).toInt ≤ 487) ∨ (501 ≤ (a1 : Int32).toInt ∧ (a1 : Int32).toInt ≤ 516) ∨ (a1 : Int32).toInt = 520; omega))
                  refine So.gd (i_in.mpr (by omega)) ?_
                  refine So.gd (i_in.mpr (by omega)) ?_
                  refine So.lt2 fun sMlengths_17 e_595 => ?_
                  have k_596 : (1 : Int32).toInt = 1 := by decide
                  first | have f_597 := i_add (a := (sMlengths (a0.toNatClampNeg))) (b := 1) (by omega) (by omega) | have f_597 := i_addm (sMlengths (a0.toNatClampNeg)) 1
                  have I_598 : A_Mlengths sMlengths_17 := by rw [e_595]; exact (A_Mlengths_upd I_sMlengths (by show 0 ≤ (((sMlengths (a0.toNatClampNeg)) + 1) : Int32).toInt ∧ (((sMlengths (a0.toNatClampNeg)) + 1) : Int32).toInt ≤ 24 ∧ ((a0.toNatClampNeg) < 16 → (((sMlengths (a0.toNatClampNeg)) + 1) : Int32).toInt ≤ 8); omega))
                  refine So.gd (i_in.mpr (by omega)) ?_
                  exact So.one ⟨I_579, I_594, I_598, (by show 0 ≤ (Mo_thrown sMo_10).toInt; omega), (by show (Mo_thrown sMo_10).toInt ≤ 2; omega), (by show (Mo_used sMo_10).toInt = (Mo_used sMo).toInt; omega), (by show (Mo_taped sMo_10).toInt = (Mo_taped sMo).toInt; omega), (by show (Mo_madeMany sMo_10).toInt = (Mo_madeMany sMo).toInt; omega), (by show (Mo_madeKind sMo_10).toInt = (Mo_madeKind sMo).toInt; omega), (by show (Mo_madeSubsets sMo_10).toInt = (Mo_madeSubsets sMo).toInt; omega), (by show (Mo_written sMo_10).toInt = (Mo_written sMo).toInt; omega)⟩
                · rw [i_le] at c_588
                  exact So.one ⟨I_579, I_sMlists, I_sMlengths, (by show 0 ≤ (Mo_thrown sMo_10).toInt; omega), (by show (Mo_thrown sMo_10).toInt ≤ 2; omega), (by show (Mo_used sMo_10).toInt = (Mo_used sMo).toInt; omega), (by show (Mo_taped sMo_10).toInt = (Mo_taped sMo).toInt; omega), (by show (Mo_madeMany sMo_10).toInt = (Mo_madeMany sMo).toInt; omega), (by show (Mo_madeKind sMo_10).toInt = (Mo_madeKind sMo).toInt; omega), (by show (Mo_madeSubsets sMo_10).toInt = (Mo_madeSubsets sMo).toInt; omega), (by show (Mo_written sMo_10).toInt = (Mo_written sMo).toInt; omega)⟩
              · rw [i_eq] at c_574
                have f_599 := A_Mlengths_at I_sMlengths (a0.toNatClampNeg)
                have f_600 := i_natm a0
                have k_601 : (8 : Int32).toInt = 8 := by decide
                unfold Mod_append_j70
                refine So.ite (fun c_602 => ?_) (fun c_602 => ?_)
                · rw [i_le] at c_602
                  refine So.gd (i_in.mpr (by omega)) ?_
                  have k_603 : (24 : Int32).toInt = 24 := by decide
                  first | have f_604 := i_mull 24 a0 (24) (by decide) (by omega) (by omega) | have f_604 := i_mullm 24 a0 (24) (by decide)
                  first | have f_605 := i_add (a := (24 * a0)) (b := (sMlengths (a0.toNatClampNeg))) (by omega) (by omega) | have f_605 := i_addm (24 * a0) (sMlengths (a0.toNatClampNeg))
                  refine So.gd (i_in.mpr (by omega)) ?_
                  refine So.lt2 fun sMlists_14 e_606 => ?_
                  have f_607 := i_natm ((24 * a0) + (sMlengths (a0.toNatClampNeg)))
                  have I_608 : A_Mlists sMlists_14 := by rw [e_606]; exact (A_Mlists_upd I_sMlists (by show (0 ≤ (a1 : Int32).toInt ∧ (a1 : Int32).toInt ≤ 63) ∨ (100 ≤ (a1 : Int32).toInt ∧ (a1 : Int32).toInt ≤ 115) ∨ (216 ≤ (a1 : Int32).toInt ∧ (a1 : Int32).toInt ≤ 343) ∨ (400 ≤ (a1 : Int32).toInt ∧ (a1 : Int32).toInt ≤ 487) ∨ (501 ≤ (a1 : Int32).toInt ∧ (a1 : Int32).toInt ≤ 516) ∨ (a1 : Int32).toInt = 520; omega))
                  refine So.gd (i_in.mpr (by omega)) ?_
                  refine So.gd (i_in.mpr (by omega)) ?_
                  refine So.lt2 fun sMlengths_17 e_609 => ?_
                  have k_610 : (1 : Int32).toInt = 1 := by decide
                  first | have f_611 := i_add (a := (sMlengths (a0.toNatClampNeg))) (b := 1) (by omega) (by omega) | have f_611 := i_addm (sMlengths (a0.toNatClampNeg)) 1
                  have I_612 : A_Mlengths sMlengths_17 := by rw [e_609]; exact (A_Mlengths_upd I_sMlengths (by show 0 ≤ (((sMlengths (a0.toNatClampNeg)) + 1) : Int32).toInt ∧ (((sMlengths (a0.toNatClampNeg)) + 1) : Int32).toInt ≤ 24 ∧ ((a0.toNatClampNeg) < 16 → (((sMlengths (a0.toNatClampNeg)) + 1) : Int32).toInt ≤ 8); omega))
                  refine So.gd (i_in.mpr (by omega)) ?_
                  exact So.one ⟨I_563, I_608, I_612, (by show 0 ≤ (Mo_thrown sMo_5).toInt; omega), (by show (Mo_thrown sMo_5).toInt ≤ 2; omega), (by show (Mo_used sMo_5).toInt = (Mo_used sMo).toInt; omega), (by show (Mo_taped sMo_5).toInt = (Mo_taped sMo).toInt; omega), (by show (Mo_madeMany sMo_5).toInt = (Mo_madeMany sMo).toInt; omega), (by show (Mo_madeKind sMo_5).toInt = (Mo_madeKind sMo).toInt; omega), (by show (Mo_madeSubsets sMo_5).toInt = (Mo_madeSubsets sMo).toInt; omega), (by show (Mo_written sMo_5).toInt = (Mo_written sMo).toInt; omega)⟩
                · rw [i_le] at c_602
                  exact So.one ⟨I_563, I_sMlists, I_sMlengths, (by show 0 ≤ (Mo_thrown sMo_5).toInt; omega), (by show (Mo_thrown sMo_5).toInt ≤ 2; omega), (by show (Mo_used sMo_5).toInt = (Mo_used sMo).toInt; omega), (by show (Mo_taped sMo_5).toInt = (Mo_taped sMo).toInt; omega), (by show (Mo_madeMany sMo_5).toInt = (Mo_madeMany sMo).toInt; omega), (by show (Mo_madeKind sMo_5).toInt = (Mo_madeKind sMo).toInt; omega), (by show (Mo_madeSubsets sMo_5).toInt = (Mo_madeSubsets sMo).toInt; omega), (by show (Mo_written sMo_5).toInt = (Mo_written sMo).toInt; omega)⟩
            · rw [i_le] at c_573
              unfold Mod_append_j62
              refine So.ite (fun c_613 => ?_) (fun c_613 => ?_)
              · rw [i_eq] at c_613
                have f_614 := A_Mlengths_at I_sMlengths (a0.toNatClampNeg)
                have f_615 := i_natm a0
                have k_616 : (24 : Int32).toInt = 24 := by decide
                refine So.lt2 fun sMo_10 e_617 => ?_
                have I_618 : I_Mo sMo_10 := by rw [e_617]; exact (I_Mo_set_thrown I_563)
                have k_619 : (2 : Int32).toInt = 2 := by decide
                have f_620 : (Mo_thrown sMo_10).toInt = (2 : Int32).toInt := by subst e_617; rfl
                have f_621 : (Mo_used sMo_10).toInt = (Mo_used sMo_5).toInt := by subst e_617; rfl
                have f_622 : (Mo_madeMany sMo_10).toInt = (Mo_madeMany sMo_5).toInt := by subst e_617; rfl
                have f_623 : (Mo_madeKind sMo_10).toInt = (Mo_madeKind sMo_5).toInt := by subst e_617; rfl
                have f_624 : (Mo_madeSubsets sMo_10).toInt = (Mo_madeSubsets sMo_5).toInt := by subst e_617; rfl
                have f_625 : (Mo_written sMo_10).toInt = (Mo_written sMo_5).toInt := by subst e_617; rfl
                have f_626 : (Mo_taped sMo_10).toInt = (Mo_taped sMo_5).toInt := by subst e_617; rfl
                unfold Mod_append_j70
                refine So.ite (fun c_627 => ?_) (fun c_627 => ?_)
                · rw [i_le] at c_627
                  refine So.gd (i_in.mpr (by omega)) ?_
                  first | have f_628 := i_mull 24 a0 (24) (by decide) (by omega) (by omega) | have f_628 := i_mullm 24 a0 (24) (by decide)
                  first | have f_629 := i_add (a := (24 * a0)) (b := (sMlengths (a0.toNatClampNeg))) (by omega) (by omega) | have f_629 := i_addm (24 * a0) (sMlengths (a0.toNatClampNeg))
                  refine So.gd (i_in.mpr (by omega)) ?_
                  refine So.lt2 fun sMlists_14 e_630 => ?_
                  have f_631 := i_natm ((24 * a0) + (sMlengths (a0.toNatClampNeg)))
                  have I_632 : A_Mlists sMlists_14 := by rw [e_630]; exact (A_Mlists_upd I_sMlists (by show (0 ≤ (a1 : Int32).toInt ∧ (a1 : Int32).toInt ≤ 63) ∨ (100 ≤ (a1 : Int32).toInt ∧ (a1 : Int32).toInt ≤ 115) ∨ (216 ≤ (a1 : Int32).toInt ∧ (a1 : Int32).toInt ≤ 343) ∨ (400 ≤ (a1 : Int32).toInt ∧ (a1 : Int32).toInt ≤ 487) ∨ (501 ≤ (a1 : Int32).toInt ∧ (a1 : Int32).toInt ≤ 516) ∨ (a1 : Int32).toInt = 520; omega))
                  refine So.gd (i_in.mpr (by omega)) ?_
                  refine So.gd (i_in.mpr (by omega)) ?_
                  refine So.lt2 fun sMlengths_17 e_633 => ?_
                  have k_634 : (1 : Int32).toInt = 1 := by decide
                  first | have f_635 := i_add (a := (sMlengths (a0.toNatClampNeg))) (b := 1) (by omega) (by omega) | have f_635 := i_addm (sMlengths (a0.toNatClampNeg)) 1
                  have I_636 : A_Mlengths sMlengths_17 := by rw [e_633]; exact (A_Mlengths_upd I_sMlengths (by show 0 ≤ (((sMlengths (a0.toNatClampNeg)) + 1) : Int32).toInt ∧ (((sMlengths (a0.toNatClampNeg)) + 1) : Int32).toInt ≤ 24 ∧ ((a0.toNatClampNeg) < 16 → (((sMlengths (a0.toNatClampNeg)) + 1) : Int32).toInt ≤ 8); omega))
                  refine So.gd (i_in.mpr (by omega)) ?_
                  exact So.one ⟨I_618, I_632, I_636, (by show 0 ≤ (Mo_thrown sMo_10).toInt; omega), (by show (Mo_thrown sMo_10).toInt ≤ 2; omega), (by show (Mo_used sMo_10).toInt = (Mo_used sMo).toInt; omega), (by show (Mo_taped sMo_10).toInt = (Mo_taped sMo).toInt; omega), (by show (Mo_madeMany sMo_10).toInt = (Mo_madeMany sMo).toInt; omega), (by show (Mo_madeKind sMo_10).toInt = (Mo_madeKind sMo).toInt; omega), (by show (Mo_madeSubsets sMo_10).toInt = (Mo_madeSubsets sMo).toInt; omega), (by show (Mo_written sMo_10).toInt = (Mo_written sMo).toInt; omega)⟩
                · rw [i_le] at c_627
                  exact So.one ⟨I_618, I_sMlists, I_sMlengths, (by show 0 ≤ (Mo_thrown sMo_10).toInt; omega), (by show (Mo_thrown sMo_10).toInt ≤ 2; omega), (by show (Mo_used sMo_10).toInt = (Mo_used sMo).toInt; omega), (by show (Mo_taped sMo_10).toInt = (Mo_taped sMo).toInt; omega), (by show (Mo_madeMany sMo_10).toInt = (Mo_madeMany sMo).toInt; omega), (by show (Mo_madeKind sMo_10).toInt = (Mo_madeKind sMo).toInt; omega), (by show (Mo_madeSubsets sMo_10).toInt = (Mo_madeSubsets sMo).toInt; omega), (by show (Mo_written sMo_10).toInt = (Mo_written sMo).toInt; omega)⟩
              · rw [i_eq] at c_613
                have f_637 := A_Mlengths_at I_sMlengths (a0.toNatClampNeg)
                have f_638 := i_natm a0
                have k_639 : (24 : Int32).toInt = 24 := by decide
                unfold Mod_append_j70
                refine So.ite (fun c_640 => ?_) (fun c_640 => ?_)
                · rw [i_le] at c_640
                  refine So.gd (i_in.mpr (by omega)) ?_
                  first | have f_641 := i_mull 24 a0 (24) (by decide) (by omega) (by omega) | have f_641 := i_mullm 24 a0 (24) (by decide)
                  first | have f_642 := i_add (a := (24 * a0)) (b := (sMlengths (a0.toNatClampNeg))) (by omega) (by omega) | have f_642 := i_addm (24 * a0) (sMlengths (a0.toNatClampNeg))
                  refine So.gd (i_in.mpr (by omega)) ?_
                  refine So.lt2 fun sMlists_14 e_643 => ?_
                  have f_644 := i_natm ((24 * a0) + (sMlengths (a0.toNatClampNeg)))
                  have I_645 : A_Mlists sMlists_14 := by rw [e_643]; exact (A_Mlists_upd I_sMlists (by show (0 ≤ (a1 : Int32).toInt ∧ (a1 : Int32).toInt ≤ 63) ∨ (100 ≤ (a1 : Int32).toInt ∧ (a1 : Int32).toInt ≤ 115) ∨ (216 ≤ (a1 : Int32).toInt ∧ (a1 : Int32).toInt ≤ 343) ∨ (400 ≤ (a1 : Int32).toInt ∧ (a1 : Int32).toInt ≤ 487) ∨ (501 ≤ (a1 : Int32).toInt ∧ (a1 : Int32).toInt ≤ 516) ∨ (a1 : Int32).toInt = 520; omega))
                  refine So.gd (i_in.mpr (by omega)) ?_
                  refine So.gd (i_in.mpr (by omega)) ?_
                  refine So.lt2 fun sMlengths_17 e_646 => ?_
                  have k_647 : (1 : Int32).toInt = 1 := by decide
                  first | have f_648 := i_add (a := (sMlengths (a0.toNatClampNeg))) (b := 1) (by omega) (by omega) | have f_648 := i_addm (sMlengths (a0.toNatClampNeg)) 1
                  have I_649 : A_Mlengths sMlengths_17 := by rw [e_646]; exact (A_Mlengths_upd I_sMlengths (by show 0 ≤ (((sMlengths (a0.toNatClampNeg)) + 1) : Int32).toInt ∧ (((sMlengths (a0.toNatClampNeg)) + 1) : Int32).toInt ≤ 24 ∧ ((a0.toNatClampNeg) < 16 → (((sMlengths (a0.toNatClampNeg)) + 1) : Int32).toInt ≤ 8); omega))
                  refine So.gd (i_in.mpr (by omega)) ?_
                  exact So.one ⟨I_563, I_645, I_649, (by show 0 ≤ (Mo_thrown sMo_5).toInt; omega), (by show (Mo_thrown sMo_5).toInt ≤ 2; omega), (by show (Mo_used sMo_5).toInt = (Mo_used sMo).toInt; omega), (by show (Mo_taped sMo_5).toInt = (Mo_taped sMo).toInt; omega), (by show (Mo_madeMany sMo_5).toInt = (Mo_madeMany sMo).toInt; omega), (by show (Mo_madeKind sMo_5).toInt = (Mo_madeKind sMo).toInt; omega), (by show (Mo_madeSubsets sMo_5).toInt = (Mo_madeSubsets sMo).toInt; omega), (by show (Mo_written sMo_5).toInt = (Mo_written sMo).toInt; omega)⟩
                · rw [i_le] at c_640
                  exact So.one ⟨I_563, I_sMlists, I_sMlengths, (by show 0 ≤ (Mo_thrown sMo_5).toInt; omega), (by show (Mo_thrown sMo_5).toInt ≤ 2; omega), (by show (Mo_used sMo_5).toInt = (Mo_used sMo).toInt; omega), (by show (Mo_taped sMo_5).toInt = (Mo_taped sMo).toInt; omega), (by show (Mo_madeMany sMo_5).toInt = (Mo_madeMany sMo).toInt; omega), (by show (Mo_madeKind sMo_5).toInt = (Mo_madeKind sMo).toInt; omega), (by show (Mo_madeSubsets sMo_5).toInt = (Mo_madeSubsets sMo).toInt; omega), (by show (Mo_written sMo_5).toInt = (Mo_written sMo).toInt; omega)⟩
          · rw [i_eq] at c_572
            unfold Mod_append_j70
            refine So.ite (fun c_650 => ?_) (fun c_650 => ?_)
            · rw [i_le] at c_650
              refine So.gd (i_in.mpr (by omega)) ?_
              have k_651 : (24 : Int32).toInt = 24 := by decide
              first | have f_652 := i_mull 24 a0 (24) (by decide) (by omega) (by omega) | have f_652 := i_mullm 24 a0 (24) (by decide)
              have f_653 := A_Mlengths_at I_sMlengths (a0.toNatClampNeg)
              have f_654 := i_natm a0
              first | have f_655 := i_add (a := (24 * a0)) (b := (sMlengths (a0.toNatClampNeg))) (by omega) (by omega) | have f_655 := i_addm (24 * a0) (sMlengths (a0.toNatClampNeg))
              refine So.gd (i_in.mpr (by omega)) ?_
              refine So.lt2 fun sMlists_14 e_656 => ?_
              have f_657 := i_natm ((24 * a0) + (sMlengths (a0.toNatClampNeg)))
              have I_658 : A_Mlists sMlists_14 := by rw [e_656]; exact (A_Mlists_upd I_sMlists (by show (0 ≤ (a1 : Int32).toInt ∧ (a1 : Int32).toInt ≤ 63) ∨ (100 ≤ (a1 : Int32).toInt ∧ (a1 : Int32).toInt ≤ 115) ∨ (216 ≤ (a1 : Int32).toInt ∧ (a1 : Int32).toInt ≤ 343) ∨ (400 ≤ (a1 : Int32).toInt ∧ (a1 : Int32).toInt ≤ 487) ∨ (501 ≤ (a1 : Int32).toInt ∧ (a1 : Int32).toInt ≤ 516) ∨ (a1 : Int32).toInt = 520; omega))
              refine So.gd (i_in.mpr (by omega)) ?_
              refine So.gd (i_in.mpr (by omega)) ?_
              refine So.lt2 fun sMlengths_17 e_659 => ?_
              have k_660 : (1 : Int32).toInt = 1 := by decide
              first | have f_661 := i_add (a := (sMlengths (a0.toNatClampNeg))) (b := 1) (by omega) (by omega) | have f_661 := i_addm (sMlengths (a0.toNatClampNeg)) 1
              have I_662 : A_Mlengths sMlengths_17 := by rw [e_659]; exact (A_Mlengths_upd I_sMlengths (by show 0 ≤ (((sMlengths (a0.toNatClampNeg)) + 1) : Int32).toInt ∧ (((sMlengths (a0.toNatClampNeg)) + 1) : Int32).toInt ≤ 24 ∧ ((a0.toNatClampNeg) < 16 → (((sMlengths (a0.toNatClampNeg)) + 1) : Int32).toInt ≤ 8); omega))
              refine So.gd (i_in.mpr (by omega)) ?_
              exact So.one ⟨I_563, I_658, I_662, (by show 0 ≤ (Mo_thrown sMo_5).toInt; omega), (by show (Mo_thrown sMo_5).toInt ≤ 2; omega), (by show (Mo_used sMo_5).toInt = (Mo_used sMo).toInt; omega), (by show (Mo_taped sMo_5).toInt = (Mo_taped sMo).toInt; omega), (by show (Mo_madeMany sMo_5).toInt = (Mo_madeMany sMo).toInt; omega), (by show (Mo_madeKind sMo_5).toInt = (Mo_madeKind sMo).toInt; omega), (by show (Mo_madeSubsets sMo_5).toInt = (Mo_madeSubsets sMo).toInt; omega), (by show (Mo_written sMo_5).toInt = (Mo_written sMo).toInt; omega)⟩
            · rw [i_le] at c_650
              exact So.one ⟨I_563, I_sMlists, I_sMlengths, (by show 0 ≤ (Mo_thrown sMo_5).toInt; omega), (by show (Mo_thrown sMo_5).toInt ≤ 2; omega), (by show (Mo_used sMo_5).toInt = (Mo_used sMo).toInt; omega), (by show (Mo_taped sMo_5).toInt = (Mo_taped sMo).toInt; omega), (by show (Mo_madeMany sMo_5).toInt = (Mo_madeMany sMo).toInt; omega), (by show (Mo_madeKind sMo_5).toInt = (Mo_madeKind sMo).toInt; omega), (by show (Mo_madeSubsets sMo_5).toInt = (Mo_madeSubsets sMo).toInt; omega), (by show (Mo_written sMo_5).toInt = (Mo_written sMo).toInt; omega)⟩
        · rw [i_le] at c_571
          unfold Mod_append_j37
          refine So.ite (fun c_663 => ?_) (fun c_663 => ?_)
          · rw [i_eq] at c_663
            have k_664 : (16 : Int32).toInt = 16 := by decide
            refine So.gd (i_in.mpr (by omega)) ?_
            refine So.ite (fun c_665 => ?_) (fun c_665 => ?_)
            · rw [i_le] at c_665
              unfold Mod_append_j62
              refine So.ite (fun c_666 => ?_) (fun c_666 => ?_)
              · rw [i_eq] at c_666
                have f_667 := A_Mlengths_at I_sMlengths ((16 : Int32).toNatClampNeg)
                have f_668 := i_natm (16 : Int32)
                have k_669 : (8 : Int32).toInt = 8 := by decide
                refine So.lt2 fun sMo_10 e_670 => ?_
                have I_671 : I_Mo sMo_10 := by rw [e_670]; exact (I_Mo_set_thrown I_563)
                have k_672 : (2 : Int32).toInt = 2 := by decide
                have f_673 : (Mo_thrown sMo_10).toInt = (2 : Int32).toInt := by subst e_670; rfl
                have f_674 : (Mo_used sMo_10).toInt = (Mo_used sMo_5).toInt := by subst e_670; rfl
                have f_675 : (Mo_madeMany sMo_10).toInt = (Mo_madeMany sMo_5).toInt := by subst e_670; rfl
                have f_676 : (Mo_madeKind sMo_10).toInt = (Mo_madeKind sMo_5).toInt := by subst e_670; rfl
                have f_677 : (Mo_madeSubsets sMo_10).toInt = (Mo_madeSubsets sMo_5).toInt := by subst e_670; rfl
                have f_678 : (Mo_written sMo_10).toInt = (Mo_written sMo_5).toInt := by subst e_670; rfl
                have f_679 : (Mo_taped sMo_10).toInt = (Mo_taped sMo_5).toInt := by subst e_670; rfl
                unfold Mod_append_j70
                refine So.ite (fun c_680 => ?_) (fun c_680 => ?_)
                · rw [i_le] at c_680
                  refine So.gd (i_in.mpr (by omega)) ?_
                  have k_681 : ((24 * 16) : Int32).toInt = 384 := by decide
                  first | have f_682 := i_add (a := ((24 * 16) : Int32)) (b := (sMlengths ((16 : Int32).toNatClampNeg))) (by omega) (by omega) | have f_682 := i_addm ((24 * 16) : Int32) (sMlengths ((16 : Int32).toNatClampNeg))
                  refine So.gd (i_in.mpr (by omega)) ?_
                  refine So.lt2 fun sMlists_14 e_683 => ?_
                  have f_684 := i_natm ((24 * 16) + (sMlengths ((16 : Int32).toNatClampNeg)))
                  have I_685 : A_Mlists sMlists_14 := by rw [e_683]; exact (A_Mlists_upd I_sMlists (by show (0 ≤ (a1 : Int32).toInt ∧ (a1 : Int32).toInt ≤ 63) ∨ (100 ≤ (a1 : Int32).toInt ∧ (a1 : Int32).toInt ≤ 115) ∨ (216 ≤ (a1 : Int32).toInt ∧ (a1 : Int32).toInt ≤ 343) ∨ (400 ≤ (a1 : Int32).toInt ∧ (a1 : Int32).toInt ≤ 487) ∨ (501 ≤ (a1 : Int32).toInt ∧ (a1 : Int32).toInt ≤ 516) ∨ (a1 : Int32).toInt = 520; omega))
                  refine So.gd (i_in.mpr (by omega)) ?_
                  refine So.gd (i_in.mpr (by omega)) ?_
                  refine So.lt2 fun sMlengths_17 e_686 => ?_
                  have k_687 : (1 : Int32).toInt = 1 := by decide
                  first | have f_688 := i_add (a := (sMlengths ((16 : Int32).toNatClampNeg))) (b := 1) (by omega) (by omega) | have f_688 := i_addm (sMlengths ((16 : Int32).toNatClampNeg)) 1
                  have I_689 : A_Mlengths sMlengths_17 := by rw [e_686]; exact (A_Mlengths_upd I_sMlengths (by show 0 ≤ (((sMlengths ((16 : Int32).toNatClampNeg)) + 1) : Int32).toInt ∧ (((sMlengths ((16 : Int32).toNatClampNeg)) + 1) : Int32).toInt ≤ 24 ∧ (((16 : Int32).toNatClampNeg) < 16 → (((sMlengths ((16 : Int32).toNatClampNeg)) + 1) : Int32).toInt ≤ 8); omega))
                  refine So.gd (i_in.mpr (by omega)) ?_
                  exact So.one ⟨I_671, I_685, I_689, (by show 0 ≤ (Mo_thrown sMo_10).toInt; omega), (by show (Mo_thrown sMo_10).toInt ≤ 2; omega), (by show (Mo_used sMo_10).toInt = (Mo_used sMo).toInt; omega), (by show (Mo_taped sMo_10).toInt = (Mo_taped sMo).toInt; omega), (by show (Mo_madeMany sMo_10).toInt = (Mo_madeMany sMo).toInt; omega), (by show (Mo_madeKind sMo_10).toInt = (Mo_madeKind sMo).toInt; omega), (by show (Mo_madeSubsets sMo_10).toInt = (Mo_madeSubsets sMo).toInt; omega), (by show (Mo_written sMo_10).toInt = (Mo_written sMo).toInt; omega)⟩
                · rw [i_le] at c_680
                  exact So.one ⟨I_671, I_sMlists, I_sMlengths, (by show 0 ≤ (Mo_thrown sMo_10).toInt; omega), (by show (Mo_thrown sMo_10).toInt ≤ 2; omega), (by show (Mo_used sMo_10).toInt = (Mo_used sMo).toInt; omega), (by show (Mo_taped sMo_10).toInt = (Mo_taped sMo).toInt; omega), (by show (Mo_madeMany sMo_10).toInt = (Mo_madeMany sMo).toInt; omega), (by show (Mo_madeKind sMo_10).toInt = (Mo_madeKind sMo).toInt; omega), (by show (Mo_madeSubsets sMo_10).toInt = (Mo_madeSubsets sMo).toInt; omega), (by show (Mo_written sMo_10).toInt = (Mo_written sMo).toInt; omega)⟩
              · rw [i_eq] at c_666
                have f_690 := A_Mlengths_at I_sMlengths ((16 : Int32).toNatClampNeg)
                have f_691 := i_natm (16 : Int32)
                have k_692 : (8 : Int32).toInt = 8 := by decide
                unfold Mod_append_j70
                refine So.ite (fun c_693 => ?_) (fun c_693 => ?_)
                · rw [i_le] at c_693
                  refine So.gd (i_in.mpr (by omega)) ?_
                  have k_694 : ((24 * 16) : Int32).toInt = 384 := by decide
                  first | have f_695 := i_add (a := ((24 * 16) : Int32)) (b := (sMlengths ((16 : Int32).toNatClampNeg))) (by omega) (by omega) | have f_695 := i_addm ((24 * 16) : Int32) (sMlengths ((16 : Int32).toNatClampNeg))
                  refine So.gd (i_in.mpr (by omega)) ?_
                  refine So.lt2 fun sMlists_14 e_696 => ?_
                  have f_697 := i_natm ((24 * 16) + (sMlengths ((16 : Int32).toNatClampNeg)))
                  have I_698 : A_Mlists sMlists_14 := by rw [e_696]; exact (A_Mlists_upd I_sMlists (by show (0 ≤ (a1 : Int32).toInt ∧ (a1 : Int32).toInt ≤ 63) ∨ (100 ≤ (a1 : Int32).toInt ∧ (a1 : Int32).toInt ≤ 115) ∨ (216 ≤ (a1 : Int32).toInt ∧ (a1 : Int32).toInt ≤ 343) ∨ (400 ≤ (a1 : Int32).toInt ∧ (a1 : Int32).toInt ≤ 487) ∨ (501 ≤ (a1 : Int32).toInt ∧ (a1 : Int32).toInt ≤ 516) ∨ (a1 : Int32).toInt = 520; omega))
                  refine So.gd (i_in.mpr (by omega)) ?_
                  refine So.gd (i_in.mpr (by omega)) ?_
                  refine So.lt2 fun sMlengths_17 e_699 => ?_
                  have k_700 : (1 : Int32).toInt = 1 := by decide
                  first | have f_701 := i_add (a := (sMlengths ((16 : Int32).toNatClampNeg))) (b := 1) (by omega) (by omega) | have f_701 := i_addm (sMlengths ((16 : Int32).toNatClampNeg)) 1
                  have I_702 : A_Mlengths sMlengths_17 := by rw [e_699]; exact (A_Mlengths_upd I_sMlengths (by show 0 ≤ (((sMlengths ((16 : Int32).toNatClampNeg)) + 1) : Int32).toInt ∧ (((sMlengths ((16 : Int32).toNatClampNeg)) + 1) : Int32).toInt ≤ 24 ∧ (((16 : Int32).toNatClampNeg) < 16 → (((sMlengths ((16 : Int32).toNatClampNeg)) + 1) : Int32).toInt ≤ 8); omega))
                  refine So.gd (i_in.mpr (by omega)) ?_
                  exact So.one ⟨I_563, I_698, I_702, (by show 0 ≤ (Mo_thrown sMo_5).toInt; omega), (by show (Mo_thrown sMo_5).toInt ≤ 2; omega), (by show (Mo_used sMo_5).toInt = (Mo_used sMo).toInt; omega), (by show (Mo_taped sMo_5).toInt = (Mo_taped sMo).toInt; omega), (by show (Mo_madeMany sMo_5).toInt = (Mo_madeMany sMo).toInt; omega), (by show (Mo_madeKind sMo_5).toInt = (Mo_madeKind sMo).toInt; omega), (by show (Mo_madeSubsets sMo_5).toInt = (Mo_madeSubsets sMo).toInt; omega), (by show (Mo_written sMo_5).toInt = (Mo_written sMo).toInt; omega)⟩
                · rw [i_le] at c_693
                  exact So.one ⟨I_563, I_sMlists, I_sMlengths, (by show 0 ≤ (Mo_thrown sMo_5).toInt; omega), (by show (Mo_thrown sMo_5).toInt ≤ 2; omega), (by show (Mo_used sMo_5).toInt = (Mo_used sMo).toInt; omega), (by show (Mo_taped sMo_5).toInt = (Mo_taped sMo).toInt; omega), (by show (Mo_madeMany sMo_5).toInt = (Mo_madeMany sMo).toInt; omega), (by show (Mo_madeKind sMo_5).toInt = (Mo_madeKind sMo).toInt; omega), (by show (Mo_madeSubsets sMo_5).toInt = (Mo_madeSubsets sMo).toInt; omega), (by show (Mo_written sMo_5).toInt = (Mo_written sMo).toInt; omega)⟩
            · rw [i_le] at c_665
              unfold Mod_append_j62
              refine So.ite (fun c_703 => ?_) (fun c_703 => ?_)
              · rw [i_eq] at c_703
                have f_704 := A_Mlengths_at I_sMlengths ((16 : Int32).toNatClampNeg)
                have f_705 := i_natm (16 : Int32)
                have k_706 : (24 : Int32).toInt = 24 := by decide
                refine So.lt2 fun sMo_10 e_707 => ?_
                have I_708 : I_Mo sMo_10 := by rw [e_707]; exact (I_Mo_set_thrown I_563)
                have k_709 : (2 : Int32).toInt = 2 := by decide
                have f_710 : (Mo_thrown sMo_10).toInt = (2 : Int32).toInt := by subst e_707; rfl
                have f_711 : (Mo_used sMo_10).toInt = (Mo_used sMo_5).toInt := by subst e_707; rfl
                have f_712 : (Mo_madeMany sMo_10).toInt = (Mo_madeMany sMo_5).toInt := by subst e_707; rfl
                have f_713 : (Mo_madeKind sMo_10).toInt = (Mo_madeKind sMo_5).toInt := by subst e_707; rfl
                have f_714 : (Mo_madeSubsets sMo_10).toInt = (Mo_madeSubsets sMo_5).toInt := by subst e_707; rfl
                have f_715 : (Mo_written sMo_10).toInt = (Mo_written sMo_5).toInt := by subst e_707; rfl
                have f_716 : (Mo_taped sMo_10).toInt = (Mo_taped sMo_5).toInt := by subst e_707; rfl
                unfold Mod_append_j70
                refine So.ite (fun c_717 => ?_) (fun c_717 => ?_)
                · rw [i_le] at c_717
                  refine So.gd (i_in.mpr (by omega)) ?_
                  have k_718 : ((24 * 16) : Int32).toInt = 384 := by decide
                  first | have f_719 := i_add (a := ((24 * 16) : Int32)) (b := (sMlengths ((16 : Int32).toNatClampNeg))) (by omega) (by omega) | have f_719 := i_addm ((24 * 16) : Int32) (sMlengths ((16 : Int32).toNatClampNeg))
                  refine So.gd (i_in.mpr (by omega)) ?_
                  refine So.lt2 fun sMlists_14 e_720 => ?_
                  have f_721 := i_natm ((24 * 16) + (sMlengths ((16 : Int32).toNatClampNeg)))
                  have I_722 : A_Mlists sMlists_14 := by rw [e_720]; exact (A_Mlists_upd I_sMlists (by show (0 ≤ (a1 : Int32).toInt ∧ (a1 : Int32).toInt ≤ 63) ∨ (100 ≤ (a1 : Int32).toInt ∧ (a1 : Int32).toInt ≤ 115) ∨ (216 ≤ (a1 : Int32).toInt ∧ (a1 : Int32).toInt ≤ 343) ∨ (400 ≤ (a1 : Int32).toInt ∧ (a1 : Int32).toInt ≤ 487) ∨ (501 ≤ (a1 : Int32).toInt ∧ (a1 : Int32).toInt ≤ 516) ∨ (a1 : Int32).toInt = 520; omega))
                  refine So.gd (i_in.mpr (by omega)) ?_
                  refine So.gd (i_in.mpr (by omega)) ?_
                  refine So.lt2 fun sMlengths_17 e_723 => ?_
                  have k_724 : (1 : Int32).toInt = 1 := by decide
                  first | have f_725 := i_add (a := (sMlengths ((16 : Int32).toNatClampNeg))) (b := 1) (by omega) (by omega) | have f_725 := i_addm (sMlengths ((16 : Int32).toNatClampNeg)) 1
                  have I_726 : A_Mlengths sMlengths_17 := by rw [e_723]; exact (A_Mlengths_upd I_sMlengths (by show 0 ≤ (((sMlengths ((16 : Int32).toNatClampNeg)) + 1) : Int32).toInt ∧ (((sMlengths ((16 : Int32).toNatClampNeg)) + 1) : Int32).toInt ≤ 24 ∧ (((16 : Int32).toNatClampNeg) < 16 → (((sMlengths ((16 : Int32).toNatClampNeg)) + 1) : Int32).toInt ≤ 8); omega))
                  refine So.gd (i_in.mpr (by omega)) ?_
                  exact So.one ⟨I_708, I_722, I_726, (by show 0 ≤ (Mo_thrown sMo_10).toInt; omega), (by show (Mo_thrown sMo_10).toInt ≤ 2; omega), (by show (Mo_used sMo_10).toInt = (Mo_used sMo).toInt; omega), (by show (Mo_taped sMo_10).toInt = (Mo_taped sMo).toInt; omega), (by show (Mo_madeMany sMo_10).toInt = (Mo_madeMany sMo).toInt; omega), (by show (Mo_madeKind sMo_10).toInt = (Mo_madeKind sMo).toInt; omega), (by show (Mo_madeSubsets sMo_10).toInt = (Mo_madeSubsets sMo).toInt; omega), (by show (Mo_written sMo_10).toInt = (Mo_written sMo).toInt; omega)⟩
                · rw [i_le] at c_717
                  exact So.one ⟨I_708, I_sMlists, I_sMlengths, (by show 0 ≤ (Mo_thrown sMo_10).toInt; omega), (by show (Mo_thrown sMo_10).toInt ≤ 2; omega), (by show (Mo_used sMo_10).toInt = (Mo_used sMo).toInt; omega), (by show (Mo_taped sMo_10).toInt = (Mo_taped sMo).toInt; omega), (by show (Mo_madeMany sMo_10).toInt = (Mo_madeMany sMo).toInt; omega), (by show (Mo_madeKind sMo_10).toInt = (Mo_madeKind sMo).toInt; omega), (by show (Mo_madeSubsets sMo_10).toInt = (Mo_madeSubsets sMo).toInt; omega), (by show (Mo_written sMo_10).toInt = (Mo_written sMo).toInt; omega)⟩
              · rw [i_eq] at c_703
                have f_727 := A_Mlengths_at I_sMlengths ((16 : Int32).toNatClampNeg)
                have f_728 := i_natm (16 : Int32)
                have k_729 : (24 : Int32).toInt = 24 := by decide
                unfold Mod_append_j70
                refine So.ite (fun c_730 => ?_) (fun c_730 => ?_)
                · rw [i_le] at c_730
                  refine So.gd (i_in.mpr (by omega)) ?_
                  have k_731 : ((24 * 16) : Int32).toInt = 384 := by decide
                  first | have f_732 := i_add (a := ((24 * 16) : Int32)) (b := (sMlengths ((16 : Int32).toNatClampNeg))) (by omega) (by omega) | have f_732 := i_addm ((24 * 16) : Int32) (sMlengths ((16 : Int32).toNatClampNeg))
                  refine So.gd (i_in.mpr (by omega)) ?_
                  refine So.lt2 fun sMlists_14 e_733 => ?_
                  have f_734 := i_natm ((24 * 16) + (sMlengths ((16 : Int32).toNatClampNeg)))
                  have I_735 : A_Mlists sMlists_14 := by rw [e_733]; exact (A_Mlists_upd I_sMlists (by show (0 ≤ (a1 : Int32).toInt ∧ (a1 : Int32).toInt ≤ 63) ∨ (100 ≤ (a1 : Int32).toInt ∧ (a1 : Int32).toInt ≤ 115) ∨ (216 ≤ (a1 : Int32).toInt ∧ (a1 : Int32).toInt ≤ 343) ∨ (400 ≤ (a1 : Int32).toInt ∧ (a1 : Int32).toInt ≤ 487) ∨ (501 ≤ (a1 : Int32).toInt ∧ (a1 : Int32).toInt ≤ 516) ∨ (a1 : Int32).toInt = 520; omega))
                  refine So.gd (i_in.mpr (by omega)) ?_
                  refine So.gd (i_in.mpr (by omega)) ?_
                  refine So.lt2 fun sMlengths_17 e_736 => ?_
                  have k_737 : (1 : Int32).toInt = 1 := by decide
                  first | have f_738 := i_add (a := (sMlengths ((16 : Int32).toNatClampNeg))) (b := 1) (by omega) (by omega) | have f_738 := i_addm (sMlengths ((16 : Int32).toNatClampNeg)) 1
                  have I_739 : A_Mlengths sMlengths_17 := by rw [e_736]; exact (A_Mlengths_upd I_sMlengths (by show 0 ≤ (((sMlengths ((16 : Int32).toNatClampNeg)) + 1) : Int32).toInt ∧ (((sMlengths ((16 : Int32).toNatClampNeg)) + 1) : Int32).toInt ≤ 24 ∧ (((16 : Int32).toNatClampNeg) < 16 → (((sMlengths ((16 : Int32).toNatClampNeg)) + 1) : Int32).toInt ≤ 8); omega))
                  refine So.gd (i_in.mpr (by omega)) ?_
                  exact So.one ⟨I_563, I_735, I_739, (by show 0 ≤ (Mo_thrown sMo_5).toInt; omega), (by show (Mo_thrown sMo_5).toInt ≤ 2; omega), (by show (Mo_used sMo_5).toInt = (Mo_used sMo).toInt; omega), (by show (Mo_taped sMo_5).toInt = (Mo_taped sMo).toInt; omega), (by show (Mo_madeMany sMo_5).toInt = (Mo_madeMany sMo).toInt; omega), (by show (Mo_madeKind sMo_5).toInt = (Mo_madeKind sMo).toInt; omega), (by show (Mo_madeSubsets sMo_5).toInt = (Mo_madeSubsets sMo).toInt; omega), (by show (Mo_written sMo_5).toInt = (Mo_written sMo).toInt; omega)⟩
                · rw [i_le] at c_730
                  exact So.one ⟨I_563, I_sMlists, I_sMlengths, (by show 0 ≤ (Mo_thrown sMo_5).toInt; omega), (by show (Mo_thrown sMo_5).toInt ≤ 2; omega), (by show (Mo_used sMo_5).toInt = (Mo_used sMo).toInt; omega), (by show (Mo_taped sMo_5).toInt = (Mo_taped sMo).toInt; omega), (by show (Mo_madeMany sMo_5).toInt = (Mo_madeMany sMo).toInt; omega), (by show (Mo_madeKind sMo_5).toInt = (Mo_madeKind sMo).toInt; omega), (by show (Mo_madeSubsets sMo_5).toInt = (Mo_madeSubsets sMo).toInt; omega), (by show (Mo_written sMo_5).toInt = (Mo_written sMo).toInt; omega)⟩
          · rw [i_eq] at c_663
            unfold Mod_append_j70
            refine So.ite (fun c_740 => ?_) (fun c_740 => ?_)
            · rw [i_le] at c_740
              have k_741 : (16 : Int32).toInt = 16 := by decide
              refine So.gd (i_in.mpr (by omega)) ?_
              have k_742 : ((24 * 16) : Int32).toInt = 384 := by decide
              have f_743 := A_Mlengths_at I_sMlengths ((16 : Int32).toNatClampNeg)
              have f_744 := i_natm (16 : Int32)
              first | have f_745 := i_add (a := ((24 * 16) : Int32)) (b := (sMlengths ((16 : Int32).toNatClampNeg))) (by omega) (by omega) | have f_745 := i_addm ((24 * 16) : Int32) (sMlengths ((16 : Int32).toNatClampNeg))
              refine So.gd (i_in.mpr (by omega)) ?_
              refine So.lt2 fun sMlists_14 e_746 => ?_
              have f_747 := i_natm ((24 * 16) + (sMlengths ((16 : Int32).toNatClampNeg)))
              have I_748 : A_Mlists sMlists_14 := by rw [e_746]; exact (A_Mlists_upd I_sMlists (by show (0 ≤ (a1 : Int32).toInt ∧ (a1 : Int32).toInt ≤ 63) ∨ (100 ≤ (a1 : Int32).toInt ∧ (a1 : Int32).toInt ≤ 115) ∨ (216 ≤ (a1 : Int32).toInt ∧ (a1 : Int32).toInt ≤ 343) ∨ (400 ≤ (a1 : Int32).toInt ∧ (a1 : Int32).toInt ≤ 487) ∨ (501 ≤ (a1 : Int32).toInt ∧ (a1 : Int32).toInt ≤ 516) ∨ (a1 : Int32).toInt = 520; omega))
              refine So.gd (i_in.mpr (by omega)) ?_
              refine So.gd (i_in.mpr (by omega)) ?_
              refine So.lt2 fun sMlengths_17 e_749 => ?_
              have k_750 : (1 : Int32).toInt = 1 := by decide
              first | have f_751 := i_add (a := (sMlengths ((16 : Int32).toNatClampNeg))) (b := 1) (by omega) (by omega) | have f_751 := i_addm (sMlengths ((16 : Int32).toNatClampNeg)) 1
              have I_752 : A_Mlengths sMlengths_17 := by rw [e_749]; exact (A_Mlengths_upd I_sMlengths (by show 0 ≤ (((sMlengths ((16 : Int32).toNatClampNeg)) + 1) : Int32).toInt ∧ (((sMlengths ((16 : Int32).toNatClampNeg)) + 1) : Int32).toInt ≤ 24 ∧ (((16 : Int32).toNatClampNeg) < 16 → (((sMlengths ((16 : Int32).toNatClampNeg)) + 1) : Int32).toInt ≤ 8); omega))
              refine So.gd (i_in.mpr (by omega)) ?_
              exact So.one ⟨I_563, I_748, I_752, (by show 0 ≤ (Mo_thrown sMo_5).toInt; omega), (by show (Mo_thrown sMo_5).toInt ≤ 2; omega), (by show (Mo_used sMo_5).toInt = (Mo_used sMo).toInt; omega), (by show (Mo_taped sMo_5).toInt = (Mo_taped sMo).toInt; omega), (by show (Mo_madeMany sMo_5).toInt = (Mo_madeMany sMo).toInt; omega), (by show (Mo_madeKind sMo_5).toInt = (Mo_madeKind sMo).toInt; omega), (by show (Mo_madeSubsets sMo_5).toInt = (Mo_madeSubsets sMo).toInt; omega), (by show (Mo_written sMo_5).toInt = (Mo_written sMo).toInt; omega)⟩
            · rw [i_le] at c_740
              exact So.one ⟨I_563, I_sMlists, I_sMlengths, (by show 0 ≤ (Mo_thrown sMo_5).toInt; omega), (by show (Mo_thrown sMo_5).toInt ≤ 2; omega), (by show (Mo_used sMo_5).toInt = (Mo_used sMo).toInt; omega), (by show (Mo_taped sMo_5).toInt = (Mo_taped sMo).toInt; omega), (by show (Mo_madeMany sMo_5).toInt = (Mo_madeMany sMo).toInt; omega), (by show (Mo_madeKind sMo_5).toInt = (Mo_madeKind sMo).toInt; omega), (by show (Mo_madeSubsets sMo_5).toInt = (Mo_madeSubsets sMo).toInt; omega), (by show (Mo_written sMo_5).toInt = (Mo_written sMo).toInt; omega)⟩
theorem t_Mod_clear {a0 : Int32} {sMo : S_Mo} {sMlengths : (Nat → Int32)} (I_sMo : I_Mo sMo) (I_sMlengths : A_Mlengths sMlengths) : So (Mod_clear a0 sMo sMlengths) (fun r => I_Mo r.1 ∧ A_Mlengths r.2 ∧ (((Mo_thrown r.1).toInt = 0 ∧ (-1 ≤ a0.toInt ∧ a0.toInt < 16)) ∨ ((Mo_thrown r.1).toInt = 1 ∧ ¬ (-1 ≤ a0.toInt ∧ a0.toInt < 16))) ∧ ((Mo_used r.1).toInt = (Mo_used sMo).toInt) ∧ ((Mo_taped r.1).toInt = (Mo_taped sMo).toInt) ∧ ((Mo_madeMany r.1).toInt = (Mo_madeMany sMo).toInt) ∧ ((Mo_madeKind r.1).toInt = (Mo_madeKind sMo).toInt) ∧ ((Mo_madeSubsets r.1).toInt = (Mo_madeSubsets sMo).toInt) ∧ ((Mo_written r.1).toInt = (Mo_written sMo).toInt)) := by
  unfold Mod_clear
  refine So.ite (fun c_1 => ?_) (fun c_1 => ?_)
  · rw [i_lt] at c_1
    have k_2 : ((-1) : Int32).toInt = -1 := by decide
    unfold Mod_clear_j12
    unfold Mod_clear_j17
    refine So.lt2 fun sMo_3 e_3 => ?_
    have I_4 : I_Mo sMo_3 := by rw [e_3]; exact (I_Mo_set_thrown I_sMo)
    have k_5 : (1 : Int32).toInt = 1 := by decide
    have f_6 : (Mo_thrown sMo_3).toInt = (1 : Int32).toInt := by subst e_3; rfl
    have f_7 : (Mo_used sMo_3).toInt = (Mo_used sMo).toInt := by subst e_3; rfl
    have f_8 : (Mo_madeMany sMo_3).toInt = (Mo_madeMany sMo).toInt := by subst e_3; rfl
    have f_9 : (Mo_madeKind sMo_3).toInt = (Mo_madeKind sMo).toInt := by subst e_3; rfl
    have f_10 : (Mo_madeSubsets sMo_3).toInt = (Mo_madeSubsets sMo).toInt := by subst e_3; rfl
    have f_11 : (Mo_written sMo_3).toInt = (Mo_written sMo).toInt := by subst e_3; rfl
    have f_12 : (Mo_taped sMo_3).toInt = (Mo_taped sMo).toInt := by subst e_3; rfl
    refine So.ite (fun c_13 => ?_) (fun c_13 => ?_)
    · rw [i_eq] at c_13
      have k_14 : (0 : Int32).toInt = 0 := by decide
      refine So.ite (fun c_15 => ?_) (fun c_15 => ?_)
      · rw [i_le] at c_15
        refine So.gd (i_in.mpr (by omega)) ?_
        refine So.lt2 fun sMlengths_5 e_16 => ?_
        have f_17 := i_natm a0
        have I_18 : A_Mlengths sMlengths_5 := by rw [e_16]; exact (A_Mlengths_upd I_sMlengths (by show 0 ≤ (0 : Int32).toInt ∧ (0 : Int32).toInt ≤ 24 ∧ ((a0.toNatClampNeg) < 16 → (0 : Int32).toInt ≤ 8); omega))
        exact So.one ⟨I_4, I_18, (by show ((Mo_thrown sMo_3).toInt = 0 ∧ (-1 ≤ a0.toInt ∧ a0.toInt < 16)) ∨ ((Mo_thrown sMo_3).toInt = 1 ∧ ¬ (-1 ≤ a0.toInt ∧ a0.toInt < 16)); omega), (by show (Mo_used sMo_3).toInt = (Mo_used sMo).toInt; omega), (by show (Mo_taped sMo_3).toInt = (Mo_taped sMo).toInt; omega), (by show (Mo_madeMany sMo_3).toInt = (Mo_madeMany sMo).toInt; omega), (by show (Mo_madeKind sMo_3).toInt = (Mo_madeKind sMo).toInt; omega), (by show (Mo_madeSubsets sMo_3).toInt = (Mo_madeSubsets sMo).toInt; omega), (by show (Mo_written sMo_3).toInt = (Mo_written sMo).toInt; omega)⟩
      · rw [i_le] at c_15
        have k_19 : (16 : Int32).toInt = 16 := by decide
        refine So.gd (i_in.mpr (by omega)) ?_
        refine So.lt2 fun sMlengths_7 e_20 => ?_
        have f_21 := i_natm (16 : Int32)
        have I_22 : A_Mlengths sMlengths_7 := by rw [e_20]; exact (A_Mlengths_upd I_sMlengths (by show 0 ≤ (0 : Int32).toInt ∧ (0 : Int32).toInt ≤ 24 ∧ (((16 : Int32).toNatClampNeg) < 16 → (0 : Int32).toInt ≤ 8); omega))
        exact So.one ⟨I_4, I_22, (by show ((Mo_thrown sMo_3).toInt = 0 ∧ (-1 ≤ a0.toInt ∧ a0.toInt < 16)) ∨ ((Mo_thrown sMo_3).toInt = 1 ∧ ¬ (-1 ≤ a0.toInt ∧ a0.toInt < 16)); omega), (by show (Mo_used sMo_3).toInt = (Mo_used sMo).toInt; omega), (by show (Mo_taped sMo_3).toInt = (Mo_taped sMo).toInt; omega), (by show (Mo_madeMany sMo_3).toInt = (Mo_madeMany sMo).toInt; omega), (by show (Mo_madeKind sMo_3).toInt = (Mo_madeKind sMo).toInt; omega), (by show (Mo_madeSubsets sMo_3).toInt = (Mo_madeSubsets sMo).toInt; omega), (by show (Mo_written sMo_3).toInt = (Mo_written sMo).toInt; omega)⟩
    · rw [i_eq] at c_13
      have k_23 : (0 : Int32).toInt = 0 := by decide
      exact So.one ⟨I_4, I_sMlengths, (by show ((Mo_thrown sMo_3).toInt = 0 ∧ (-1 ≤ a0.toInt ∧ a0.toInt < 16)) ∨ ((Mo_thrown sMo_3).toInt = 1 ∧ ¬ (-1 ≤ a0.toInt ∧ a0.toInt < 16)); omega), (by show (Mo_used sMo_3).toInt = (Mo_used sMo).toInt; omega), (by show (Mo_taped sMo_3).toInt = (Mo_taped sMo).toInt; omega), (by show (Mo_madeMany sMo_3).toInt = (Mo_madeMany sMo).toInt; omega), (by show (Mo_madeKind sMo_3).toInt = (Mo_madeKind sMo).toInt; omega), (by show (Mo_madeSubsets sMo_3).toInt = (Mo_madeSubsets sMo).toInt; omega), (by show (Mo_written sMo_3).toInt = (Mo_written sMo).toInt; omega)⟩
  · rw [i_lt] at c_1
    have k_24 : ((-1) : Int32).toInt = -1 := by decide
    refine So.ite (fun c_25 => ?_) (fun c_25 => ?_)
    · rw [i_le] at c_25
      have k_26 : (15 : Int32).toInt = 15 := by decide
      unfold Mod_clear_j17
      refine So.lt2 fun sMo_3 e_27 => ?_
      have I_28 : I_Mo sMo_3 := by rw [e_27]; exact (I_Mo_set_thrown I_sMo)
      have k_29 : (0 : Int32).toInt = 0 := by decide
      have f_30 : (Mo_thrown sMo_3).toInt = (0 : Int32).toInt := by subst e_27; rfl
      have f_31 : (Mo_used sMo_3).toInt = (Mo_used sMo).toInt := by subst e_27; rfl
      have f_32 : (Mo_madeMany sMo_3).toInt = (Mo_madeMany sMo).toInt := by subst e_27; rfl
      have f_33 : (Mo_madeKind sMo_3).toInt = (Mo_madeKind sMo).toInt := by subst e_27; rfl
      have f_34 : (Mo_madeSubsets sMo_3).toInt = (Mo_madeSubsets sMo).toInt := by subst e_27; rfl
      have f_35 : (Mo_written sMo_3).toInt = (Mo_written sMo).toInt := by subst e_27; rfl
      have f_36 : (Mo_taped sMo_3).toInt = (Mo_taped sMo).toInt := by subst e_27; rfl
      refine So.ite (fun c_37 => ?_) (fun c_37 => ?_)
      · rw [i_eq] at c_37
        refine So.ite (fun c_38 => ?_) (fun c_38 => ?_)
        · rw [i_le] at c_38
          refine So.gd (i_in.mpr (by omega)) ?_
          refine So.lt2 fun sMlengths_5 e_39 => ?_
          have f_40 := i_natm a0
          have I_41 : A_Mlengths sMlengths_5 := by rw [e_39]; exact (A_Mlengths_upd I_sMlengths (by show 0 ≤ (0 : Int32).toInt ∧ (0 : Int32).toInt ≤ 24 ∧ ((a0.toNatClampNeg) < 16 → (0 : Int32).toInt ≤ 8); omega))
          exact So.one ⟨I_28, I_41, (by show ((Mo_thrown sMo_3).toInt = 0 ∧ (-1 ≤ a0.toInt ∧ a0.toInt < 16)) ∨ ((Mo_thrown sMo_3).toInt = 1 ∧ ¬ (-1 ≤ a0.toInt ∧ a0.toInt < 16)); omega), (by show (Mo_used sMo_3).toInt = (Mo_used sMo).toInt; omega), (by show (Mo_taped sMo_3).toInt = (Mo_taped sMo).toInt; omega), (by show (Mo_madeMany sMo_3).toInt = (Mo_madeMany sMo).toInt; omega), (by show (Mo_madeKind sMo_3).toInt = (Mo_madeKind sMo).toInt; omega), (by show (Mo_madeSubsets sMo_3).toInt = (Mo_madeSubsets sMo).toInt; omega), (by show (Mo_written sMo_3).toInt = (Mo_written sMo).toInt; omega)⟩
        · rw [i_le] at c_38
          have k_42 : (16 : Int32).toInt = 16 := by decide
          refine So.gd (i_in.mpr (by omega)) ?_
          refine So.lt2 fun sMlengths_7 e_43 => ?_
          have f_44 := i_natm (16 : Int32)
          have I_45 : A_Mlengths sMlengths_7 := by rw [e_43]; exact (A_Mlengths_upd I_sMlengths (by show 0 ≤ (0 : Int32).toInt ∧ (0 : Int32).toInt ≤ 24 ∧ (((16 : Int32).toNatClampNeg) < 16 → (0 : Int32).toInt ≤ 8); omega))
          exact So.one ⟨I_28, I_45, (by show ((Mo_thrown sMo_3).toInt = 0 ∧ (-1 ≤ a0.toInt ∧ a0.toInt < 16)) ∨ ((Mo_thrown sMo_3).toInt = 1 ∧ ¬ (-1 ≤ a0.toInt ∧ a0.toInt < 16)); omega), (by show (Mo_used sMo_3).toInt = (Mo_used sMo).toInt; omega), (by show (Mo_taped sMo_3).toInt = (Mo_taped sMo).toInt; omega), (by show (Mo_madeMany sMo_3).toInt = (Mo_madeMany sMo).toInt; omega), (by show (Mo_madeKind sMo_3).toInt = (Mo_madeKind sMo).toInt; omega), (by show (Mo_madeSubsets sMo_3).toInt = (Mo_madeSubsets sMo).toInt; omega), (by show (Mo_written sMo_3).toInt = (Mo_written sMo).toInt; omega)⟩
      · rw [i_eq] at c_37
        exact So.one ⟨I_28, I_sMlengths, (by show ((Mo_thrown sMo_3).toInt = 0 ∧ (-1 ≤ a0.toInt ∧ a0.toInt < 16)) ∨ ((Mo_thrown sMo_3).toInt = 1 ∧ ¬ (-1 ≤ a0.toInt ∧ a0.toInt < 16)); omega), (by show (Mo_used sMo_3).toInt = (Mo_used sMo).toInt; omega), (by show (Mo_taped sMo_3).toInt = (Mo_taped sMo).toInt; omega), (by show (Mo_madeMany sMo_3).toInt = (Mo_madeMany sMo).toInt; omega), (by show (Mo_madeKind sMo_3).toInt = (Mo_madeKind sMo).toInt; omega), (by show (Mo_madeSubsets sMo_3).toInt = (Mo_madeSubsets sMo).toInt; omega), (by show (Mo_written sMo_3).toInt = (Mo_written sMo).toInt; omega)⟩
    · rw [i_le] at c_25
      have k_46 : (15 : Int32).toInt = 15 := by decide
      unfold Mod_clear_j12
      unfold Mod_clear_j17
      refine So.lt2 fun sMo_3 e_47 => ?_
      have I_48 : I_Mo sMo_3 := by rw [e_47]; exact (I_Mo_set_thrown I_sMo)
      have k_49 : (1 : Int32).toInt = 1 := by decide
      have f_50 : (Mo_thrown sMo_3).toInt = (1 : Int32).toInt := by subst e_47; rfl
      have f_51 : (Mo_used sMo_3).toInt = (Mo_used sMo).toInt := by subst e_47; rfl
      have f_52 : (Mo_madeMany sMo_3).toInt = (Mo_madeMany sMo).toInt := by subst e_47; rfl
      have f_53 : (Mo_madeKind sMo_3).toInt = (Mo_madeKind sMo).toInt := by subst e_47; rfl
      have f_54 : (Mo_madeSubsets sMo_3).toInt = (Mo_madeSubsets sMo).toInt := by subst e_47; rfl
      have f_55 : (Mo_written sMo_3).toInt = (Mo_written sMo).toInt := by subst e_47; rfl
      have f_56 : (Mo_taped sMo_3).toInt = (Mo_taped sMo).toInt := by subst e_47; rfl
      refine So.ite (fun c_57 => ?_) (fun c_57 => ?_)
      · rw [i_eq] at c_57
        have k_58 : (0 : Int32).toInt = 0 := by decide
        refine So.ite (fun c_59 => ?_) (fun c_59 => ?_)
        · rw [i_le] at c_59
          refine So.gd (i_in.mpr (by omega)) ?_
          refine So.lt2 fun sMlengths_5 e_60 => ?_
          have f_61 := i_natm a0
          have I_62 : A_Mlengths sMlengths_5 := by rw [e_60]; exact (A_Mlengths_upd I_sMlengths (by show 0 ≤ (0 : Int32).toInt ∧ (0 : Int32).toInt ≤ 24 ∧ ((a0.toNatClampNeg) < 16 → (0 : Int32).toInt ≤ 8); omega))
          exact So.one ⟨I_48, I_62, (by show ((Mo_thrown sMo_3).toInt = 0 ∧ (-1 ≤ a0.toInt ∧ a0.toInt < 16)) ∨ ((Mo_thrown sMo_3).toInt = 1 ∧ ¬ (-1 ≤ a0.toInt ∧ a0.toInt < 16)); omega), (by show (Mo_used sMo_3).toInt = (Mo_used sMo).toInt; omega), (by show (Mo_taped sMo_3).toInt = (Mo_taped sMo).toInt; omega), (by show (Mo_madeMany sMo_3).toInt = (Mo_madeMany sMo).toInt; omega), (by show (Mo_madeKind sMo_3).toInt = (Mo_madeKind sMo).toInt; omega), (by show (Mo_madeSubsets sMo_3).toInt = (Mo_madeSubsets sMo).toInt; omega), (by show (Mo_written sMo_3).toInt = (Mo_written sMo).toInt; omega)⟩
        · rw [i_le] at c_59
          have k_63 : (16 : Int32).toInt = 16 := by decide
          refine So.gd (i_in.mpr (by omega)) ?_
          refine So.lt2 fun sMlengths_7 e_64 => ?_
          have f_65 := i_natm (16 : Int32)
          have I_66 : A_Mlengths sMlengths_7 := by rw [e_64]; exact (A_Mlengths_upd I_sMlengths (by show 0 ≤ (0 : Int32).toInt ∧ (0 : Int32).toInt ≤ 24 ∧ (((16 : Int32).toNatClampNeg) < 16 → (0 : Int32).toInt ≤ 8); omega))
          exact So.one ⟨I_48, I_66, (by show ((Mo_thrown sMo_3).toInt = 0 ∧ (-1 ≤ a0.toInt ∧ a0.toInt < 16)) ∨ ((Mo_thrown sMo_3).toInt = 1 ∧ ¬ (-1 ≤ a0.toInt ∧ a0.toInt < 16)); omega), (by show (Mo_used sMo_3).toInt = (Mo_used sMo).toInt; omega), (by show (Mo_taped sMo_3).toInt = (Mo_taped sMo).toInt; omega), (by show (Mo_madeMany sMo_3).toInt = (Mo_madeMany sMo).toInt; omega), (by show (Mo_madeKind sMo_3).toInt = (Mo_madeKind sMo).toInt; omega), (by show (Mo_madeSubsets sMo_3).toInt = (Mo_madeSubsets sMo).toInt; omega), (by show (Mo_written sMo_3).toInt = (Mo_written sMo).toInt; omega)⟩
      · rw [i_eq] at c_57
        have k_67 : (0 : Int32).toInt = 0 := by decide
        exact So.one ⟨I_48, I_sMlengths, (by show ((Mo_thrown sMo_3).toInt = 0 ∧ (-1 ≤ a0.toInt ∧ a0.toInt < 16)) ∨ ((Mo_thrown sMo_3).toInt = 1 ∧ ¬ (-1 ≤ a0.toInt ∧ a0.toInt < 16)); omega), (by show (Mo_used sMo_3).toInt = (Mo_used sMo).toInt; omega), (by show (Mo_taped sMo_3).toInt = (Mo_taped sMo).toInt; omega), (by show (Mo_madeMany sMo_3).toInt = (Mo_madeMany sMo).toInt; omega), (by show (Mo_madeKind sMo_3).toInt = (Mo_madeKind sMo).toInt; omega), (by show (Mo_madeSubsets sMo_3).toInt = (Mo_madeSubsets sMo).toInt; omega), (by show (Mo_written sMo_3).toInt = (Mo_written sMo).toInt; omega)⟩
theorem t_Mod_isSubset {a0 : Int32}  : So (Mod_isSubset a0) (fun r => ((r.toInt = 1 ∧ (0 ≤ a0.toInt ∧ a0.toInt < 8)) ∨ (r.toInt = 0 ∧ ¬ (0 ≤ a0.toInt ∧ a0.toInt < 8)))) := by
  unfold Mod_isSubset
  refine So.ite (fun c_1 => ?_) (fun c_1 => ?_)
  · rw [i_lt] at c_1
    have k_2 : (0 : Int32).toInt = 0 := by decide
    exact So.one (by show ((0 : Int32).toInt = 1 ∧ (0 ≤ a0.toInt ∧ a0.toInt < 8)) ∨ ((0 : Int32).toInt = 0 ∧ ¬ (0 ≤ a0.toInt ∧ a0.toInt < 8)); omega)
  · rw [i_lt] at c_1
    have k_3 : (0 : Int32).toInt = 0 := by decide
    refine So.ite (fun c_4 => ?_) (fun c_4 => ?_)
    · rw [i_le] at c_4
      have k_5 : (8 : Int32).toInt = 8 := by decide
      exact So.one (by show ((0 : Int32).toInt = 1 ∧ (0 ≤ a0.toInt ∧ a0.toInt < 8)) ∨ ((0 : Int32).toInt = 0 ∧ ¬ (0 ≤ a0.toInt ∧ a0.toInt < 8)); omega)
    · rw [i_le] at c_4
      have k_6 : (8 : Int32).toInt = 8 := by decide
      have k_7 : (1 : Int32).toInt = 1 := by decide
      exact So.one (by show ((1 : Int32).toInt = 1 ∧ (0 ≤ a0.toInt ∧ a0.toInt < 8)) ∨ ((1 : Int32).toInt = 0 ∧ ¬ (0 ≤ a0.toInt ∧ a0.toInt < 8)); omega)
theorem t_Mod_put {a0 : Int32} {a1 : Int32} {a2 : Int64} {sMo : S_Mo} {sMvalues : (Nat → Int64)} (I_sMo : I_Mo sMo) : So (Mod_put a0 a1 a2 sMo sMvalues) (fun r => I_Mo r.1 ∧ (((Mo_thrown r.1).toInt = 0 ∧ (0 ≤ a0.toInt ∧ a0.toInt < 8 ∧ 0 ≤ a1.toInt ∧ a1.toInt < 100)) ∨ ((Mo_thrown r.1).toInt = 1 ∧ ¬ (0 ≤ a0.toInt ∧ a0.toInt < 8 ∧ 0 ≤ a1.toInt ∧ a1.toInt < 100))) ∧ ((Mo_used r.1).toInt = (Mo_used sMo).toInt) ∧ ((Mo_taped r.1).toInt = (Mo_taped sMo).toInt) ∧ ((Mo_madeMany r.1).toInt = (Mo_madeMany sMo).toInt) ∧ ((Mo_madeKind r.1).toInt = (Mo_madeKind sMo).toInt) ∧ ((Mo_madeSubsets r.1).toInt = (Mo_madeSubsets sMo).toInt) ∧ ((Mo_written r.1).toInt = (Mo_written sMo).toInt)) := by
  unfold Mod_put
  refine So.bd (t_Mod_isSubset ) fun q1 h_1 => ?_
  have p_2 := h_1
  refine So.ite (fun c_3 => ?_) (fun c_3 => ?_)
  · rw [i_eq] at c_3
    have k_4 : (0 : Int32).toInt = 0 := by decide
    unfold Mod_put_j22
    unfold Mod_put_j23
    refine So.lt2 fun sMo_5 e_5 => ?_
    have I_6 : I_Mo sMo_5 := by rw [e_5]; exact (I_Mo_set_thrown I_sMo)
    have k_7 : (1 : Int32).toInt = 1 := by decide
    have f_8 : (Mo_thrown sMo_5).toInt = (1 : Int32).toInt := by subst e_5; rfl
    have f_9 : (Mo_used sMo_5).toInt = (Mo_used sMo).toInt := by subst e_5; rfl
    have f_10 : (Mo_madeMany sMo_5).toInt = (Mo_madeMany sMo).toInt := by subst e_5; rfl
    have f_11 : (Mo_madeKind sMo_5).toInt = (Mo_madeKind sMo).toInt := by subst e_5; rfl
    have f_12 : (Mo_madeSubsets sMo_5).toInt = (Mo_madeSubsets sMo).toInt := by subst e_5; rfl
    have f_13 : (Mo_written sMo_5).toInt = (Mo_written sMo).toInt := by subst e_5; rfl
    have f_14 : (Mo_taped sMo_5).toInt = (Mo_taped sMo).toInt := by subst e_5; rfl
    refine So.ite (fun c_15 => ?_) (fun c_15 => ?_)
    · rw [i_eq] at c_15
      have k_16 : (100 : Int32).toInt = 100 := by decide
      first | have f_17 := i_mull 100 a0 (100) (by decide) (by omega) (by omega) | have f_17 := i_mullm 100 a0 (100) (by decide)
      first | have f_18 := i_add (a := (100 * a0)) (b := a1) (by omega) (by omega) | have f_18 := i_addm (100 * a0) a1
      refine So.gd (i_in.mpr (by omega)) ?_
      refine So.lt2 fun sMvalues_7 e_19 => ?_
      exact So.one ⟨I_6, (by show ((Mo_thrown sMo_5).toInt = 0 ∧ (0 ≤ a0.toInt ∧ a0.toInt < 8 ∧ 0 ≤ a1.toInt ∧ a1.toInt < 100)) ∨ ((Mo_thrown sMo_5).toInt = 1 ∧ ¬ (0 ≤ a0.toInt ∧ a0.toInt < 8 ∧ 0 ≤ a1.toInt ∧ a1.toInt < 100)); omega), (by show (Mo_used sMo_5).toInt = (Mo_used sMo).toInt; omega), (by show (Mo_taped sMo_5).toInt = (Mo_taped sMo).toInt; omega), (by show (Mo_madeMany sMo_5).toInt = (Mo_madeMany sMo).toInt; omega), (by show (Mo_madeKind sMo_5).toInt = (Mo_madeKind sMo).toInt; omega), (by show (Mo_madeSubsets sMo_5).toInt = (Mo_madeSubsets sMo).toInt; omega), (by show (Mo_written sMo_5).toInt = (Mo_written sMo).toInt; omega)⟩
    · rw [i_eq] at c_15
      exact So.one ⟨I_6, (by show ((Mo_thrown sMo_5).toInt = 0 ∧ (0 ≤ a0.toInt ∧ a0.toInt < 8 ∧ 0 ≤ a1.toInt ∧ a1.toInt < 100)) ∨ ((Mo_thrown sMo_5).toInt = 1 ∧ ¬ (0 ≤ a0.toInt ∧ a0.toInt < 8 ∧ 0 ≤ a1.toInt ∧ a1.toInt < 100)); omega), (by show (Mo_used sMo_5).toInt = (Mo_used sMo).toInt; omega), (by show (Mo_taped sMo_5).toInt = (Mo_taped sMo).toInt; omega), (by show (Mo_madeMany sMo_5).toInt = (Mo_madeMany sMo).toInt; omega), (by show (Mo_madeKind sMo_5).toInt = (Mo_madeKind sMo).toInt; omega), (by show (Mo_madeSubsets sMo_5).toInt = (Mo_madeSubsets sMo).toInt; omega), (by show (Mo_written sMo_5).toInt = (Mo_written sMo).toInt; omega)⟩
  · rw [i_eq] at c_3
    have k_20 : (0 : Int32).toInt = 0 := by decide
    refine So.ite (fun c_21 => ?_) (fun c_21 => ?_)
    · rw [i_lt] at c_21
      unfold Mod_put_j22
      unfold Mod_put_j23
      refine So.lt2 fun sMo_5 e_22 => ?_
      have I_23 : I_Mo sMo_5 := by rw [e_22]; exact (I_Mo_set_thrown I_sMo)
      have k_24 : (1 : Int32).toInt = 1 := by decide
      have f_25 : (Mo_thrown sMo_5).toInt = (1 : Int32).toInt := by subst e_22; rfl
      have f_26 : (Mo_used sMo_5).toInt = (Mo_used sMo).toInt := by subst e_22; rfl
      have f_27 : (Mo_madeMany sMo_5).toInt = (Mo_madeMany sMo).toInt := by subst e_22; rfl
      have f_28 : (Mo_madeKind sMo_5).toInt = (Mo_madeKind sMo).toInt := by subst e_22; rfl
      have f_29 : (Mo_madeSubsets sMo_5).toInt = (Mo_madeSubsets sMo).toInt := by subst e_22; rfl
      have f_30 : (Mo_written sMo_5).toInt = (Mo_written sMo).toInt := by subst e_22; rfl
      have f_31 : (Mo_taped sMo_5).toInt = (Mo_taped sMo).toInt := by subst e_22; rfl
      refine So.ite (fun c_32 => ?_) (fun c_32 => ?_)
      · rw [i_eq] at c_32
        have k_33 : (100 : Int32).toInt = 100 := by decide
        first | have f_34 := i_mull 100 a0 (100) (by decide) (by omega) (by omega) | have f_34 := i_mullm 100 a0 (100) (by decide)
        first | have f_35 := i_add (a := (100 * a0)) (b := a1) (by omega) (by omega) | have f_35 := i_addm (100 * a0) a1
        refine So.gd (i_in.mpr (by omega)) ?_
        refine So.lt2 fun sMvalues_7 e_36 => ?_
        exact So.one ⟨I_23, (by show ((Mo_thrown sMo_5).toInt = 0 ∧ (0 ≤ a0.toInt ∧ a0.toInt < 8 ∧ 0 ≤ a1.toInt ∧ a1.toInt < 100)) ∨ ((Mo_thrown sMo_5).toInt = 1 ∧ ¬ (0 ≤ a0.toInt ∧ a0.toInt < 8 ∧ 0 ≤ a1.toInt ∧ a1.toInt < 100)); omega), (by show (Mo_used sMo_5).toInt = (Mo_used sMo).toInt; omega), (by show (Mo_taped sMo_5).toInt = (Mo_taped sMo).toInt; omega), (by show (Mo_madeMany sMo_5).toInt = (Mo_madeMany sMo).toInt; omega), (by show (Mo_madeKind sMo_5).toInt = (Mo_madeKind sMo).toInt; omega), (by show (Mo_madeSubsets sMo_5).toInt = (Mo_madeSubsets sMo).toInt; omega), (by show (Mo_written sMo_5).toInt = (Mo_written sMo).toInt; omega)⟩
      · rw [i_eq] at c_32
        exact So.one ⟨I_23, (by show ((Mo_thrown sMo_5).toInt = 0 ∧ (0 ≤ a0.toInt ∧ a0.toInt < 8 ∧ 0 ≤ a1.toInt ∧ a1.toInt < 100)) ∨ ((Mo_thrown sMo_5).toInt = 1 ∧ ¬ (0 ≤ a0.toInt ∧ a0.toInt < 8 ∧ 0 ≤ a1.toInt ∧ a1.toInt < 100)); omega), (by show (Mo_used sMo_5).toInt = (Mo_used sMo).toInt; omega), (by show (Mo_taped sMo_5).toInt = (Mo_taped sMo).toInt; omega), (by show (Mo_madeMany sMo_5).toInt = (Mo_madeMany sMo).toInt; omega), (by show (Mo_madeKind sMo_5).toInt = (Mo_madeKind sMo).toInt; omega), (by show (Mo_madeSubsets sMo_5).toInt = (Mo_madeSubsets sMo).toInt; omega), (by show (Mo_written sMo_5).toInt = (Mo_written sMo).toInt; omega)⟩
    · rw [i_lt] at c_21
      refine So.ite (fun c_37 => ?_) (fun c_37 => ?_)
      · rw [i_le] at c_37
        have k_38 : (100 : Int32).toInt = 100 := by decide
        unfold Mod_put_j22
        unfold Mod_put_j23
        refine So.lt2 fun sMo_5 e_39 => ?_
        have I_40 : I_Mo sMo_5 := by rw [e_39]; exact (I_Mo_set_thrown I_sMo)
        have k_41 : (1 : Int32).toInt = 1 := by decide
        have f_42 : (Mo_thrown sMo_5).toInt = (1 : Int32).toInt := by subst e_39; rfl
        have f_43 : (Mo_used sMo_5).toInt = (Mo_used sMo).toInt := by subst e_39; rfl
        have f_44 : (Mo_madeMany sMo_5).toInt = (Mo_madeMany sMo).toInt := by subst e_39; rfl
        have f_45 : (Mo_madeKind sMo_5).toInt = (Mo_madeKind sMo).toInt := by subst e_39; rfl
        have f_46 : (Mo_madeSubsets sMo_5).toInt = (Mo_madeSubsets sMo).toInt := by subst e_39; rfl
        have f_47 : (Mo_written sMo_5).toInt = (Mo_written sMo).toInt := by subst e_39; rfl
        have f_48 : (Mo_taped sMo_5).toInt = (Mo_taped sMo).toInt := by subst e_39; rfl
        refine So.ite (fun c_49 => ?_) (fun c_49 => ?_)
        · rw [i_eq] at c_49
          first | have f_50 := i_mull 100 a0 (100) (by decide) (by omega) (by omega) | have f_50 := i_mullm 100 a0 (100) (by decide)
          first | have f_51 := i_add (a := (100 * a0)) (b := a1) (by omega) (by omega) | have f_51 := i_addm (100 * a0) a1
          refine So.gd (i_in.mpr (by omega)) ?_
          refine So.lt2 fun sMvalues_7 e_52 => ?_
          exact So.one ⟨I_40, (by show ((Mo_thrown sMo_5).toInt = 0 ∧ (0 ≤ a0.toInt ∧ a0.toInt < 8 ∧ 0 ≤ a1.toInt ∧ a1.toInt < 100)) ∨ ((Mo_thrown sMo_5).toInt = 1 ∧ ¬ (0 ≤ a0.toInt ∧ a0.toInt < 8 ∧ 0 ≤ a1.toInt ∧ a1.toInt < 100)); omega), (by show (Mo_used sMo_5).toInt = (Mo_used sMo).toInt; omega), (by show (Mo_taped sMo_5).toInt = (Mo_taped sMo).toInt; omega), (by show (Mo_madeMany sMo_5).toInt = (Mo_madeMany sMo).toInt; omega), (by show (Mo_madeKind sMo_5).toInt = (Mo_madeKind sMo).toInt; omega), (by show (Mo_madeSubsets sMo_5).toInt = (Mo_madeSubsets sMo).toInt; omega), (by show (Mo_written sMo_5).toInt = (Mo_written sMo).toInt; omega)⟩
        · rw [i_eq] at c_49
          exact So.one ⟨I_40, (by show ((Mo_thrown sMo_5).toInt = 0 ∧ (0 ≤ a0.toInt ∧ a0.toInt < 8 ∧ 0 ≤ a1.toInt ∧ a1.toInt < 100)) ∨ ((Mo_thrown sMo_5).toInt = 1 ∧ ¬ (0 ≤ a0.toInt ∧ a0.toInt < 8 ∧ 0 ≤ a1.toInt ∧ a1.toInt < 100)); omega), (by show (Mo_used sMo_5).toInt = (Mo_used sMo).toInt; omega), (by show (Mo_taped sMo_5).toInt = (Mo_taped sMo).toInt; omega), (by show (Mo_madeMany sMo_5).toInt = (Mo_madeMany sMo).toInt; omega), (by show (Mo_madeKind sMo_5).toInt = (Mo_madeKind sMo).toInt; omega), (by show (Mo_madeSubsets sMo_5).toInt = (Mo_madeSubsets sMo).toInt; omega), (by show (Mo_written sMo_5).toInt = (Mo_written sMo).toInt; omega)⟩
      · rw [i_le] at c_37
        have k_53 : (100 : Int32).toInt = 100 := by decide
        unfold Mod_put_j23
        refine So.lt2 fun sMo_5 e_54 => ?_
        have I_55 : I_Mo sMo_5 := by rw [e_54]; exact (I_Mo_set_thrown I_sMo)
        have f_56 : (Mo_thrown sMo_5).toInt = (0 : Int32).toInt := by subst e_54; rfl
        have f_57 : (Mo_used sMo_5).toInt = (Mo_used sMo).toInt := by subst e_54; rfl
        have f_58 : (Mo_madeMany sMo_5).toInt = (Mo_madeMany sMo).toInt := by subst e_54; rfl
        have f_59 : (Mo_madeKind sMo_5).toInt = (Mo_madeKind sMo).toInt := by subst e_54; rfl
        have f_60 : (Mo_madeSubsets sMo_5).toInt = (Mo_madeSubsets sMo).toInt := by subst e_54; rfl
        have f_61 : (Mo_written sMo_5).toInt = (Mo_written sMo).toInt := by subst e_54; rfl
        have f_62 : (Mo_taped sMo_5).toInt = (Mo_taped sMo).toInt := by subst e_54; rfl
        refine So.ite (fun c_63 => ?_) (fun c_63 => ?_)
        · rw [i_eq] at c_63
          first | have f_64 := i_mull 100 a0 (100) (by decide) (by omega) (by omega) | have f_64 := i_mullm 100 a0 (100) (by decide)
          first | have f_65 := i_add (a := (100 * a0)) (b := a1) (by omega) (by omega) | have f_65 := i_addm (100 * a0) a1
          refine So.gd (i_in.mpr (by omega)) ?_
          refine So.lt2 fun sMvalues_7 e_66 => ?_
          exact So.one ⟨I_55, (by show ((Mo_thrown sMo_5).toInt = 0 ∧ (0 ≤ a0.toInt ∧ a0.toInt < 8 ∧ 0 ≤ a1.toInt ∧ a1.toInt < 100)) ∨ ((Mo_thrown sMo_5).toInt = 1 ∧ ¬ (0 ≤ a0.toInt ∧ a0.toInt < 8 ∧ 0 ≤ a1.toInt ∧ a1.toInt < 100)); omega), (by show (Mo_used sMo_5).toInt = (Mo_used sMo).toInt; omega), (by show (Mo_taped sMo_5).toInt = (Mo_taped sMo).toInt; omega), (by show (Mo_madeMany sMo_5).toInt = (Mo_madeMany sMo).toInt; omega), (by show (Mo_madeKind sMo_5).toInt = (Mo_madeKind sMo).toInt; omega), (by show (Mo_madeSubsets sMo_5).toInt = (Mo_madeSubsets sMo).toInt; omega), (by show (Mo_written sMo_5).toInt = (Mo_written sMo).toInt; omega)⟩
        · rw [i_eq] at c_63
          exact So.one ⟨I_55, (by show ((Mo_thrown sMo_5).toInt = 0 ∧ (0 ≤ a0.toInt ∧ a0.toInt < 8 ∧ 0 ≤ a1.toInt ∧ a1.toInt < 100)) ∨ ((Mo_thrown sMo_5).toInt = 1 ∧ ¬ (0 ≤ a0.toInt ∧ a0.toInt < 8 ∧ 0 ≤ a1.toInt ∧ a1.toInt < 100)); omega), (by show (Mo_used sMo_5).toInt = (Mo_used sMo).toInt; omega), (by show (Mo_taped sMo_5).toInt = (Mo_taped sMo).toInt; omega), (by show (Mo_madeMany sMo_5).toInt = (Mo_madeMany sMo).toInt; omega), (by show (Mo_madeKind sMo_5).toInt = (Mo_madeKind sMo).toInt; omega), (by show (Mo_madeSubsets sMo_5).toInt = (Mo_madeSubsets sMo).toInt; omega), (by show (Mo_written sMo_5).toInt = (Mo_written sMo).toInt; omega)⟩
theorem t_Mod_get {sMvalues : (Nat → Int64)} {a0 : Int32} {a1 : Int32} {sMo : S_Mo} (I_sMo : I_Mo sMo) : So (Mod_get sMvalues a0 a1 sMo) (fun r => I_Mo r.2 ∧ ((Mo_used r.2).toInt = (Mo_used sMo).toInt) ∧ ((Mo_taped r.2).toInt = (Mo_taped sMo).toInt) ∧ ((Mo_madeMany r.2).toInt = (Mo_madeMany sMo).toInt) ∧ ((Mo_madeKind r.2).toInt = (Mo_madeKind sMo).toInt) ∧ ((Mo_madeSubsets r.2).toInt = (Mo_madeSubsets sMo).toInt) ∧ ((Mo_written r.2).toInt = (Mo_written sMo).toInt)) := by
  unfold Mod_get
  refine So.bd (t_Mod_isSubset ) fun q1 h_1 => ?_
  have p_2 := h_1
  refine So.ite (fun c_3 => ?_) (fun c_3 => ?_)
  · rw [i_eq] at c_3
    have k_4 : (0 : Int32).toInt = 0 := by decide
    unfold Mod_get_j22
    unfold Mod_get_j23
    refine So.lt2 fun sMo_5 e_5 => ?_
    have I_6 : I_Mo sMo_5 := by rw [e_5]; exact (I_Mo_set_thrown I_sMo)
    have k_7 : (1 : Int32).toInt = 1 := by decide
    have f_8 : (Mo_thrown sMo_5).toInt = (1 : Int32).toInt := by subst e_5; rfl
    have f_9 : (Mo_used sMo_5).toInt = (Mo_used sMo).toInt := by subst e_5; rfl
    have f_10 : (Mo_madeMany sMo_5).toInt = (Mo_madeMany sMo).toInt := by subst e_5; rfl
    have f_11 : (Mo_madeKind sMo_5).toInt = (Mo_madeKind sMo).toInt := by subst e_5; rfl
    have f_12 : (Mo_madeSubsets sMo_5).toInt = (Mo_madeSubsets sMo).toInt := by subst e_5; rfl
    have f_13 : (Mo_written sMo_5).toInt = (Mo_written sMo).toInt := by subst e_5; rfl
    have f_14 : (Mo_taped sMo_5).toInt = (Mo_taped sMo).toInt := by subst e_5; rfl
    refine So.ite (fun c_15 => ?_) (fun c_15 => ?_)
    · rw [i_eq] at c_15
      have k_16 : (100 : Int32).toInt = 100 := by decide
      first | have f_17 := i_mull 100 a0 (100) (by decide) (by omega) (by omega) | have f_17 := i_mullm 100 a0 (100) (by decide)
      first | have f_18 := i_add (a := (100 * a0)) (b := a1) (by omega) (by omega) | have f_18 := i_addm (100 * a0) a1
      refine So.gd (i_in.mpr (by omega)) ?_
      exact So.one ⟨I_6, (by show (Mo_used sMo_5).toInt = (Mo_used sMo).toInt; omega), (by show (Mo_taped sMo_5).toInt = (Mo_taped sMo).toInt; omega), (by show (Mo_madeMany sMo_5).toInt = (Mo_madeMany sMo).toInt; omega), (by show (Mo_madeKind sMo_5).toInt = (Mo_madeKind sMo).toInt; omega), (by show (Mo_madeSubsets sMo_5).toInt = (Mo_madeSubsets sMo).toInt; omega), (by show (Mo_written sMo_5).toInt = (Mo_written sMo).toInt; omega)⟩
    · rw [i_eq] at c_15
      exact So.one ⟨I_6, (by show (Mo_used sMo_5).toInt = (Mo_used sMo).toInt; omega), (by show (Mo_taped sMo_5).toInt = (Mo_taped sMo).toInt; omega), (by show (Mo_madeMany sMo_5).toInt = (Mo_madeMany sMo).toInt; omega), (by show (Mo_madeKind sMo_5).toInt = (Mo_madeKind sMo).toInt; omega), (by show (Mo_madeSubsets sMo_5).toInt = (Mo_madeSubsets sMo).toInt; omega), (by show (Mo_written sMo_5).toInt = (Mo_written sMo).toInt; omega)⟩
  · rw [i_eq] at c_3
    have k_19 : (0 : Int32).toInt = 0 := by decide
    refine So.ite (fun c_20 => ?_) (fun c_20 => ?_)
    · rw [i_lt] at c_20
      unfold Mod_get_j22
      unfold Mod_get_j23
      refine So.lt2 fun sMo_5 e_21 => ?_
      have I_22 : I_Mo sMo_5 := by rw [e_21]; exact (I_Mo_set_thrown I_sMo)
      have k_23 : (1 : Int32).toInt = 1 := by decide
      have f_24 : (Mo_thrown sMo_5).toInt = (1 : Int32).toInt := by subst e_21; rfl
      have f_25 : (Mo_used sMo_5).toInt = (Mo_used sMo).toInt := by subst e_21; rfl
      have f_26 : (Mo_madeMany sMo_5).toInt = (Mo_madeMany sMo).toInt := by subst e_21; rfl
      have f_27 : (Mo_madeKind sMo_5).toInt = (Mo_madeKind sMo).toInt := by subst e_21; rfl
      have f_28 : (Mo_madeSubsets sMo_5).toInt = (Mo_madeSubsets sMo).toInt := by subst e_21; rfl
      have f_29 : (Mo_written sMo_5).toInt = (Mo_written sMo).toInt := by subst e_21; rfl
      have f_30 : (Mo_taped sMo_5).toInt = (Mo_taped sMo).toInt := by subst e_21; rfl
      refine So.ite (fun c_31 => ?_) (fun c_31 => ?_)
      · rw [i_eq] at c_31
        have k_32 : (100 : Int32).toInt = 100 := by decide
        first | have f_33 := i_mull 100 a0 (100) (by decide) (by omega) (by omega) | have f_33 := i_mullm 100 a0 (100) (by decide)
        first | have f_34 := i_add (a := (100 * a0)) (b := a1) (by omega) (by omega) | have f_34 := i_addm (100 * a0) a1
        refine So.gd (i_in.mpr (by omega)) ?_
        exact So.one ⟨I_22, (by show (Mo_used sMo_5).toInt = (Mo_used sMo).toInt; omega), (by show (Mo_taped sMo_5).toInt = (Mo_taped sMo).toInt; omega), (by show (Mo_madeMany sMo_5).toInt = (Mo_madeMany sMo).toInt; omega), (by show (Mo_madeKind sMo_5).toInt = (Mo_madeKind sMo).toInt; omega), (by show (Mo_madeSubsets sMo_5).toInt = (Mo_madeSubsets sMo).toInt; omega), (by show (Mo_written sMo_5).toInt = (Mo_written sMo).toInt; omega)⟩
      · rw [i_eq] at c_31
        exact So.one ⟨I_22, (by show (Mo_used sMo_5).toInt = (Mo_used sMo).toInt; omega), (by show (Mo_taped sMo_5).toInt = (Mo_taped sMo).toInt; omega), (by show (Mo_madeMany sMo_5).toInt = (Mo_madeMany sMo).toInt; omega), (by show (Mo_madeKind sMo_5).toInt = (Mo_madeKind sMo).toInt; omega), (by show (Mo_madeSubsets sMo_5).toInt = (Mo_madeSubsets sMo).toInt; omega), (by show (Mo_written sMo_5).toInt = (Mo_written sMo).toInt; omega)⟩
    · rw [i_lt] at c_20
      refine So.ite (fun c_35 => ?_) (fun c_35 => ?_)
      · rw [i_le] at c_35
        have k_36 : (100 : Int32).toInt = 100 := by decide
        unfold Mod_get_j22
        unfold Mod_get_j23
        refine So.lt2 fun sMo_5 e_37 => ?_
        have I_38 : I_Mo sMo_5 := by rw [e_37]; exact (I_Mo_set_thrown I_sMo)
        have k_39 : (1 : Int32).toInt = 1 := by decide
        have f_40 : (Mo_thrown sMo_5).toInt = (1 : Int32).toInt := by subst e_37; rfl
        have f_41 : (Mo_used sMo_5).toInt = (Mo_used sMo).toInt := by subst e_37; rfl
        have f_42 : (Mo_madeMany sMo_5).toInt = (Mo_madeMany sMo).toInt := by subst e_37; rfl
        have f_43 : (Mo_madeKind sMo_5).toInt = (Mo_madeKind sMo).toInt := by subst e_37; rfl
        have f_44 : (Mo_madeSubsets sMo_5).toInt = (Mo_madeSubsets sMo).toInt := by subst e_37; rfl
        have f_45 : (Mo_written sMo_5).toInt = (Mo_written sMo).toInt := by subst e_37; rfl
        have f_46 : (Mo_taped sMo_5).toInt = (Mo_taped sMo).toInt := by subst e_37; rfl
        refine So.ite (fun c_47 => ?_) (fun c_47 => ?_)
        · rw [i_eq] at c_47
          first | have f_48 := i_mull 100 a0 (100) (by decide) (by omega) (by omega) | have f_48 := i_mullm 100 a0 (100) (by decide)
          first | have f_49 := i_add (a := (100 * a0)) (b := a1) (by omega) (by omega) | have f_49 := i_addm (100 * a0) a1
          refine So.gd (i_in.mpr (by omega)) ?_
          exact So.one ⟨I_38, (by show (Mo_used sMo_5).toInt = (Mo_used sMo).toInt; omega), (by show (Mo_taped sMo_5).toInt = (Mo_taped sMo).toInt; omega), (by show (Mo_madeMany sMo_5).toInt = (Mo_madeMany sMo).toInt; omega), (by show (Mo_madeKind sMo_5).toInt = (Mo_madeKind sMo).toInt; omega), (by show (Mo_madeSubsets sMo_5).toInt = (Mo_madeSubsets sMo).toInt; omega), (by show (Mo_written sMo_5).toInt = (Mo_written sMo).toInt; omega)⟩
        · rw [i_eq] at c_47
          exact So.one ⟨I_38, (by show (Mo_used sMo_5).toInt = (Mo_used sMo).toInt; omega), (by show (Mo_taped sMo_5).toInt = (Mo_taped sMo).toInt; omega), (by show (Mo_madeMany sMo_5).toInt = (Mo_madeMany sMo).toInt; omega), (by show (Mo_madeKind sMo_5).toInt = (Mo_madeKind sMo).toInt; omega), (by show (Mo_madeSubsets sMo_5).toInt = (Mo_madeSubsets sMo).toInt; omega), (by show (Mo_written sMo_5).toInt = (Mo_written sMo).toInt; omega)⟩
      · rw [i_le] at c_35
        have k_50 : (100 : Int32).toInt = 100 := by decide
        unfold Mod_get_j23
        refine So.lt2 fun sMo_5 e_51 => ?_
        have I_52 : I_Mo sMo_5 := by rw [e_51]; exact (I_Mo_set_thrown I_sMo)
        have f_53 : (Mo_thrown sMo_5).toInt = (0 : Int32).toInt := by subst e_51; rfl
        have f_54 : (Mo_used sMo_5).toInt = (Mo_used sMo).toInt := by subst e_51; rfl
        have f_55 : (Mo_madeMany sMo_5).toInt = (Mo_madeMany sMo).toInt := by subst e_51; rfl
        have f_56 : (Mo_madeKind sMo_5).toInt = (Mo_madeKind sMo).toInt := by subst e_51; rfl
        have f_57 : (Mo_madeSubsets sMo_5).toInt = (Mo_madeSubsets sMo).toInt := by subst e_51; rfl
        have f_58 : (Mo_written sMo_5).toInt = (Mo_written sMo).toInt := by subst e_51; rfl
        have f_59 : (Mo_taped sMo_5).toInt = (Mo_taped sMo).toInt := by subst e_51; rfl
        refine So.ite (fun c_60 => ?_) (fun c_60 => ?_)
        · rw [i_eq] at c_60
          first | have f_61 := i_mull 100 a0 (100) (by decide) (by omega) (by omega) | have f_61 := i_mullm 100 a0 (100) (by decide)
          first | have f_62 := i_add (a := (100 * a0)) (b := a1) (by omega) (by omega) | have f_62 := i_addm (100 * a0) a1
          refine So.gd (i_in.mpr (by omega)) ?_
          exact So.one ⟨I_52, (by show (Mo_used sMo_5).toInt = (Mo_used sMo).toInt; omega), (by show (Mo_taped sMo_5).toInt = (Mo_taped sMo).toInt; omega), (by show (Mo_madeMany sMo_5).toInt = (Mo_madeMany sMo).toInt; omega), (by show (Mo_madeKind sMo_5).toInt = (Mo_madeKind sMo).toInt; omega), (by show (Mo_madeSubsets sMo_5).toInt = (Mo_madeSubsets sMo).toInt; omega), (by show (Mo_written sMo_5).toInt = (Mo_written sMo).toInt; omega)⟩
        · rw [i_eq] at c_60
          exact So.one ⟨I_52, (by show (Mo_used sMo_5).toInt = (Mo_used sMo).toInt; omega), (by show (Mo_taped sMo_5).toInt = (Mo_taped sMo).toInt; omega), (by show (Mo_madeMany sMo_5).toInt = (Mo_madeMany sMo).toInt; omega), (by show (Mo_madeKind sMo_5).toInt = (Mo_madeKind sMo).toInt; omega), (by show (Mo_madeSubsets sMo_5).toInt = (Mo_madeSubsets sMo).toInt; omega), (by show (Mo_written sMo_5).toInt = (Mo_written sMo).toInt; omega)⟩
theorem t_Mod_fault {a0 : Int32} {sMo : S_Mo} (I_sMo : I_Mo sMo) : So (Mod_fault a0 sMo) (fun r => I_Mo r.2 ∧ ((Mo_used r.2).toInt = (Mo_used sMo).toInt) ∧ ((Mo_taped r.2).toInt = (Mo_taped sMo).toInt) ∧ ((Mo_madeMany r.2).toInt = (Mo_madeMany sMo).toInt) ∧ ((Mo_madeKind r.2).toInt = (Mo_madeKind sMo).toInt) ∧ ((Mo_madeSubsets r.2).toInt = (Mo_madeSubsets sMo).toInt) ∧ ((Mo_written r.2).toInt = (Mo_written sMo).toInt)) := by
  unfold Mod_fault
  refine So.lt2 fun sMo_1 e_1 => ?_
  have I_2 : I_Mo sMo_1 := by rw [e_1]; exact (I_Mo_set_thrown I_sMo)
  have k_3 : (0 : Int32).toInt = 0 := by decide
  have f_4 : (Mo_used sMo_1).toInt = (Mo_used sMo).toInt := by subst e_1; rfl
  have f_5 : (Mo_fault sMo_1).toInt = (Mo_fault sMo).toInt := by subst e_1; rfl
  have f_6 : (Mo_place sMo_1).toInt = (Mo_place sMo).toInt := by subst e_1; rfl
  have f_7 : (Mo_madeMany sMo_1).toInt = (Mo_madeMany sMo).toInt := by subst e_1; rfl
  have f_8 : (Mo_madeKind sMo_1).toInt = (Mo_madeKind sMo).toInt := by subst e_1; rfl
  have f_9 : (Mo_madeSubsets sMo_1).toInt = (Mo_madeSubsets sMo).toInt := by subst e_1; rfl
  have f_10 : (Mo_written sMo_1).toInt = (Mo_written sMo).toInt := by subst e_1; rfl
  have f_11 : (Mo_taped sMo_1).toInt = (Mo_taped sMo).toInt := by subst e_1; rfl
  refine So.ite (fun c_12 => ?_) (fun c_12 => ?_)
  · rw [i_eq] at c_12
    exact So.one ⟨I_2, (by show (Mo_used sMo_1).toInt = (Mo_used sMo).toInt; omega), (by show (Mo_taped sMo_1).toInt = (Mo_taped sMo).toInt; omega), (by show (Mo_madeMany sMo_1).toInt = (Mo_madeMany sMo).toInt; omega), (by show (Mo_madeKind sMo_1).toInt = (Mo_madeKind sMo).toInt; omega), (by show (Mo_madeSubsets sMo_1).toInt = (Mo_madeSubsets sMo).toInt; omega), (by show (Mo_written sMo_1).toInt = (Mo_written sMo).toInt; omega)⟩
  · rw [i_eq] at c_12
    refine So.ite (fun c_13 => ?_) (fun c_13 => ?_)
    · rw [i_eq] at c_13
      have k_14 : (1 : Int32).toInt = 1 := by decide
      exact So.one ⟨I_2, (by show (Mo_used sMo_1).toInt = (Mo_used sMo).toInt; omega), (by show (Mo_taped sMo_1).toInt = (Mo_taped sMo).toInt; omega), (by show (Mo_madeMany sMo_1).toInt = (Mo_madeMany sMo).toInt; omega), (by show (Mo_madeKind sMo_1).toInt = (Mo_madeKind sMo).toInt; omega), (by show (Mo_madeSubsets sMo_1).toInt = (Mo_madeSubsets sMo).toInt; omega), (by show (Mo_written sMo_1).toInt = (Mo_written sMo).toInt; omega)⟩
    · rw [i_eq] at c_13
      have k_15 : (1 : Int32).toInt = 1 := by decide
      exact So.one ⟨I_2, (by show (Mo_used sMo_1).toInt = (Mo_used sMo).toInt; omega), (by show (Mo_taped sMo_1).toInt = (Mo_taped sMo).toInt; omega), (by show (Mo_madeMany sMo_1).toInt = (Mo_madeMany sMo).toInt; omega), (by show (Mo_madeKind sMo_1).toInt = (Mo_madeKind sMo).toInt; omega), (by show (Mo_madeSubsets sMo_1).toInt = (Mo_madeSubsets sMo).toInt; omega), (by show (Mo_written sMo_1).toInt = (Mo_written sMo).toInt; omega)⟩
theorem t_Mod_packedAt {sMpacked : (Nat → Int64)} {a0 : Int32} {sMo : S_Mo} (I_sMo : I_Mo sMo) : So (Mod_packedAt sMpacked a0 sMo) (fun r => I_Mo r.2 ∧ ((Mo_used r.2).toInt = (Mo_used sMo).toInt) ∧ ((Mo_taped r.2).toInt = (Mo_taped sMo).toInt) ∧ ((Mo_madeMany r.2).toInt = (Mo_madeMany sMo).toInt) ∧ ((Mo_madeKind r.2).toInt = (Mo_madeKind sMo).toInt) ∧ ((Mo_madeSubsets r.2).toInt = (Mo_madeSubsets sMo).toInt) ∧ ((Mo_written r.2).toInt = (Mo_written sMo).toInt)) := by
  unfold Mod_packedAt
  refine So.lt2 fun sMo_1 e_1 => ?_
  have I_2 : I_Mo sMo_1 := by rw [e_1]; exact (I_Mo_set_thrown I_sMo)
  have k_3 : (0 : Int32).toInt = 0 := by decide
  have f_4 : (Mo_used sMo_1).toInt = (Mo_used sMo).toInt := by subst e_1; rfl
  have f_5 : (Mo_madeMany sMo_1).toInt = (Mo_madeMany sMo).toInt := by subst e_1; rfl
  have f_6 : (Mo_madeKind sMo_1).toInt = (Mo_madeKind sMo).toInt := by subst e_1; rfl
  have f_7 : (Mo_madeSubsets sMo_1).toInt = (Mo_madeSubsets sMo).toInt := by subst e_1; rfl
  have f_8 : (Mo_written sMo_1).toInt = (Mo_written sMo).toInt := by subst e_1; rfl
  have f_9 : (Mo_taped sMo_1).toInt = (Mo_taped sMo).toInt := by subst e_1; rfl
  refine So.ite (fun c_10 => ?_) (fun c_10 => ?_)
  · rw [i_lt] at c_10
    exact So.one ⟨I_2, (by show (Mo_used sMo_1).toInt = (Mo_used sMo).toInt; omega), (by show (Mo_taped sMo_1).toInt = (Mo_taped sMo).toInt; omega), (by show (Mo_madeMany sMo_1).toInt = (Mo_madeMany sMo).toInt; omega), (by show (Mo_madeKind sMo_1).toInt = (Mo_madeKind sMo).toInt; omega), (by show (Mo_madeSubsets sMo_1).toInt = (Mo_madeSubsets sMo).toInt; omega), (by show (Mo_written sMo_1).toInt = (Mo_written sMo).toInt; omega)⟩
  · rw [i_lt] at c_10
    refine So.ite (fun c_11 => ?_) (fun c_11 => ?_)
    · rw [i_le] at c_11
      have k_12 : (63 : Int32).toInt = 63 := by decide
      refine So.gd (i_in.mpr (by omega)) ?_
      exact So.one ⟨I_2, (by show (Mo_used sMo_1).toInt = (Mo_used sMo).toInt; omega), (by show (Mo_taped sMo_1).toInt = (Mo_taped sMo).toInt; omega), (by show (Mo_madeMany sMo_1).toInt = (Mo_madeMany sMo).toInt; omega), (by show (Mo_madeKind sMo_1).toInt = (Mo_madeKind sMo).toInt; omega), (by show (Mo_madeSubsets sMo_1).toInt = (Mo_madeSubsets sMo).toInt; omega), (by show (Mo_written sMo_1).toInt = (Mo_written sMo).toInt; omega)⟩
    · rw [i_le] at c_11
      have k_13 : (63 : Int32).toInt = 63 := by decide
      exact So.one ⟨I_2, (by show (Mo_used sMo_1).toInt = (Mo_used sMo).toInt; omega), (by show (Mo_taped sMo_1).toInt = (Mo_taped sMo).toInt; omega), (by show (Mo_madeMany sMo_1).toInt = (Mo_madeMany sMo).toInt; omega), (by show (Mo_madeKind sMo_1).toInt = (Mo_madeKind sMo).toInt; omega), (by show (Mo_madeSubsets sMo_1).toInt = (Mo_madeSubsets sMo).toInt; omega), (by show (Mo_written sMo_1).toInt = (Mo_written sMo).toInt; omega)⟩
theorem t_Mod_group {sMcost : (Nat → Int64)} {sMends : (Nat → Int32)} {a0 : Int32} {sMo : S_Mo} (I_sMo : I_Mo sMo) : So (Mod_group sMcost sMends a0 sMo) (fun r => I_Mo r.2 ∧ ((Mo_used r.2).toInt = (Mo_used sMo).toInt) ∧ ((Mo_taped r.2).toInt = (Mo_taped sMo).toInt) ∧ ((Mo_madeMany r.2).toInt = (Mo_madeMany sMo).toInt) ∧ ((Mo_madeKind r.2).toInt = (Mo_madeKind sMo).toInt) ∧ ((Mo_madeSubsets r.2).toInt = (Mo_madeSubsets sMo).toInt) ∧ ((Mo_written r.2).toInt = (Mo_written sMo).toInt)) := by
  unfold Mod_group
  refine So.lt2 fun sMo_1 e_1 => ?_
  have I_2 : I_Mo sMo_1 := by rw [e_1]; exact (I_Mo_set_thrown I_sMo)
  have k_3 : (0 : Int32).toInt = 0 := by decide
  have f_4 : (Mo_used sMo_1).toInt = (Mo_used sMo).toInt := by subst e_1; rfl
  have f_5 : (Mo_madeMany sMo_1).toInt = (Mo_madeMany sMo).toInt := by subst e_1; rfl
  have f_6 : (Mo_madeKind sMo_1).toInt = (Mo_madeKind sMo).toInt := by subst e_1; rfl
  have f_7 : (Mo_madeSubsets sMo_1).toInt = (Mo_madeSubsets sMo).toInt := by subst e_1; rfl
  have f_8 : (Mo_written sMo_1).toInt = (Mo_written sMo).toInt := by subst e_1; rfl
  have f_9 : (Mo_taped sMo_1).toInt = (Mo_taped sMo).toInt := by subst e_1; rfl
  have f_10 : (Mo_codes sMo_1).toInt = (Mo_codes sMo).toInt := by subst e_1; rfl
  have f_11 : (Mo_groups sMo_1).toInt = (Mo_groups sMo).toInt := by subst e_1; rfl
  refine So.ite (fun c_12 => ?_) (fun c_12 => ?_)
  · rw [i_le] at c_12
    have f_13 := I_Mo_codes I_2
    refine So.ite (fun c_14 => ?_) (fun c_14 => ?_)
    · rw [i_eq] at c_14
      have k_15 : ((-1) : Int32).toInt = -1 := by decide
      exact So.one ⟨I_2, (by show (Mo_used sMo_1).toInt = (Mo_used sMo).toInt; omega), (by show (Mo_taped sMo_1).toInt = (Mo_taped sMo).toInt; omega), (by show (Mo_madeMany sMo_1).toInt = (Mo_madeMany sMo).toInt; omega), (by show (Mo_madeKind sMo_1).toInt = (Mo_madeKind sMo).toInt; omega), (by show (Mo_madeSubsets sMo_1).toInt = (Mo_madeSubsets sMo).toInt; omega), (by show (Mo_written sMo_1).toInt = (Mo_written sMo).toInt; omega)⟩
    · rw [i_eq] at c_14
      have k_16 : ((-1) : Int32).toInt = -1 := by decide
      refine So.ite (fun c_17 => ?_) (fun c_17 => ?_)
      · rw [i_eq] at c_17
        have k_18 : ((-2) : Int32).toInt = -2 := by decide
        refine So.gd (i_in.mpr (by omega)) ?_
        exact So.one ⟨I_2, (by show (Mo_used sMo_1).toInt = (Mo_used sMo).toInt; omega), (by show (Mo_taped sMo_1).toInt = (Mo_taped sMo).toInt; omega), (by show (Mo_madeMany sMo_1).toInt = (Mo_madeMany sMo).toInt; omega), (by show (Mo_madeKind sMo_1).toInt = (Mo_madeKind sMo).toInt; omega), (by show (Mo_madeSubsets sMo_1).toInt = (Mo_madeSubsets sMo).toInt; omega), (by show (Mo_written sMo_1).toInt = (Mo_written sMo).toInt; omega)⟩
      · rw [i_eq] at c_17
        have k_19 : ((-2) : Int32).toInt = -2 := by decide
        refine So.ite (fun c_20 => ?_) (fun c_20 => ?_)
        · rw [i_lt] at c_20
          exact So.one ⟨I_2, (by show (Mo_used sMo_1).toInt = (Mo_used sMo).toInt; omega), (by show (Mo_taped sMo_1).toInt = (Mo_taped sMo).toInt; omega), (by show (Mo_madeMany sMo_1).toInt = (Mo_madeMany sMo).toInt; omega), (by show (Mo_madeKind sMo_1).toInt = (Mo_madeKind sMo).toInt; omega), (by show (Mo_madeSubsets sMo_1).toInt = (Mo_madeSubsets sMo).toInt; omega), (by show (Mo_written sMo_1).toInt = (Mo_written sMo).toInt; omega)⟩
        · rw [i_lt] at c_20
          refine So.ite (fun c_21 => ?_) (fun c_21 => ?_)
          · rw [i_le] at c_21
            have f_22 := I_Mo_groups I_2
            exact So.one ⟨I_2, (by show (Mo_used sMo_1).toInt = (Mo_used sMo).toInt; omega), (by show (Mo_taped sMo_1).toInt = (Mo_taped sMo).toInt; omega), (by show (Mo_madeMany sMo_1).toInt = (Mo_madeMany sMo).toInt; omega), (by show (Mo_madeKind sMo_1).toInt = (Mo_madeKind sMo).toInt; omega), (by show (Mo_madeSubsets sMo_1).toInt = (Mo_madeSubsets sMo).toInt; omega), (by show (Mo_written sMo_1).toInt = (Mo_written sMo).toInt; omega)⟩
          · rw [i_le] at c_21
            have f_23 := I_Mo_groups I_2
            refine So.gd (i_in.mpr (by omega)) ?_
            exact So.one ⟨I_2, (by show (Mo_used sMo_1).toInt = (Mo_used sMo).toInt; omega), (by show (Mo_taped sMo_1).toInt = (Mo_taped sMo).toInt; omega), (by show (Mo_madeMany sMo_1).toInt = (Mo_madeMany sMo).toInt; omega), (by show (Mo_madeKind sMo_1).toInt = (Mo_madeKind sMo).toInt; omega), (by show (Mo_madeSubsets sMo_1).toInt = (Mo_madeSubsets sMo).toInt; omega), (by show (Mo_written sMo_1).toInt = (Mo_written sMo).toInt; omega)⟩
  · rw [i_le] at c_12
    have f_24 := I_Mo_codes I_2
    exact So.one ⟨I_2, (by show (Mo_used sMo_1).toInt = (Mo_used sMo).toInt; omega), (by show (Mo_taped sMo_1).toInt = (Mo_taped sMo).toInt; omega), (by show (Mo_madeMany sMo_1).toInt = (Mo_madeMany sMo).toInt; omega), (by show (Mo_madeKind sMo_1).toInt = (Mo_madeKind sMo).toInt; omega), (by show (Mo_madeSubsets sMo_1).toInt = (Mo_madeSubsets sMo).toInt; omega), (by show (Mo_written sMo_1).toInt = (Mo_written sMo).toInt; omega)⟩
theorem t_Mod_inOrder {a0 : Int32} (g_0 : 0 ≤ a0.toInt) (g_1 : a0.toInt < 64) : So (Mod_inOrder a0) (fun r => (0 ≤ r.toInt) ∧ (r.toInt < 64)) := by
  unfold Mod_inOrder
  refine So.ite (fun c_1 => ?_) (fun c_1 => ?_)
  · rw [i_eq] at c_1
    have k_2 : (8 : Int32).toInt = 8 := by decide
    first | have f_3 := i_divk a0 8 8 (by decide) (by decide) (by omega) | have f_3 := i_diva a0 8 8 (by decide) (by decide)
    have k_4 : (2 : Int32).toInt = 2 := by decide
    first | have f_5 := i_divk (a0 / 8) 2 2 (by decide) (by decide) (by omega) | have f_5 := i_diva (a0 / 8) 2 2 (by decide) (by decide)
    first | have f_6 := i_mulr ((a0 / 8) / 2) 2 (2) (by decide) (by omega) (by omega) | have f_6 := i_mulrm ((a0 / 8) / 2) 2 (2) (by decide)
    first | have f_7 := i_sub (a := (a0 / 8)) (b := (((a0 / 8) / 2) * 2)) (by omega) (by omega) | have f_7 := i_subm (a0 / 8) (((a0 / 8) / 2) * 2)
    have k_8 : (0 : Int32).toInt = 0 := by decide
    exact So.one ⟨(by show 0 ≤ (a0 : Int32).toInt; omega), (by show (a0 : Int32).toInt < 64; omega)⟩
  · rw [i_eq] at c_1
    have k_9 : (8 : Int32).toInt = 8 := by decide
    first | have f_10 := i_divk a0 8 8 (by decide) (by decide) (by omega) | have f_10 := i_diva a0 8 8 (by decide) (by decide)
    have k_11 : (2 : Int32).toInt = 2 := by decide
    first | have f_12 := i_divk (a0 / 8) 2 2 (by decide) (by decide) (by omega) | have f_12 := i_diva (a0 / 8) 2 2 (by decide) (by decide)
    first | have f_13 := i_mulr ((a0 / 8) / 2) 2 (2) (by decide) (by omega) (by omega) | have f_13 := i_mulrm ((a0 / 8) / 2) 2 (2) (by decide)
    first | have f_14 := i_sub (a := (a0 / 8)) (b := (((a0 / 8) / 2) * 2)) (by omega) (by omega) | have f_14 := i_subm (a0 / 8) (((a0 / 8) / 2) * 2)
    have k_15 : (0 : Int32).toInt = 0 := by decide
    first | have f_16 := i_mull 8 (a0 / 8) (8) (by decide) (by omega) (by omega) | have f_16 := i_mullm 8 (a0 / 8) (8) (by decide)
    have k_17 : (7 : Int32).toInt = 7 := by decide
    first | have f_18 := i_add (a := (8 * (a0 / 8))) (b := 7) (by omega) (by omega) | have f_18 := i_addm (8 * (a0 / 8)) 7
    first | have f_19 := i_mulr (a0 / 8) 8 (8) (by decide) (by omega) (by omega) | have f_19 := i_mulrm (a0 / 8) 8 (8) (by decide)
    first | have f_20 := i_sub (a := a0) (b := ((a0 / 8) * 8)) (by omega) (by omega) | have f_20 := i_subm a0 ((a0 / 8) * 8)
    first | have f_21 := i_sub (a := ((8 * (a0 / 8)) + 7)) (b := (a0 - ((a0 / 8) * 8))) (by omega) (by omega) | have f_21 := i_subm ((8 * (a0 / 8)) + 7) (a0 - ((a0 / 8) * 8))
    exact So.one ⟨(by show 0 ≤ ((((8 * (a0 / 8)) + 7) - (a0 - ((a0 / 8) * 8))) : Int32).toInt; omega), (by show ((((8 * (a0 / 8)) + 7) - (a0 - ((a0 / 8) * 8))) : Int32).toInt < 64; omega)⟩
theorem t_Mod_point {a0 : Int32} {a1 : Int64} {sMo : S_Mo} {sMpoints : (Nat → Int64)} (I_sMo : I_Mo sMo) : So (Mod_point a0 a1 sMo sMpoints) (fun r => I_Mo r.1 ∧ (((Mo_thrown r.1).toInt = 1 ∧ ¬ (0 ≤ a0.toInt ∧ a0.toInt < 64)) ∨ ((Mo_thrown r.1).toInt = 2 ∧ (0 ≤ a0.toInt ∧ a0.toInt < 64) ∧ ¬ (a1.toInt = -9000000000000000000 ∨ (-2000000000 ≤ a1.toInt ∧ a1.toInt ≤ 2000000000))) ∨ ((Mo_thrown r.1).toInt = 0 ∧ (0 ≤ a0.toInt ∧ a0.toInt < 64) ∧ (a1.toInt = -9000000000000000000 ∨ (-2000000000 ≤ a1.toInt ∧ a1.toInt ≤ 2000000000)))) ∧ ((Mo_used r.1).toInt = (Mo_used sMo).toInt) ∧ ((Mo_taped r.1).toInt = (Mo_taped sMo).toInt) ∧ ((Mo_madeMany r.1).toInt = (Mo_madeMany sMo).toInt) ∧ ((Mo_madeKind r.1).toInt = (Mo_madeKind sMo).toInt) ∧ ((Mo_madeSubsets r.1).toInt = (Mo_madeSubsets sMo).toInt) ∧ ((Mo_written r.1).toInt = (Mo_written sMo).toInt)) := by
  unfold Mod_point
  refine So.ite (fun c_1 => ?_) (fun c_1 => ?_)
  · rw [i_lt] at c_1
    have k_2 : (0 : Int32).toInt = 0 := by decide
    unfold Mod_point_j11
    unfold Mod_point_j44
    refine So.lt2 fun sMo_6 e_3 => ?_
    have I_4 : I_Mo sMo_6 := by rw [e_3]; exact (I_Mo_set_thrown I_sMo)
    have k_5 : (1 : Int32).toInt = 1 := by decide
    have f_6 : (Mo_thrown sMo_6).toInt = (1 : Int32).toInt := by subst e_3; rfl
    have f_7 : (Mo_used sMo_6).toInt = (Mo_used sMo).toInt := by subst e_3; rfl
    have f_8 : (Mo_madeMany sMo_6).toInt = (Mo_madeMany sMo).toInt := by subst e_3; rfl
    have f_9 : (Mo_madeKind sMo_6).toInt = (Mo_madeKind sMo).toInt := by subst e_3; rfl
    have f_10 : (Mo_madeSubsets sMo_6).toInt = (Mo_madeSubsets sMo).toInt := by subst e_3; rfl
    have f_11 : (Mo_written sMo_6).toInt = (Mo_written sMo).toInt := by subst e_3; rfl
    have f_12 : (Mo_taped sMo_6).toInt = (Mo_taped sMo).toInt := by subst e_3; rfl
    refine So.ite (fun c_13 => ?_) (fun c_13 => ?_)
    · rw [i_eq] at c_13
      refine So.gd (i_in.mpr (by omega)) ?_
      refine So.lt2 fun sMpoints_8 e_14 => ?_
      exact So.one ⟨I_4, (by show ((Mo_thrown sMo_6).toInt = 1 ∧ ¬ (0 ≤ a0.toInt ∧ a0.toInt < 64)) ∨ ((Mo_thrown sMo_6).toInt = 2 ∧ (0 ≤ a0.toInt ∧ a0.toInt < 64) ∧ ¬ (a1.toInt = -9000000000000000000 ∨ (-2000000000 ≤ a1.toInt ∧ a1.toInt ≤ 2000000000))) ∨ ((Mo_thrown sMo_6).toInt = 0 ∧ (0 ≤ a0.toInt ∧ a0.toInt < 64) ∧ (a1.toInt = -9000000000000000000 ∨ (-2000000000 ≤ a1.toInt ∧ a1.toInt ≤ 2000000000))); omega), (by show (Mo_used sMo_6).toInt = (Mo_used sMo).toInt; omega), (by show (Mo_taped sMo_6).toInt = (Mo_taped sMo).toInt; omega), (by show (Mo_madeMany sMo_6).toInt = (Mo_madeMany sMo).toInt; omega), (by show (Mo_madeKind sMo_6).toInt = (Mo_madeKind sMo).toInt; omega), (by show (Mo_madeSubsets sMo_6).toInt = (Mo_madeSubsets sMo).toInt; omega), (by show (Mo_written sMo_6).toInt = (Mo_written sMo).toInt; omega)⟩
    · rw [i_eq] at c_13
      exact So.one ⟨I_4, (by show ((Mo_thrown sMo_6).toInt = 1 ∧ ¬ (0 ≤ a0.toInt ∧ a0.toInt < 64)) ∨ ((Mo_thrown sMo_6).toInt = 2 ∧ (0 ≤ a0.toInt ∧ a0.toInt < 64) ∧ ¬ (a1.toInt = -9000000000000000000 ∨ (-2000000000 ≤ a1.toInt ∧ a1.toInt ≤ 2000000000))) ∨ ((Mo_thrown sMo_6).toInt = 0 ∧ (0 ≤ a0.toInt ∧ a0.toInt < 64) ∧ (a1.toInt = -9000000000000000000 ∨ (-2000000000 ≤ a1.toInt ∧ a1.toInt ≤ 2000000000))); omega), (by show (Mo_used sMo_6).toInt = (Mo_used sMo).toInt; omega), (by show (Mo_taped sMo_6).toInt = (Mo_taped sMo).toInt; omega), (by show (Mo_madeMany sMo_6).toInt = (Mo_madeMany sMo).toInt; omega), (by show (Mo_madeKind sMo_6).toInt = (Mo_madeKind sMo).toInt; omega), (by show (Mo_madeSubsets sMo_6).toInt = (Mo_madeSubsets sMo).toInt; omega), (by show (Mo_written sMo_6).toInt = (Mo_written sMo).toInt; omega)⟩
  · rw [i_lt] at c_1
    have k_15 : (0 : Int32).toInt = 0 := by decide
    refine So.ite (fun c_16 => ?_) (fun c_16 => ?_)
    · rw [i_le] at c_16
      have k_17 : (63 : Int32).toInt = 63 := by decide
      refine So.ite (fun c_18 => ?_) (fun c_18 => ?_)
      · rw [i64_eq] at c_18
        have k_19 : ((-9000000000000000000) : Int64).toInt = -9000000000000000000 := by decide
        unfold Mod_point_j43
        unfold Mod_point_j44
        refine So.lt2 fun sMo_6 e_20 => ?_
        have I_21 : I_Mo sMo_6 := by rw [e_20]; exact (I_Mo_set_thrown I_sMo)
        have f_22 : (Mo_thrown sMo_6).toInt = (0 : Int32).toInt := by subst e_20; rfl
        have f_23 : (Mo_used sMo_6).toInt = (Mo_used sMo).toInt := by subst e_20; rfl
        have f_24 : (Mo_madeMany sMo_6).toInt = (Mo_madeMany sMo).toInt := by subst e_20; rfl
        have f_25 : (Mo_madeKind sMo_6).toInt = (Mo_madeKind sMo).toInt := by subst e_20; rfl
        have f_26 : (Mo_madeSubsets sMo_6).toInt = (Mo_madeSubsets sMo).toInt := by subst e_20; rfl
        have f_27 : (Mo_written sMo_6).toInt = (Mo_written sMo).toInt := by subst e_20; rfl
        have f_28 : (Mo_taped sMo_6).toInt = (Mo_taped sMo).toInt := by subst e_20; rfl
        refine So.ite (fun c_29 => ?_) (fun c_29 => ?_)
        · rw [i_eq] at c_29
          refine So.gd (i_in.mpr (by omega)) ?_
          refine So.lt2 fun sMpoints_8 e_30 => ?_
          exact So.one ⟨I_21, (by show ((Mo_thrown sMo_6).toInt = 1 ∧ ¬ (0 ≤ a0.toInt ∧ a0.toInt < 64)) ∨ ((Mo_thrown sMo_6).toInt = 2 ∧ (0 ≤ a0.toInt ∧ a0.toInt < 64) ∧ ¬ (a1.toInt = -9000000000000000000 ∨ (-2000000000 ≤ a1.toInt ∧ a1.toInt ≤ 2000000000))) ∨ ((Mo_thrown sMo_6).toInt = 0 ∧ (0 ≤ a0.toInt ∧ a0.toInt < 64) ∧ (a1.toInt = -9000000000000000000 ∨ (-2000000000 ≤ a1.toInt ∧ a1.toInt ≤ 2000000000))); omega), (by show (Mo_used sMo_6).toInt = (Mo_used sMo).toInt; omega), (by show (Mo_taped sMo_6).toInt = (Mo_taped sMo).toInt; omega), (by show (Mo_madeMany sMo_6).toInt = (Mo_madeMany sMo).toInt; omega), (by show (Mo_madeKind sMo_6).toInt = (Mo_madeKind sMo).toInt; omega), (by show (Mo_madeSubsets sMo_6).toInt = (Mo_madeSubsets sMo).toInt; omega), (by show (Mo_written sMo_6).toInt = (Mo_written sMo).toInt; omega)⟩
        · rw [i_eq] at c_29
          exact So.one ⟨I_21, (by show ((Mo_thrown sMo_6).toInt = 1 ∧ ¬ (0 ≤ a0.toInt ∧ a0.toInt < 64)) ∨ ((Mo_thrown sMo_6).toInt = 2 ∧ (0 ≤ a0.toInt ∧ a0.toInt < 64) ∧ ¬ (a1.toInt = -9000000000000000000 ∨ (-2000000000 ≤ a1.toInt ∧ a1.toInt ≤ 2000000000))) ∨ ((Mo_thrown sMo_6).toInt = 0 ∧ (0 ≤ a0.toInt ∧ a0.toInt < 64) ∧ (a1.toInt = -9000000000000000000 ∨ (-2000000000 ≤ a1.toInt ∧ a1.toInt ≤ 2000000000))); omega), (by show (Mo_used sMo_6).toInt = (Mo_used sMo).toInt; omega), (by show (Mo_taped sMo_6).toInt = (Mo_taped sMo).toInt; omega), (by show (Mo_madeMany sMo_6).toInt = (Mo_madeMany sMo).toInt; omega), (by show (Mo_madeKind sMo_6).toInt = (Mo_madeKind sMo).toInt; omega), (by show (Mo_madeSubsets sMo_6).toInt = (Mo_madeSubsets sMo).toInt; omega), (by show (Mo_written sMo_6).toInt = (Mo_written sMo).toInt; omega)⟩
      · rw [i64_eq] at c_18
        have k_31 : ((-9000000000000000000) : Int64).toInt = -9000000000000000000 := by decide
        refine So.ite (fun c_32 => ?_) (fun c_32 => ?_)
        · rw [i64_lt] at c_32
          have k_33 : ((-2000000000) : Int64).toInt = -2000000000 := by decide
          unfold Mod_point_j39
          unfold Mod_point_j44
          refine So.lt2 fun sMo_6 e_34 => ?_
          have I_35 : I_Mo sMo_6 := by rw [e_34]; exact (I_Mo_set_thrown I_sMo)
          have k_36 : (2 : Int32).toInt = 2 := by decide
          have f_37 : (Mo_thrown sMo_6).toInt = (2 : Int32).toInt := by subst e_34; rfl
          have f_38 : (Mo_used sMo_6).toInt = (Mo_used sMo).toInt := by subst e_34; rfl
          have f_39 : (Mo_madeMany sMo_6).toInt = (Mo_madeMany sMo).toInt := by subst e_34; rfl
          have f_40 : (Mo_madeKind sMo_6).toInt = (Mo_madeKind sMo).toInt := by subst e_34; rfl
          have f_41 : (Mo_madeSubsets sMo_6).toInt = (Mo_madeSubsets sMo).toInt := by subst e_34; rfl
          have f_42 : (Mo_written sMo_6).toInt = (Mo_written sMo).toInt := by subst e_34; rfl
          have f_43 : (Mo_taped sMo_6).toInt = (Mo_taped sMo).toInt := by subst e_34; rfl
          refine So.ite (fun c_44 => ?_) (fun c_44 => ?_)
          · rw [i_eq] at c_44
            refine So.gd (i_in.mpr (by omega)) ?_
            refine So.lt2 fun sMpoints_8 e_45 => ?_
            exact So.one ⟨I_35, (by show ((Mo_thrown sMo_6).toInt = 1 ∧ ¬ (0 ≤ a0.toInt ∧ a0.toInt < 64)) ∨ ((Mo_thrown sMo_6).toInt = 2 ∧ (0 ≤ a0.toInt ∧ a0.toInt < 64) ∧ ¬ (a1.toInt = -9000000000000000000 ∨ (-2000000000 ≤ a1.toInt ∧ a1.toInt ≤ 2000000000))) ∨ ((Mo_thrown sMo_6).toInt = 0 ∧ (0 ≤ a0.toInt ∧ a0.toInt < 64) ∧ (a1.toInt = -9000000000000000000 ∨ (-2000000000 ≤ a1.toInt ∧ a1.toInt ≤ 2000000000))); omega), (by show (Mo_used sMo_6).toInt = (Mo_used sMo).toInt; omega), (by show (Mo_taped sMo_6).toInt = (Mo_taped sMo).toInt; omega), (by show (Mo_madeMany sMo_6).toInt = (Mo_madeMany sMo).toInt; omega), (by show (Mo_madeKind sMo_6).toInt = (Mo_madeKind sMo).toInt; omega), (by show (Mo_madeSubsets sMo_6).toInt = (Mo_madeSubsets sMo).toInt; omega), (by show (Mo_written sMo_6).toInt = (Mo_written sMo).toInt; omega)⟩
          · rw [i_eq] at c_44
            exact So.one ⟨I_35, (by show ((Mo_thrown sMo_6).toInt = 1 ∧ ¬ (0 ≤ a0.toInt ∧ a0.toInt < 64)) ∨ ((Mo_thrown sMo_6).toInt = 2 ∧ (0 ≤ a0.toInt ∧ a0.toInt < 64) ∧ ¬ (a1.toInt = -9000000000000000000 ∨ (-2000000000 ≤ a1.toInt ∧ a1.toInt ≤ 2000000000))) ∨ ((Mo_thrown sMo_6).toInt = 0 ∧ (0 ≤ a0.toInt ∧ a0.toInt < 64) ∧ (a1.toInt = -9000000000000000000 ∨ (-2000000000 ≤ a1.toInt ∧ a1.toInt ≤ 2000000000))); omega), (by show (Mo_used sMo_6).toInt = (Mo_used sMo).toInt; omega), (by show (Mo_taped sMo_6).toInt = (Mo_taped sMo).toInt; omega), (by show (Mo_madeMany sMo_6).toInt = (Mo_madeMany sMo).toInt; omega), (by show (Mo_madeKind sMo_6).toInt = (Mo_madeKind sMo).toInt; omega), (by show (Mo_madeSubsets sMo_6).toInt = (Mo_madeSubsets sMo).toInt; omega), (by show (Mo_written sMo_6).toInt = (Mo_written sMo).toInt; omega)⟩
        · rw [i64_lt] at c_32
          have k_46 : ((-2000000000) : Int64).toInt = -2000000000 := by decide
          refine So.ite (fun c_47 => ?_) (fun c_47 => ?_)
          · rw [i64_le] at c_47
            have k_48 : (2000000000 : Int64).toInt = 2000000000 := by decide
            unfold Mod_point_j43
            unfold Mod_point_j44
            refine So.lt2 fun sMo_6 e_49 => ?_
            have I_50 : I_Mo sMo_6 := by rw [e_49]; exact (I_Mo_set_thrown I_sMo)
            have f_51 : (Mo_thrown sMo_6).toInt = (0 : Int32).toInt := by subst e_49; rfl
            have f_52 : (Mo_used sMo_6).toInt = (Mo_used sMo).toInt := by subst e_49; rfl
            have f_53 : (Mo_madeMany sMo_6).toInt = (Mo_madeMany sMo).toInt := by subst e_49; rfl
            have f_54 : (Mo_madeKind sMo_6).toInt = (Mo_madeKind sMo).toInt := by subst e_49; rfl
            have f_55 : (Mo_madeSubsets sMo_6).toInt = (Mo_madeSubsets sMo).toInt := by subst e_49; rfl
            have f_56 : (Mo_written sMo_6).toInt = (Mo_written sMo).toInt := by subst e_49; rfl
            have f_57 : (Mo_taped sMo_6).toInt = (Mo_taped sMo).toInt := by subst e_49; rfl
            refine So.ite (fun c_58 => ?_) (fun c_58 => ?_)
            · rw [i_eq] at c_58
              refine So.gd (i_in.mpr (by omega)) ?_
              refine So.lt2 fun sMpoints_8 e_59 => ?_
              exact So.one ⟨I_50, (by show ((Mo_thrown sMo_6).toInt = 1 ∧ ¬ (0 ≤ a0.toInt ∧ a0.toInt < 64)) ∨ ((Mo_thrown sMo_6).toInt = 2 ∧ (0 ≤ a0.toInt ∧ a0.toInt < 64) ∧ ¬ (a1.toInt = -9000000000000000000 ∨ (-2000000000 ≤ a1.toInt ∧ a1.toInt ≤ 2000000000))) ∨ ((Mo_thrown sMo_6).toInt = 0 ∧ (0 ≤ a0.toInt ∧ a0.toInt < 64) ∧ (a1.toInt = -9000000000000000000 ∨ (-2000000000 ≤ a1.toInt ∧ a1.toInt ≤ 2000000000))); omega), (by show (Mo_used sMo_6).toInt = (Mo_used sMo).toInt; omega), (by show (Mo_taped sMo_6).toInt = (Mo_taped sMo).toInt; omega), (by show (Mo_madeMany sMo_6).toInt = (Mo_madeMany sMo).toInt; omega), (by show (Mo_madeKind sMo_6).toInt = (Mo_madeKind sMo).toInt; omega), (by show (Mo_madeSubsets sMo_6).toInt = (Mo_madeSubsets sMo).toInt; omega), (by show (Mo_written sMo_6).toInt = (Mo_written sMo).toInt; omega)⟩
            · rw [i_eq] at c_58
              exact So.one ⟨I_50, (by show ((Mo_thrown sMo_6).toInt = 1 ∧ ¬ (0 ≤ a0.toInt ∧ a0.toInt < 64)) ∨ ((Mo_thrown sMo_6).toInt = 2 ∧ (0 ≤ a0.toInt ∧ a0.toInt < 64) ∧ ¬ (a1.toInt = -9000000000000000000 ∨ (-2000000000 ≤ a1.toInt ∧ a1.toInt ≤ 2000000000))) ∨ ((Mo_thrown sMo_6).toInt = 0 ∧ (0 ≤ a0.toInt ∧ a0.toInt < 64) ∧ (a1.toInt = -9000000000000000000 ∨ (-2000000000 ≤ a1.toInt ∧ a1.toInt ≤ 2000000000))); omega), (by show (Mo_used sMo_6).toInt = (Mo_used sMo).toInt; omega), (by show (Mo_taped sMo_6).toInt = (Mo_taped sMo).toInt; omega), (by show (Mo_madeMany sMo_6).toInt = (Mo_madeMany sMo).toInt; omega), (by show (Mo_madeKind sMo_6).toInt = (Mo_madeKind sMo).toInt; omega), (by show (Mo_madeSubsets sMo_6).toInt = (Mo_madeSubsets sMo).toInt; omega), (by show (Mo_written sMo_6).toInt = (Mo_written sMo).toInt; omega)⟩
          · rw [i64_le] at c_47
            have k_60 : (2000000000 : Int64).toInt = 2000000000 := by decide
            unfold Mod_point_j39
            unfold Mod_point_j44
            refine So.lt2 fun sMo_6 e_61 => ?_
            have I_62 : I_Mo sMo_6 := by rw [e_61]; exact (I_Mo_set_thrown I_sMo)
            have k_63 : (2 : Int32).toInt = 2 := by decide
            have f_64 : (Mo_thrown sMo_6).toInt = (2 : Int32).toInt := by subst e_61; rfl
            have f_65 : (Mo_used sMo_6).toInt = (Mo_used sMo).toInt := by subst e_61; rfl
            have f_66 : (Mo_madeMany sMo_6).toInt = (Mo_madeMany sMo).toInt := by subst e_61; rfl
            have f_67 : (Mo_madeKind sMo_6).toInt = (Mo_madeKind sMo).toInt := by subst e_61; rfl
            have f_68 : (Mo_madeSubsets sMo_6).toInt = (Mo_madeSubsets sMo).toInt := by subst e_61; rfl
            have f_69 : (Mo_written sMo_6).toInt = (Mo_written sMo).toInt := by subst e_61; rfl
            have f_70 : (Mo_taped sMo_6).toInt = (Mo_taped sMo).toInt := by subst e_61; rfl
            refine So.ite (fun c_71 => ?_) (fun c_71 => ?_)
            · rw [i_eq] at c_71
              refine So.gd (i_in.mpr (by omega)) ?_
              refine So.lt2 fun sMpoints_8 e_72 => ?_
              exact So.one ⟨I_62, (by show ((Mo_thrown sMo_6).toInt = 1 ∧ ¬ (0 ≤ a0.toInt ∧ a0.toInt < 64)) ∨ ((Mo_thrown sMo_6).toInt = 2 ∧ (0 ≤ a0.toInt ∧ a0.toInt < 64) ∧ ¬ (a1.toInt = -9000000000000000000 ∨ (-2000000000 ≤ a1.toInt ∧ a1.toInt ≤ 2000000000))) ∨ ((Mo_thrown sMo_6).toInt = 0 ∧ (0 ≤ a0.toInt ∧ a0.toInt < 64) ∧ (a1.toInt = -9000000000000000000 ∨ (-2000000000 ≤ a1.toInt ∧ a1.toInt ≤ 2000000000))); omega), (by show (Mo_used sMo_6).toInt = (Mo_used sMo).toInt; omega), (by show (Mo_taped sMo_6).toInt = (Mo_taped sMo).toInt; omega), (by show (Mo_madeMany sMo_6).toInt = (Mo_madeMany sMo).toInt; omega), (by show (Mo_madeKind sMo_6).toInt = (Mo_madeKind sMo).toInt; omega), (by show (Mo_madeSubsets sMo_6).toInt = (Mo_madeSubsets sMo).toInt; omega), (by show (Mo_written sMo_6).toInt = (Mo_written sMo).toInt; omega)⟩
            · rw [i_eq] at c_71
              exact So.one ⟨I_62, (by show ((Mo_thrown sMo_6).toInt = 1 ∧ ¬ (0 ≤ a0.toInt ∧ a0.toInt < 64)) ∨ ((Mo_thrown sMo_6).toInt = 2 ∧ (0 ≤ a0.toInt ∧ a0.toInt < 64) ∧ ¬ (a1.toInt = -9000000000000000000 ∨ (-2000000000 ≤ a1.toInt ∧ a1.toInt ≤ 2000000000))) ∨ ((Mo_thrown sMo_6).toInt = 0 ∧ (0 ≤ a0.toInt ∧ a0.toInt < 64) ∧ (a1.toInt = -9000000000000000000 ∨ (-2000000000 ≤ a1.toInt ∧ a1.toInt ≤ 2000000000))); omega), (by show (Mo_used sMo_6).toInt = (Mo_used sMo).toInt; omega), (by show (Mo_taped sMo_6).toInt = (Mo_taped sMo).toInt; omega), (by show (Mo_madeMany sMo_6).toInt = (Mo_madeMany sMo).toInt; omega), (by show (Mo_madeKind sMo_6).toInt = (Mo_madeKind sMo).toInt; omega), (by show (Mo_madeSubsets sMo_6).toInt = (Mo_madeSubsets sMo).toInt; omega), (by show (Mo_written sMo_6).toInt = (Mo_written sMo).toInt; omega)⟩
    · rw [i_le] at c_16
      have k_73 : (63 : Int32).toInt = 63 := by decide
      unfold Mod_point_j11
      unfold Mod_point_j44
      refine So.lt2 fun sMo_6 e_74 => ?_
      have I_75 : I_Mo sMo_6 := by rw [e_74]; exact (I_Mo_set_thrown I_sMo)
      have k_76 : (1 : Int32).toInt = 1 := by decide
      have f_77 : (Mo_thrown sMo_6).toInt = (1 : Int32).toInt := by subst e_74; rfl
      have f_78 : (Mo_used sMo_6).toInt = (Mo_used sMo).toInt := by subst e_74; rfl
      have f_79 : (Mo_madeMany sMo_6).toInt = (Mo_madeMany sMo).toInt := by subst e_74; rfl
      have f_80 : (Mo_madeKind sMo_6).toInt = (Mo_madeKind sMo).toInt := by subst e_74; rfl
      have f_81 : (Mo_madeSubsets sMo_6).toInt = (Mo_madeSubsets sMo).toInt := by subst e_74; rfl
      have f_82 : (Mo_written sMo_6).toInt = (Mo_written sMo).toInt := by subst e_74; rfl
      have f_83 : (Mo_taped sMo_6).toInt = (Mo_taped sMo).toInt := by subst e_74; rfl
      refine So.ite (fun c_84 => ?_) (fun c_84 => ?_)
      · rw [i_eq] at c_84
        refine So.gd (i_in.mpr (by omega)) ?_
        refine So.lt2 fun sMpoints_8 e_85 => ?_
        exact So.one ⟨I_75, (by show ((Mo_thrown sMo_6).toInt = 1 ∧ ¬ (0 ≤ a0.toInt ∧ a0.toInt < 64)) ∨ ((Mo_thrown sMo_6).toInt = 2 ∧ (0 ≤ a0.toInt ∧ a0.toInt < 64) ∧ ¬ (a1.toInt = -9000000000000000000 ∨ (-2000000000 ≤ a1.toInt ∧ a1.toInt ≤ 2000000000))) ∨ ((Mo_thrown sMo_6).toInt = 0 ∧ (0 ≤ a0.toInt ∧ a0.toInt < 64) ∧ (a1.toInt = -9000000000000000000 ∨ (-2000000000 ≤ a1.toInt ∧ a1.toInt ≤ 2000000000))); omega), (by show (Mo_used sMo_6).toInt = (Mo_used sMo).toInt; omega), (by show (Mo_taped sMo_6).toInt = (Mo_taped sMo).toInt; omega), (by show (Mo_madeMany sMo_6).toInt = (Mo_madeMany sMo).toInt; omega), (by show (Mo_madeKind sMo_6).toInt = (Mo_madeKind sMo).toInt; omega), (by show (Mo_madeSubsets sMo_6).toInt = (Mo_madeSubsets sMo).toInt; omega), (by show (Mo_written sMo_6).toInt = (Mo_written sMo).toInt; omega)⟩
      · rw [i_eq] at c_84
        exact So.one ⟨I_75, (by show ((Mo_thrown sMo_6).toInt = 1 ∧ ¬ (0 ≤ a0.toInt ∧ a0.toInt < 64)) ∨ ((Mo_thrown sMo_6).toInt = 2 ∧ (0 ≤ a0.toInt ∧ a0.toInt < 64) ∧ ¬ (a1.toInt = -9000000000000000000 ∨ (-2000000000 ≤ a1.toInt ∧ a1.toInt ≤ 2000000000))) ∨ ((Mo_thrown sMo_6).toInt = 0 ∧ (0 ≤ a0.toInt ∧ a0.toInt < 64) ∧ (a1.toInt = -9000000000000000000 ∨ (-2000000000 ≤ a1.toInt ∧ a1.toInt ≤ 2000000000))); omega), (by show (Mo_used sMo_6).toInt = (Mo_used sMo).toInt; omega), (by show (Mo_taped sMo_6).toInt = (Mo_taped sMo).toInt; omega), (by show (Mo_madeMany sMo_6).toInt = (Mo_madeMany sMo).toInt; omega), (by show (Mo_madeKind sMo_6).toInt = (Mo_madeKind sMo).toInt; omega), (by show (Mo_madeSubsets sMo_6).toInt = (Mo_madeSubsets sMo).toInt; omega), (by show (Mo_written sMo_6).toInt = (Mo_written sMo).toInt; omega)⟩
theorem t_Mod_byteAt_L95 {fu : Nat} {sMmade : (Nat → Int32)} {x1_L95 : Int32} {sMo_L95 : S_Mo} (hf : 12000 ≤ fu) (I_sMo_L95 : I_Mo sMo_L95) (g_0 : 4 ≤ x1_L95.toInt) (g_1 : x1_L95.toInt ≤ 5005) : ∀ (n : Nat) (x2_L95 : Int32) (x3_L95 : Int32), (8 * (x1_L95.toInt - 4) ≤ x3_L95.toInt) → (x3_L95.toInt ≤ 8 * (x1_L95.toInt - 3)) → (8 * (x1_L95.toInt - 3) - x3_L95.toInt < (n : Nat)) → So (Mod_byteAt_L95 fu sMmade x1_L95 sMo_L95 n x2_L95 x3_L95) (fun r => I_Mo r.2 ∧ ((Mo_used r.2).toInt = (Mo_used sMo_L95).toInt) ∧ ((Mo_taped r.2).toInt = (Mo_taped sMo_L95).toInt) ∧ ((Mo_madeMany r.2).toInt = (Mo_madeMany sMo_L95).toInt) ∧ ((Mo_madeKind r.2).toInt = (Mo_madeKind sMo_L95).toInt) ∧ ((Mo_madeSubsets r.2).toInt = (Mo_madeSubsets sMo_L95).toInt) ∧ ((Mo_written r.2).toInt = (Mo_written sMo_L95).toInt))
  | 0, x2_L95, x3_L95, l_0, l_1, l_2 => absurd l_2 (by omega)
  | n + 1, x2_L95, x3_L95, l_0, l_1, l_2 => by
    rw [Mod_byteAt_L95]
    refine So.ite (fun c_1 => ?_) (fun c_1 => ?_)
    · rw [i_le] at c_1
      have k_2 : (8 : Int32).toInt = 8 := by decide
      have k_3 : (3 : Int32).toInt = 3 := by decide
      first | have f_4 := i_sub (a := x1_L95) (b := 3) (by omega) (by omega) | have f_4 := i_subm x1_L95 3
      first | have f_5 := i_mull 8 (x1_L95 - 3) (8) (by decide) (by omega) (by omega) | have f_5 := i_mullm 8 (x1_L95 - 3) (8) (by decide)
      exact So.one ⟨I_sMo_L95, (by show (Mo_used sMo_L95).toInt = (Mo_used sMo_L95).toInt; omega), (by show (Mo_taped sMo_L95).toInt = (Mo_taped sMo_L95).toInt; omega), (by show (Mo_madeMany sMo_L95).toInt = (Mo_madeMany sMo_L95).toInt; omega), (by show (Mo_madeKind sMo_L95).toInt = (Mo_madeKind sMo_L95).toInt; omega), (by show (Mo_madeSubsets sMo_L95).toInt = (Mo_madeSubsets sMo_L95).toInt; omega), (by show (Mo_written sMo_L95).toInt = (Mo_written sMo_L95).toInt; omega)⟩
    · rw [i_le] at c_1
      have k_6 : (8 : Int32).toInt = 8 := by decide
      have k_7 : (3 : Int32).toInt = 3 := by decide
      first | have f_8 := i_sub (a := x1_L95) (b := 3) (by omega) (by omega) | have f_8 := i_subm x1_L95 3
      first | have f_9 := i_mull 8 (x1_L95 - 3) (8) (by decide) (by omega) (by omega) | have f_9 := i_mullm 8 (x1_L95 - 3) (8) (by decide)
      refine So.ite (fun c_10 => ?_) (fun c_10 => ?_)
      · rw [i_le] at c_10
        have f_11 := I_Mo_madeMany I_sMo_L95
        unfold Mod_byteAt_j129
        unfold Mod_byteAt_j130
        have k_12 : (1 : Int32).toInt = 1 := by decide
        first | have f_13 := i_add (a := x3_L95) (b := 1) (by omega) (by omega) | have f_13 := i_addm x3_L95 1
        exact t_Mod_byteAt_L95 hf I_sMo_L95 (by show 4 ≤ x1_L95.toInt; omega) (by show x1_L95.toInt ≤ 5005; omega)   n _ _ (by show 8 * (x1_L95.toInt - 4) ≤ (x3_L95 + 1).toInt; omega) (by show (x3_L95 + 1).toInt ≤ 8 * (x1_L95.toInt - 3); omega) (by show 8 * (x1_L95.toInt - 3) - (x3_L95 + 1).toInt < (n : Nat); omega)
      · rw [i_le] at c_10
        have f_14 := I_Mo_madeMany I_sMo_L95
        refine So.gd (i_in.mpr (by omega)) ?_
        refine So.ite (fun c_15 => ?_) (fun c_15 => ?_)
        · rw [i_eq] at c_15
          have k_16 : (0 : Int32).toInt = 0 := by decide
          unfold Mod_byteAt_j129
          unfold Mod_byteAt_j130
          have k_17 : (1 : Int32).toInt = 1 := by decide
          first | have f_18 := i_add (a := x3_L95) (b := 1) (by omega) (by omega) | have f_18 := i_addm x3_L95 1
          exact t_Mod_byteAt_L95 hf I_sMo_L95 (by show 4 ≤ x1_L95.toInt; omega) (by show x1_L95.toInt ≤ 5005; omega)   n _ _ (by show 8 * (x1_L95.toInt - 4) ≤ (x3_L95 + 1).toInt; omega) (by show (x3_L95 + 1).toInt ≤ 8 * (x1_L95.toInt - 3); omega) (by show 8 * (x1_L95.toInt - 3) - (x3_L95 + 1).toInt < (n : Nat); omega)
        · rw [i_eq] at c_15
          have k_19 : (0 : Int32).toInt = 0 := by decide
          unfold Mod_byteAt_j130
          have k_20 : (1 : Int32).toInt = 1 := by decide
          first | have f_21 := i_add (a := x3_L95) (b := 1) (by omega) (by omega) | have f_21 := i_addm x3_L95 1
          exact t_Mod_byteAt_L95 hf I_sMo_L95 (by show 4 ≤ x1_L95.toInt; omega) (by show x1_L95.toInt ≤ 5005; omega)   n _ _ (by show 8 * (x1_L95.toInt - 4) ≤ (x3_L95 + 1).toInt; omega) (by show (x3_L95 + 1).toInt ≤ 8 * (x1_L95.toInt - 3); omega) (by show 8 * (x1_L95.toInt - 3) - (x3_L95 + 1).toInt < (n : Nat); omega)
theorem t_Mod_byteAt {fu : Nat} {sMmade : (Nat → Int32)} {a0 : Int32} {sMo : S_Mo} (hf : 12000 ≤ fu) (I_sMo : I_Mo sMo) : So (Mod_byteAt fu sMmade a0 sMo) (fun r => I_Mo r.2 ∧ ((Mo_used r.2).toInt = (Mo_used sMo).toInt) ∧ ((Mo_taped r.2).toInt = (Mo_taped sMo).toInt) ∧ ((Mo_madeMany r.2).toInt = (Mo_madeMany sMo).toInt) ∧ ((Mo_madeKind r.2).toInt = (Mo_madeKind sMo).toInt) ∧ ((Mo_madeSubsets r.2).toInt = (Mo_madeSubsets sMo).toInt) ∧ ((Mo_written r.2).toInt = (Mo_written sMo).toInt)) := by
  unfold Mod_byteAt
  refine So.lt2 fun sMo_1 e_1 => ?_
  have I_2 : I_Mo sMo_1 := by rw [e_1]; exact (I_Mo_set_thrown I_sMo)
  have k_3 : (0 : Int32).toInt = 0 := by decide
  have f_4 : (Mo_used sMo_1).toInt = (Mo_used sMo).toInt := by subst e_1; rfl
  have f_5 : (Mo_madeMany sMo_1).toInt = (Mo_madeMany sMo).toInt := by subst e_1; rfl
  have f_6 : (Mo_madeKind sMo_1).toInt = (Mo_madeKind sMo).toInt := by subst e_1; rfl
  have f_7 : (Mo_madeSubsets sMo_1).toInt = (Mo_madeSubsets sMo).toInt := by subst e_1; rfl
  have f_8 : (Mo_written sMo_1).toInt = (Mo_written sMo).toInt := by subst e_1; rfl
  have f_9 : (Mo_taped sMo_1).toInt = (Mo_taped sMo).toInt := by subst e_1; rfl
  refine So.ite (fun c_10 => ?_) (fun c_10 => ?_)
  · rw [i_eq] at c_10
    exact So.one ⟨I_2, (by show (Mo_used sMo_1).toInt = (Mo_used sMo).toInt; omega), (by show (Mo_taped sMo_1).toInt = (Mo_taped sMo).toInt; omega), (by show (Mo_madeMany sMo_1).toInt = (Mo_madeMany sMo).toInt; omega), (by show (Mo_madeKind sMo_1).toInt = (Mo_madeKind sMo).toInt; omega), (by show (Mo_madeSubsets sMo_1).toInt = (Mo_madeSubsets sMo).toInt; omega), (by show (Mo_written sMo_1).toInt = (Mo_written sMo).toInt; omega)⟩
  · rw [i_eq] at c_10
    refine So.ite (fun c_11 => ?_) (fun c_11 => ?_)
    · rw [i_lt] at c_11
      exact So.one ⟨I_2, (by show (Mo_used sMo_1).toInt = (Mo_used sMo).toInt; omega), (by show (Mo_taped sMo_1).toInt = (Mo_taped sMo).toInt; omega), (by show (Mo_madeMany sMo_1).toInt = (Mo_madeMany sMo).toInt; omega), (by show (Mo_madeKind sMo_1).toInt = (Mo_madeKind sMo).toInt; omega), (by show (Mo_madeSubsets sMo_1).toInt = (Mo_madeSubsets sMo).toInt; omega), (by show (Mo_written sMo_1).toInt = (Mo_written sMo).toInt; omega)⟩
    · rw [i_lt] at c_11
      refine So.ite (fun c_12 => ?_) (fun c_12 => ?_)
      · rw [i_lt] at c_12
        have k_13 : (4 : Int32).toInt = 4 := by decide
        have f_14 := I_Mo_madeMany I_2
        have k_15 : (7 : Int32).toInt = 7 := by decide
        first | have f_16 := i_add (a := (Mo_madeMany sMo_1)) (b := 7) (by omega) (by omega) | have f_16 := i_addm (Mo_madeMany sMo_1) 7
        have k_17 : (8 : Int32).toInt = 8 := by decide
        first | have f_18 := i_divk ((Mo_madeMany sMo_1) + 7) 8 8 (by decide) (by decide) (by omega) | have f_18 := i_diva ((Mo_madeMany sMo_1) + 7) 8 8 (by decide) (by decide)
        first | have f_19 := i_add (a := 4) (b := (((Mo_madeMany sMo_1) + 7) / 8)) (by omega) (by omega) | have f_19 := i_addm 4 (((Mo_madeMany sMo_1) + 7) / 8)
        refine So.ite (fun c_20 => ?_) (fun c_20 => ?_)
        · rw [i_le] at c_20
          first | have f_21 := i_sub (a := a0) (b := 4) (by omega) (by omega) | have f_21 := i_subm a0 4
          first | have f_22 := i_mull 8 (a0 - 4) (8) (by decide) (by omega) (by omega) | have f_22 := i_mullm 8 (a0 - 4) (8) (by decide)
          refine So.imp (t_Mod_byteAt_L95 hf I_2 (by show 4 ≤ a0.toInt; omega) (by show a0.toInt ≤ 5005; omega) fu _ _ (by show 8 * (a0.toInt - 4) ≤ (8 * (a0 - 4)).toInt; omega) (by show (8 * (a0 - 4)).toInt ≤ 8 * (a0.toInt - 3); omega) (by show 8 * (a0.toInt - 3) - (8 * (a0 - 4)).toInt < (fu : Nat); omega)) fun q_z h_z => ?_
          obtain ⟨p_23, p_24, p_25, p_26, p_27, p_28, p_29⟩ := h_z
          exact ⟨p_23, (by show (Mo_used q_z.2).toInt = (Mo_used sMo).toInt; omega), (by show (Mo_taped q_z.2).toInt = (Mo_taped sMo).toInt; omega), (by show (Mo_madeMany q_z.2).toInt = (Mo_madeMany sMo).toInt; omega), (by show (Mo_madeKind q_z.2).toInt = (Mo_madeKind sMo).toInt; omega), (by show (Mo_madeSubsets q_z.2).toInt = (Mo_madeSubsets sMo).toInt; omega), (by show (Mo_written q_z.2).toInt = (Mo_written sMo).toInt; omega)⟩
        · rw [i_le] at c_20
          refine So.ite (fun c_30 => ?_) (fun c_30 => ?_)
          · rw [i_eq] at c_30
            exact So.one ⟨I_2, (by show (Mo_used sMo_1).toInt = (Mo_used sMo).toInt; omega), (by show (Mo_taped sMo_1).toInt = (Mo_taped sMo).toInt; omega), (by show (Mo_madeMany sMo_1).toInt = (Mo_madeMany sMo).toInt; omega), (by show (Mo_madeKind sMo_1).toInt = (Mo_madeKind sMo).toInt; omega), (by show (Mo_madeSubsets sMo_1).toInt = (Mo_madeSubsets sMo).toInt; omega), (by show (Mo_written sMo_1).toInt = (Mo_written sMo).toInt; omega)⟩
          · rw [i_eq] at c_30
            refine So.ite (fun c_31 => ?_) (fun c_31 => ?_)
            · rw [i_eq] at c_31
              have k_32 : (1 : Int32).toInt = 1 := by decide
              exact So.one ⟨I_2, (by show (Mo_used sMo_1).toInt = (Mo_used sMo).toInt; omega), (by show (Mo_taped sMo_1).toInt = (Mo_taped sMo).toInt; omega), (by show (Mo_madeMany sMo_1).toInt = (Mo_madeMany sMo).toInt; omega), (by show (Mo_madeKind sMo_1).toInt = (Mo_madeKind sMo).toInt; omega), (by show (Mo_madeSubsets sMo_1).toInt = (Mo_madeSubsets sMo).toInt; omega), (by show (Mo_written sMo_1).toInt = (Mo_written sMo).toInt; omega)⟩
            · rw [i_eq] at c_31
              have k_33 : (1 : Int32).toInt = 1 := by decide
              refine So.ite (fun c_34 => ?_) (fun c_34 => ?_)
              · rw [i_eq] at c_34
                have k_35 : (2 : Int32).toInt = 2 := by decide
                exact So.one ⟨I_2, (by show (Mo_used sMo_1).toInt = (Mo_used sMo).toInt; omega), (by show (Mo_taped sMo_1).toInt = (Mo_taped sMo).toInt; omega), (by show (Mo_madeMany sMo_1).toInt = (Mo_madeMany sMo).toInt; omega), (by show (Mo_madeKind sMo_1).toInt = (Mo_madeKind sMo).toInt; omega), (by show (Mo_madeSubsets sMo_1).toInt = (Mo_madeSubsets sMo).toInt; omega), (by show (Mo_written sMo_1).toInt = (Mo_written sMo).toInt; omega)⟩
              · rw [i_eq] at c_34
                have k_36 : (2 : Int32).toInt = 2 := by decide
                exact So.one ⟨I_2, (by show (Mo_used sMo_1).toInt = (Mo_used sMo).toInt; omega), (by show (Mo_taped sMo_1).toInt = (Mo_taped sMo).toInt; omega), (by show (Mo_madeMany sMo_1).toInt = (Mo_madeMany sMo).toInt; omega), (by show (Mo_madeKind sMo_1).toInt = (Mo_madeKind sMo).toInt; omega), (by show (Mo_madeSubsets sMo_1).toInt = (Mo_madeSubsets sMo).toInt; omega), (by show (Mo_written sMo_1).toInt = (Mo_written sMo).toInt; omega)⟩
      · rw [i_lt] at c_12
        have k_37 : (4 : Int32).toInt = 4 := by decide
        have f_38 := I_Mo_madeMany I_2
        have k_39 : (7 : Int32).toInt = 7 := by decide
        first | have f_40 := i_add (a := (Mo_madeMany sMo_1)) (b := 7) (by omega) (by omega) | have f_40 := i_addm (Mo_madeMany sMo_1) 7
        have k_41 : (8 : Int32).toInt = 8 := by decide
        first | have f_42 := i_divk ((Mo_madeMany sMo_1) + 7) 8 8 (by decide) (by decide) (by omega) | have f_42 := i_diva ((Mo_madeMany sMo_1) + 7) 8 8 (by decide) (by decide)
        first | have f_43 := i_add (a := 4) (b := (((Mo_madeMany sMo_1) + 7) / 8)) (by omega) (by omega) | have f_43 := i_addm 4 (((Mo_madeMany sMo_1) + 7) / 8)
        exact So.one ⟨I_2, (by show (Mo_used sMo_1).toInt = (Mo_used sMo).toInt; omega), (by show (Mo_taped sMo_1).toInt = (Mo_taped sMo).toInt; omega), (by show (Mo_madeMany sMo_1).toInt = (Mo_madeMany sMo).toInt; omega), (by show (Mo_madeKind sMo_1).toInt = (Mo_madeKind sMo).toInt; omega), (by show (Mo_madeSubsets sMo_1).toInt = (Mo_madeSubsets sMo).toInt; omega), (by show (Mo_written sMo_1).toInt = (Mo_written sMo).toInt; omega)⟩
theorem t_Mod_feed_L33 {fu : Nat} {x1_L33 : Int32} (Z : S_Mo) (hf : 12000 ≤ fu) : ∀ (n : Nat) (x3_L33 : Int32) (sMo_L33 : S_Mo) (sMtape_L33 : Nat → Int32), I_Mo sMo_L33 → A_Mtape sMtape_L33 → (-1 ≤ x3_L33.toInt) → (x3_L33.toInt ≤ 3) → ((Mo_taped sMo_L33).toInt + x3_L33.toInt + 1 ≤ 1000) → ((Mo_used sMo_L33).toInt = (Mo_used Z).toInt) → ((Mo_madeMany sMo_L33).toInt = (Mo_madeMany Z).toInt) → ((Mo_madeKind sMo_L33).toInt = (Mo_madeKind Z).toInt) → ((Mo_madeSubsets sMo_L33).toInt = (Mo_madeSubsets Z).toInt) → ((Mo_written sMo_L33).toInt = (Mo_written Z).toInt) → (x3_L33.toInt + 1 < (n : Nat)) → So (Mod_feed_L33 fu x1_L33 n x3_L33 sMo_L33 sMtape_L33) (fun r => I_Mo r.2.1 ∧ A_Mtape r.2.2 ∧ ((Mo_used r.2.1).toInt = (Mo_used Z).toInt) ∧ ((Mo_madeMany r.2.1).toInt = (Mo_madeMany Z).toInt) ∧ ((Mo_madeKind r.2.1).toInt = (Mo_madeKind Z).toInt) ∧ ((Mo_madeSubsets r.2.1).toInt = (Mo_madeSubsets Z).toInt) ∧ ((Mo_written r.2.1).toInt = (Mo_written Z).toInt))
  | 0, x3_L33, sMo_L33, sMtape_L33, I_sMo_L33, I_sMtape_L33, l_0, l_1, l_2, l_3, l_4, l_5, l_6, l_7, l_8 => absurd l_8 (by omega)
  | n + 1, x3_L33, sMo_L33, sMtape_L33, I_sMo_L33, I_sMtape_L33, l_0, l_1, l_2, l_3, l_4, l_5, l_6, l_7, l_8 => by
    rw [Mod_feed_L33]
    refine So.ite (fun c_1 => ?_) (fun c_1 => ?_)
    · rw [i_lt] at c_1
      have k_2 : (0 : Int32).toInt = 0 := by decide
      exact So.one ⟨I_sMo_L33, I_sMtape_L33, (by show (Mo_used sMo_L33).toInt = (Mo_used Z).toInt; omega), (by show (Mo_madeMany sMo_L33).toInt = (Mo_madeMany Z).toInt; omega), (by show (Mo_madeKind sMo_L33).toInt = (Mo_madeKind Z).toInt; omega), (by show (Mo_madeSubsets sMo_L33).toInt = (Mo_madeSubsets Z).toInt; omega), (by show (Mo_written sMo_L33).toInt = (Mo_written Z).toInt; omega)⟩
    · rw [i_lt] at c_1
      have k_3 : (0 : Int32).toInt = 0 := by decide
      have f_4 := I_Mo_taped I_sMo_L33
      refine So.gd (i_in.mpr (by omega)) ?_
      refine So.lt2 fun sMtape_3 e_5 => ?_
      have k_6 : (8 : Int32).toInt = 8 := by decide
      first | have f_7 := i_mull 8 x3_L33 (8) (by decide) (by omega) (by omega) | have f_7 := i_mullm 8 x3_L33 (8) (by decide)
      have k_8 : (31 : Int32).toInt = 31 := by decide
      have f_9 := i_andm (8 * x3_L33) 31 (by decide)
      have k_10 : (255 : Int32).toInt = 255 := by decide
      have f_11 := i_andm (x1_L33 >>> ((8 * x3_L33) &&& 31)) 255 (by decide)
      have I_12 : A_Mtape sMtape_3 := by rw [e_5]; exact (A_Mtape_upd I_sMtape_L33 (by show 0 ≤ (((x1_L33 >>> ((8 * x3_L33) &&& 31)) &&& 255) : Int32).toInt ∧ (((x1_L33 >>> ((8 * x3_L33) &&& 31)) &&& 255) : Int32).toInt ≤ 255; omega))
      have k_14 : (1 : Int32).toInt = 1 := by decide
      first | have f_15 := i_add (a := (Mo_taped sMo_L33)) (b := 1) (by omega) (by omega) | have f_15 := i_addm (Mo_taped sMo_L33) 1
      refine So.lt2 fun sMo_4 e_13 => ?_
      have I_16 : I_Mo sMo_4 := by rw [e_13]; exact (I_Mo_set_taped I_sMo_L33 (by show 0 ≤ (((Mo_taped sMo_L33) + 1) : Int32).toInt ∧ (((Mo_taped sMo_L33) + 1) : Int32).toInt ≤ 1000; omega))
      have f_17 : (Mo_used sMo_4).toInt = (Mo_used sMo_L33).toInt := by subst e_13; rfl
      have f_18 : (Mo_madeMany sMo_4).toInt = (Mo_madeMany sMo_L33).toInt := by subst e_13; rfl
      have f_19 : (Mo_madeKind sMo_4).toInt = (Mo_madeKind sMo_L33).toInt := by subst e_13; rfl
      have f_20 : (Mo_madeSubsets sMo_4).toInt = (Mo_madeSubsets sMo_L33).toInt := by subst e_13; rfl
      have f_21 : (Mo_written sMo_4).toInt = (Mo_written sMo_L33).toInt := by subst e_13; rfl
      have f_22 : (Mo_taped sMo_4).toInt = (((Mo_taped sMo_L33) + 1) : Int32).toInt := by subst e_13; rfl
      have k_23 : ((-1) : Int32).toInt = -1 := by decide
      first | have f_24 := i_add (a := x3_L33) (b := (-1)) (by omega) (by omega) | have f_24 := i_addm x3_L33 (-1)
      have f_25 := I_Mo_taped I_16
      have f_26 := I_Mo_used I_16
      have f_27 := I_Mo_madeMany I_16
      exact t_Mod_feed_L33 (Z) hf   n _ _ _ I_16 I_12 (by show -1 ≤ (x3_L33 + (-1)).toInt; ((try generalize (x3_L33 + (-1)).toInt = gv0 at *); omega)) (by show (x3_L33 + (-1)).toInt ≤ 3; ((try generalize (x3_L33 + (-1)).toInt = gv0 at *); omega)) (by show (Mo_taped sMo_4).toInt + (x3_L33 + (-1)).toInt + 1 ≤ 1000; ((try generalize (x3_L33 + (-1)).toInt = gv0 at *); omega)) (by show (Mo_used sMo_4).toInt = (Mo_used Z).toInt; ((try generalize (x3_L33 + (-1)).toInt = gv0 at *); omega)) (by show (Mo_madeMany sMo_4).toInt = (Mo_madeMany Z).toInt; ((try generalize (x3_L33 + (-1)).toInt = gv0 at *); omega)) (by show (Mo_madeKind sMo_4).toInt = (Mo_madeKind Z).toInt; ((try generalize (x3_L33 + (-1)).toInt = gv0 at *); omega)) (by show (Mo_madeSubsets sMo_4).toInt = (Mo_madeSubsets Z).toInt; ((try generalize (x3_L33 + (-1)).toInt = gv0 at *); omega)) (by show (Mo_written sMo_4).toInt = (Mo_written Z).toInt; ((try generalize (x3_L33 + (-1)).toInt = gv0 at *); omega)) (by show (x3_L33 + (-1)).toInt + 1 < (n : Nat); ((try generalize (x3_L33 + (-1)).toInt = gv0 at *); omega))
theorem t_Mod_feed {fu : Nat} {a0 : Int32} {a1 : Int32} {sMo : S_Mo} {sMtape : (Nat → Int32)} (hf : 12000 ≤ fu) (I_sMo : I_Mo sMo) (I_sMtape : A_Mtape sMtape) : So (Mod_feed fu a0 a1 sMo sMtape) (fun r => I_Mo r.2.1 ∧ A_Mtape r.2.2 ∧ ((Mo_used r.2.1).toInt = (Mo_used sMo).toInt) ∧ ((Mo_madeMany r.2.1).toInt = (Mo_madeMany sMo).toInt) ∧ ((Mo_madeKind r.2.1).toInt = (Mo_madeKind sMo).toInt) ∧ ((Mo_madeSubsets r.2.1).toInt = (Mo_madeSubsets sMo).toInt) ∧ ((Mo_written r.2.1).toInt = (Mo_written sMo).toInt)) := by
  unfold Mod_feed
  refine So.lt2 fun sMo_1 e_1 => ?_
  have I_2 : I_Mo sMo_1 := by rw [e_1]; exact (I_Mo_set_thrown I_sMo)
  have k_3 : (0 : Int32).toInt = 0 := by decide
  have f_4 : (Mo_used sMo_1).toInt = (Mo_used sMo).toInt := by subst e_1; rfl
  have f_5 : (Mo_madeMany sMo_1).toInt = (Mo_madeMany sMo).toInt := by subst e_1; rfl
  have f_6 : (Mo_madeKind sMo_1).toInt = (Mo_madeKind sMo).toInt := by subst e_1; rfl
  have f_7 : (Mo_madeSubsets sMo_1).toInt = (Mo_madeSubsets sMo).toInt := by subst e_1; rfl
  have f_8 : (Mo_written sMo_1).toInt = (Mo_written sMo).toInt := by subst e_1; rfl
  have f_9 : (Mo_taped sMo_1).toInt = (Mo_taped sMo).toInt := by subst e_1; rfl
  refine So.ite (fun c_10 => ?_) (fun c_10 => ?_)
  · rw [i_lt] at c_10
    have k_11 : (1 : Int32).toInt = 1 := by decide
    exact So.one ⟨I_2, I_sMtape, (by show (Mo_used sMo_1).toInt = (Mo_used sMo).toInt; omega), (by show (Mo_madeMany sMo_1).toInt = (Mo_madeMany sMo).toInt; omega), (by show (Mo_madeKind sMo_1).toInt = (Mo_madeKind sMo).toInt; omega), (by show (Mo_madeSubsets sMo_1).toInt = (Mo_madeSubsets sMo).toInt; omega), (by show (Mo_written sMo_1).toInt = (Mo_written sMo).toInt; omega)⟩
  · rw [i_lt] at c_10
    have k_12 : (1 : Int32).toInt = 1 := by decide
    refine So.ite (fun c_13 => ?_) (fun c_13 => ?_)
    · rw [i_lt] at c_13
      have k_14 : (4 : Int32).toInt = 4 := by decide
      exact So.one ⟨I_2, I_sMtape, (by show (Mo_used sMo_1).toInt = (Mo_used sMo).toInt; omega), (by show (Mo_madeMany sMo_1).toInt = (Mo_madeMany sMo).toInt; omega), (by show (Mo_madeKind sMo_1).toInt = (Mo_madeKind sMo).toInt; omega), (by show (Mo_madeSubsets sMo_1).toInt = (Mo_madeSubsets sMo).toInt; omega), (by show (Mo_written sMo_1).toInt = (Mo_written sMo).toInt; omega)⟩
    · rw [i_lt] at c_13
      have k_15 : (4 : Int32).toInt = 4 := by decide
      refine So.ite (fun c_16 => ?_) (fun c_16 => ?_)
      · rw [i_le] at c_16
        have f_17 := I_Mo_taped I_2
        first | have f_18 := i_add (a := (Mo_taped sMo_1)) (b := a1) (by omega) (by omega) | have f_18 := i_addm (Mo_taped sMo_1) a1
        have k_19 : (1000 : Int32).toInt = 1000 := by decide
        first | have f_20 := i_sub (a := a1) (b := 1) (by omega) (by omega) | have f_20 := i_subm a1 1
        have f_21 := I_Mo_used I_2
        have f_22 := I_Mo_madeMany I_2
        refine So.imp (t_Mod_feed_L33 (sMo) hf fu _ _ _ I_2 I_sMtape (by show -1 ≤ (a1 - 1).toInt; omega) (by show (a1 - 1).toInt ≤ 3; omega) (by show (Mo_taped sMo_1).toInt + (a1 - 1).toInt + 1 ≤ 1000; omega) (by show (Mo_used sMo_1).toInt = (Mo_used sMo).toInt; omega) (by show (Mo_madeMany sMo_1).toInt = (Mo_madeMany sMo).toInt; omega) (by show (Mo_madeKind sMo_1).toInt = (Mo_madeKind sMo).toInt; omega) (by show (Mo_madeSubsets sMo_1).toInt = (Mo_madeSubsets sMo).toInt; omega) (by show (Mo_written sMo_1).toInt = (Mo_written sMo).toInt; omega) (by show (a1 - 1).toInt + 1 < (fu : Nat); omega)) fun q_z h_z => ?_
        obtain ⟨p_23, p_24, p_25, p_26, p_27, p_28, p_29⟩ := h_z
        exact ⟨p_23, p_24, (by show (Mo_used q_z.2.1).toInt = (Mo_used sMo).toInt; omega), (by show (Mo_madeMany q_z.2.1).toInt = (Mo_madeMany sMo).toInt; omega), (by show (Mo_madeKind q_z.2.1).toInt = (Mo_madeKind sMo).toInt; omega), (by show (Mo_madeSubsets q_z.2.1).toInt = (Mo_madeSubsets sMo).toInt; omega), (by show (Mo_written q_z.2.1).toInt = (Mo_written sMo).toInt; omega)⟩
      · rw [i_le] at c_16
        have f_30 := I_Mo_taped I_2
        first | have f_31 := i_add (a := (Mo_taped sMo_1)) (b := a1) (by omega) (by omega) | have f_31 := i_addm (Mo_taped sMo_1) a1
        have k_32 : (1000 : Int32).toInt = 1000 := by decide
        exact So.one ⟨I_2, I_sMtape, (by show (Mo_used sMo_1).toInt = (Mo_used sMo).toInt; omega), (by show (Mo_madeMany sMo_1).toInt = (Mo_madeMany sMo).toInt; omega), (by show (Mo_madeKind sMo_1).toInt = (Mo_madeKind sMo).toInt; omega), (by show (Mo_madeSubsets sMo_1).toInt = (Mo_madeSubsets sMo).toInt; omega), (by show (Mo_written sMo_1).toInt = (Mo_written sMo).toInt; omega)⟩
theorem t_Mod_isIn {a0 : Int32} {a1 : Int32} {a2 : Int32}  : So (Mod_isIn a0 a1 a2) (fun r => ((r.toInt = 1 ∧ (a1.toInt ≤ a0.toInt ∧ a0.toInt ≤ a2.toInt)) ∨ (r.toInt = 0 ∧ ¬ (a1.toInt ≤ a0.toInt ∧ a0.toInt ≤ a2.toInt)))) := by
  unfold Mod_isIn
  refine So.ite (fun c_1 => ?_) (fun c_1 => ?_)
  · rw [i_lt] at c_1
    have k_2 : (0 : Int32).toInt = 0 := by decide
    exact So.one (by show ((0 : Int32).toInt = 1 ∧ (a1.toInt ≤ a0.toInt ∧ a0.toInt ≤ a2.toInt)) ∨ ((0 : Int32).toInt = 0 ∧ ¬ (a1.toInt ≤ a0.toInt ∧ a0.toInt ≤ a2.toInt)); omega)
  · rw [i_lt] at c_1
    refine So.ite (fun c_3 => ?_) (fun c_3 => ?_)
    · rw [i_lt] at c_3
      have k_4 : (0 : Int32).toInt = 0 := by decide
      exact So.one (by show ((0 : Int32).toInt = 1 ∧ (a1.toInt ≤ a0.toInt ∧ a0.toInt ≤ a2.toInt)) ∨ ((0 : Int32).toInt = 0 ∧ ¬ (a1.toInt ≤ a0.toInt ∧ a0.toInt ≤ a2.toInt)); omega)
    · rw [i_lt] at c_3
      have k_5 : (1 : Int32).toInt = 1 := by decide
      exact So.one (by show ((1 : Int32).toInt = 1 ∧ (a1.toInt ≤ a0.toInt ∧ a0.toInt ≤ a2.toInt)) ∨ ((1 : Int32).toInt = 0 ∧ ¬ (a1.toInt ≤ a0.toInt ∧ a0.toInt ≤ a2.toInt)); omega)
theorem t_Mod_fresh {sMo : S_Mo} (I_sMo : I_Mo sMo) : So (Mod_fresh sMo) (fun r => I_Mo r ∧ ((Mo_fault r).toInt = 0)) := by
  unfold Mod_fresh
  refine So.lt2 fun sMo_1 e_1 => ?_
  have I_2 : I_Mo sMo_1 := by rw [e_1]; exact (I_Mo_set_fault I_sMo)
  have k_3 : (0 : Int32).toInt = 0 := by decide
  have f_4 : (Mo_fault sMo_1).toInt = (0 : Int32).toInt := by subst e_1; rfl
  refine So.lt2 fun sMo_2 e_5 => ?_
  have I_6 : I_Mo sMo_2 := by rw [e_5]; exact (I_Mo_set_place I_2)
  have k_7 : ((-1) : Int32).toInt = -1 := by decide
  have f_8 : (Mo_fault sMo_2).toInt = (Mo_fault sMo_1).toInt := by subst e_5; rfl
  exact So.one ⟨I_6, (by show (Mo_fault sMo_2).toInt = 0; omega)⟩
theorem t_Mod_most {a0 : Int32}  : So (Mod_most a0) (fun r => True) := by
  unfold Mod_most
  exact So.one trivial

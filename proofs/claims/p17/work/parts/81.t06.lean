def I_Mo (s : S_Mo) : Prop := (0 ≤ (Mo_used s).toInt ∧ (Mo_used s).toInt ≤ 3) ∧ (0 ≤ (Mo_open s).toInt ∧ (Mo_open s).toInt ≤ 90) ∧ (0 ≤ (Mo_fields s).toInt ∧ (Mo_fields s).toInt ≤ 100) ∧ (0 ≤ (Mo_elements s).toInt ∧ (Mo_elements s).toInt ≤ 100) ∧ (0 ≤ (Mo_pointed s).toInt ∧ (Mo_pointed s).toInt ≤ 100) ∧ (0 ≤ (Mo_pointer s).toInt ∧ (Mo_pointer s).toInt ≤ 100) ∧ (0 ≤ (Mo_subset s).toInt ∧ (Mo_subset s).toInt ≤ 7) ∧ (0 ≤ (Mo_many s).toInt ∧ (Mo_many s).toInt ≤ 65535) ∧ (0 ≤ (Mo_at s).toInt ∧ (Mo_at s).toInt ≤ 40000) ∧ (0 ≤ (Mo_madeMany s).toInt ∧ (Mo_madeMany s).toInt ≤ 40000) ∧ (0 ≤ (Mo_taped s).toInt ∧ (Mo_taped s).toInt ≤ 1000) ∧ (0 ≤ (Mo_firstFields s).toInt ∧ (Mo_firstFields s).toInt ≤ 100) ∧ (-1 ≤ (Mo_codes s).toInt ∧ (Mo_codes s).toInt ≤ 64) ∧ (0 ≤ (Mo_groups s).toInt ∧ (Mo_groups s).toInt ≤ 64)
theorem I_Mo_used {s : S_Mo} (h : I_Mo s) : 0 ≤ (Mo_used s).toInt ∧ (Mo_used s).toInt ≤ 3 := h.1
theorem I_Mo_open {s : S_Mo} (h : I_Mo s) : 0 ≤ (Mo_open s).toInt ∧ (Mo_open s).toInt ≤ 90 := h.2.1
theorem I_Mo_fields {s : S_Mo} (h : I_Mo s) : 0 ≤ (Mo_fields s).toInt ∧ (Mo_fields s).toInt ≤ 100 := h.2.2.1
theorem I_Mo_elements {s : S_Mo} (h : I_Mo s) : 0 ≤ (Mo_elements s).toInt ∧ (Mo_elements s).toInt ≤ 100 := h.2.2.2.1
theorem I_Mo_pointed {s : S_Mo} (h : I_Mo s) : 0 ≤ (Mo_pointed s).toInt ∧ (Mo_pointed s).toInt ≤ 100 := h.2.2.2.2.1
theorem I_Mo_pointer {s : S_Mo} (h : I_Mo s) : 0 ≤ (Mo_pointer s).toInt ∧ (Mo_pointer s).toInt ≤ 100 := h.2.2.2.2.2.1
theorem I_Mo_subset {s : S_Mo} (h : I_Mo s) : 0 ≤ (Mo_subset s).toInt ∧ (Mo_subset s).toInt ≤ 7 := h.2.2.2.2.2.2.1
theorem I_Mo_many {s : S_Mo} (h : I_Mo s) : 0 ≤ (Mo_many s).toInt ∧ (Mo_many s).toInt ≤ 65535 := h.2.2.2.2.2.2.2.1
theorem I_Mo_at {s : S_Mo} (h : I_Mo s) : 0 ≤ (Mo_at s).toInt ∧ (Mo_at s).toInt ≤ 40000 := h.2.2.2.2.2.2.2.2.1
theorem I_Mo_madeMany {s : S_Mo} (h : I_Mo s) : 0 ≤ (Mo_madeMany s).toInt ∧ (Mo_madeMany s).toInt ≤ 40000 := h.2.2.2.2.2.2.2.2.2.1
theorem I_Mo_taped {s : S_Mo} (h : I_Mo s) : 0 ≤ (Mo_taped s).toInt ∧ (Mo_taped s).toInt ≤ 1000 := h.2.2.2.2.2.2.2.2.2.2.1
theorem I_Mo_firstFields {s : S_Mo} (h : I_Mo s) : 0 ≤ (Mo_firstFields s).toInt ∧ (Mo_firstFields s).toInt ≤ 100 := h.2.2.2.2.2.2.2.2.2.2.2.1
theorem I_Mo_codes {s : S_Mo} (h : I_Mo s) : -1 ≤ (Mo_codes s).toInt ∧ (Mo_codes s).toInt ≤ 64 := h.2.2.2.2.2.2.2.2.2.2.2.2.1
theorem I_Mo_groups {s : S_Mo} (h : I_Mo s) : 0 ≤ (Mo_groups s).toInt ∧ (Mo_groups s).toInt ≤ 64 := h.2.2.2.2.2.2.2.2.2.2.2.2.2
theorem I_Mo_set_thrown {s : S_Mo} {v : Int32} (h : I_Mo s) : I_Mo (Mo_set_thrown s v) := h
theorem I_Mo_set_used {s : S_Mo} {v : Int32} (h : I_Mo s) (h0 : 0 ≤ v.toInt ∧ v.toInt ≤ 3) : I_Mo (Mo_set_used s v) := ⟨h0, h.2.1, h.2.2.1, h.2.2.2.1, h.2.2.2.2.1, h.2.2.2.2.2.1, h.2.2.2.2.2.2.1, h.2.2.2.2.2.2.2.1, h.2.2.2.2.2.2.2.2.1, h.2.2.2.2.2.2.2.2.2.1, h.2.2.2.2.2.2.2.2.2.2.1, h.2.2.2.2.2.2.2.2.2.2.2.1, h.2.2.2.2.2.2.2.2.2.2.2.2.1, h.2.2.2.2.2.2.2.2.2.2.2.2.2⟩
theorem I_Mo_set_fault {s : S_Mo} {v : Int32} (h : I_Mo s) : I_Mo (Mo_set_fault s v) := h
theorem I_Mo_set_place {s : S_Mo} {v : Int32} (h : I_Mo s) : I_Mo (Mo_set_place s v) := h
theorem I_Mo_set_open {s : S_Mo} {v : Int32} (h : I_Mo s) (h0 : 0 ≤ v.toInt ∧ v.toInt ≤ 90) : I_Mo (Mo_set_open s v) := ⟨h.1, h0, h.2.2.1, h.2.2.2.1, h.2.2.2.2.1, h.2.2.2.2.2.1, h.2.2.2.2.2.2.1, h.2.2.2.2.2.2.2.1, h.2.2.2.2.2.2.2.2.1, h.2.2.2.2.2.2.2.2.2.1, h.2.2.2.2.2.2.2.2.2.2.1, h.2.2.2.2.2.2.2.2.2.2.2.1, h.2.2.2.2.2.2.2.2.2.2.2.2.1, h.2.2.2.2.2.2.2.2.2.2.2.2.2⟩
theorem I_Mo_set_looked {s : S_Mo} {v : Int32} (h : I_Mo s) : I_Mo (Mo_set_looked s v) := h
theorem I_Mo_set_fields {s : S_Mo} {v : Int32} (h : I_Mo s) (h0 : 0 ≤ v.toInt ∧ v.toInt ≤ 100) : I_Mo (Mo_set_fields s v) := ⟨h.1, h.2.1, h0, h.2.2.2.1, h.2.2.2.2.1, h.2.2.2.2.2.1, h.2.2.2.2.2.2.1, h.2.2.2.2.2.2.2.1, h.2.2.2.2.2.2.2.2.1, h.2.2.2.2.2.2.2.2.2.1, h.2.2.2.2.2.2.2.2.2.2.1, h.2.2.2.2.2.2.2.2.2.2.2.1, h.2.2.2.2.2.2.2.2.2.2.2.2.1, h.2.2.2.2.2.2.2.2.2.2.2.2.2⟩
theorem I_Mo_set_elements {s : S_Mo} {v : Int32} (h : I_Mo s) (h0 : 0 ≤ v.toInt ∧ v.toInt ≤ 100) : I_Mo (Mo_set_elements s v) := ⟨h.1, h.2.1, h.2.2.1, h0, h.2.2.2.2.1, h.2.2.2.2.2.1, h.2.2.2.2.2.2.1, h.2.2.2.2.2.2.2.1, h.2.2.2.2.2.2.2.2.1, h.2.2.2.2.2.2.2.2.2.1, h.2.2.2.2.2.2.2.2.2.2.1, h.2.2.2.2.2.2.2.2.2.2.2.1, h.2.2.2.2.2.2.2.2.2.2.2.2.1, h.2.2.2.2.2.2.2.2.2.2.2.2.2⟩
theorem I_Mo_set_pointed {s : S_Mo} {v : Int32} (h : I_Mo s) (h0 : 0 ≤ v.toInt ∧ v.toInt ≤ 100) : I_Mo (Mo_set_pointed s v) := ⟨h.1, h.2.1, h.2.2.1, h.2.2.2.1, h0, h.2.2.2.2.2.1, h.2.2.2.2.2.2.1, h.2.2.2.2.2.2.2.1, h.2.2.2.2.2.2.2.2.1, h.2.2.2.2.2.2.2.2.2.1, h.2.2.2.2.2.2.2.2.2.2.1, h.2.2.2.2.2.2.2.2.2.2.2.1, h.2.2.2.2.2.2.2.2.2.2.2.2.1, h.2.2.2.2.2.2.2.2.2.2.2.2.2⟩
theorem I_Mo_set_pointer {s : S_Mo} {v : Int32} (h : I_Mo s) (h0 : 0 ≤ v.toInt ∧ v.toInt ≤ 100) : I_Mo (Mo_set_pointer s v) := ⟨h.1, h.2.1, h.2.2.1, h.2.2.2.1, h.2.2.2.2.1, h0, h.2.2.2.2.2.2.1, h.2.2.2.2.2.2.2.1, h.2.2.2.2.2.2.2.2.1, h.2.2.2.2.2.2.2.2.2.1, h.2.2.2.2.2.2.2.2.2.2.1, h.2.2.2.2.2.2.2.2.2.2.2.1, h.2.2.2.2.2.2.2.2.2.2.2.2.1, h.2.2.2.2.2.2.2.2.2.2.2.2.2⟩
theorem I_Mo_set_mode {s : S_Mo} {v : Int32} (h : I_Mo s) : I_Mo (Mo_set_mode s v) := h
theorem I_Mo_set_subset {s : S_Mo} {v : Int32} (h : I_Mo s) (h0 : 0 ≤ v.toInt ∧ v.toInt ≤ 7) : I_Mo (Mo_set_subset s v) := ⟨h.1, h.2.1, h.2.2.1, h.2.2.2.1, h.2.2.2.2.1, h.2.2.2.2.2.1, h0, h.2.2.2.2.2.2.2.1, h.2.2.2.2.2.2.2.2.1, h.2.2.2.2.2.2.2.2.2.1, h.2.2.2.2.2.2.2.2.2.2.1, h.2.2.2.2.2.2.2.2.2.2.2.1, h.2.2.2.2.2.2.2.2.2.2.2.2.1, h.2.2.2.2.2.2.2.2.2.2.2.2.2⟩
theorem I_Mo_set_subsets {s : S_Mo} {v : Int32} (h : I_Mo s) : I_Mo (Mo_set_subsets s v) := h
theorem I_Mo_set_many {s : S_Mo} {v : Int32} (h : I_Mo s) (h0 : 0 ≤ v.toInt ∧ v.toInt ≤ 65535) : I_Mo (Mo_set_many s v) := ⟨h.1, h.2.1, h.2.2.1, h.2.2.2.1, h.2.2.2.2.1, h.2.2.2.2.2.1, h.2.2.2.2.2.2.1, h0, h.2.2.2.2.2.2.2.2.1, h.2.2.2.2.2.2.2.2.2.1, h.2.2.2.2.2.2.2.2.2.2.1, h.2.2.2.2.2.2.2.2.2.2.2.1, h.2.2.2.2.2.2.2.2.2.2.2.2.1, h.2.2.2.2.2.2.2.2.2.2.2.2.2⟩
theorem I_Mo_set_at {s : S_Mo} {v : Int32} (h : I_Mo s) (h0 : 0 ≤ v.toInt ∧ v.toInt ≤ 40000) : I_Mo (Mo_set_at s v) := ⟨h.1, h.2.1, h.2.2.1, h.2.2.2.1, h.2.2.2.2.1, h.2.2.2.2.2.1, h.2.2.2.2.2.2.1, h.2.2.2.2.2.2.2.1, h0, h.2.2.2.2.2.2.2.2.2.1, h.2.2.2.2.2.2.2.2.2.2.1, h.2.2.2.2.2.2.2.2.2.2.2.1, h.2.2.2.2.2.2.2.2.2.2.2.2.1, h.2.2.2.2.2.2.2.2.2.2.2.2.2⟩
theorem I_Mo_set_madeMany {s : S_Mo} {v : Int32} (h : I_Mo s) (h0 : 0 ≤ v.toInt ∧ v.toInt ≤ 40000) : I_Mo (Mo_set_madeMany s v) := ⟨h.1, h.2.1, h.2.2.1, h.2.2.2.1, h.2.2.2.2.1, h.2.2.2.2.2.1, h.2.2.2.2.2.2.1, h.2.2.2.2.2.2.2.1, h.2.2.2.2.2.2.2.2.1, h0, h.2.2.2.2.2.2.2.2.2.2.1, h.2.2.2.2.2.2.2.2.2.2.2.1, h.2.2.2.2.2.2.2.2.2.2.2.2.1, h.2.2.2.2.2.2.2.2.2.2.2.2.2⟩
theorem I_Mo_set_madeKind {s : S_Mo} {v : Int32} (h : I_Mo s) : I_Mo (Mo_set_madeKind s v) := h
theorem I_Mo_set_madeSubsets {s : S_Mo} {v : Int32} (h : I_Mo s) : I_Mo (Mo_set_madeSubsets s v) := h
theorem I_Mo_set_written {s : S_Mo} {v : Int32} (h : I_Mo s) : I_Mo (Mo_set_written s v) := h
theorem I_Mo_set_taped {s : S_Mo} {v : Int32} (h : I_Mo s) (h0 : 0 ≤ v.toInt ∧ v.toInt ≤ 1000) : I_Mo (Mo_set_taped s v) := ⟨h.1, h.2.1, h.2.2.1, h.2.2.2.1, h.2.2.2.2.1, h.2.2.2.2.2.1, h.2.2.2.2.2.2.1, h.2.2.2.2.2.2.2.1, h.2.2.2.2.2.2.2.2.1, h.2.2.2.2.2.2.2.2.2.1, h0, h.2.2.2.2.2.2.2.2.2.2.2.1, h.2.2.2.2.2.2.2.2.2.2.2.2.1, h.2.2.2.2.2.2.2.2.2.2.2.2.2⟩
theorem I_Mo_set_firstFields {s : S_Mo} {v : Int32} (h : I_Mo s) (h0 : 0 ≤ v.toInt ∧ v.toInt ≤ 100) : I_Mo (Mo_set_firstFields s v) := ⟨h.1, h.2.1, h.2.2.1, h.2.2.2.1, h.2.2.2.2.1, h.2.2.2.2.2.1, h.2.2.2.2.2.2.1, h.2.2.2.2.2.2.2.1, h.2.2.2.2.2.2.2.2.1, h.2.2.2.2.2.2.2.2.2.1, h.2.2.2.2.2.2.2.2.2.2.1, h0, h.2.2.2.2.2.2.2.2.2.2.2.2.1, h.2.2.2.2.2.2.2.2.2.2.2.2.2⟩
theorem I_Mo_set_codes {s : S_Mo} {v : Int32} (h : I_Mo s) (h0 : -1 ≤ v.toInt ∧ v.toInt ≤ 64) : I_Mo (Mo_set_codes s v) := ⟨h.1, h.2.1, h.2.2.1, h.2.2.2.1, h.2.2.2.2.1, h.2.2.2.2.2.1, h.2.2.2.2.2.2.1, h.2.2.2.2.2.2.2.1, h.2.2.2.2.2.2.2.2.1, h.2.2.2.2.2.2.2.2.2.1, h.2.2.2.2.2.2.2.2.2.2.1, h.2.2.2.2.2.2.2.2.2.2.2.1, h0, h.2.2.2.2.2.2.2.2.2.2.2.2.2⟩
theorem I_Mo_set_groups {s : S_Mo} {v : Int32} (h : I_Mo s) (h0 : 0 ≤ v.toInt ∧ v.toInt ≤ 64) : I_Mo (Mo_set_groups s v) := ⟨h.1, h.2.1, h.2.2.1, h.2.2.2.1, h.2.2.2.2.1, h.2.2.2.2.2.1, h.2.2.2.2.2.2.1, h.2.2.2.2.2.2.2.1, h.2.2.2.2.2.2.2.2.1, h.2.2.2.2.2.2.2.2.2.1, h.2.2.2.2.2.2.2.2.2.2.1, h.2.2.2.2.2.2.2.2.2.2.2.1, h.2.2.2.2.2.2.2.2.2.2.2.2.1, h0⟩
def A_Mthere (f : Nat → Int32) : Prop := ∀ j : Nat, 0 ≤ (f j).toInt ∧ (f j).toInt ≤ 1
theorem A_Mthere_at {f : Nat → Int32} (h : A_Mthere f) (j : Nat) : 0 ≤ (f j).toInt ∧ (f j).toInt ≤ 1 := h j
theorem A_Mthere_upd {f : Nat → Int32} {k : Nat} {x : Int32} (h : A_Mthere f) (h0 : 0 ≤ x.toInt ∧ x.toInt ≤ 1) : A_Mthere (upd f k x) := i_arp (P := fun j x => 0 ≤ x.toInt ∧ x.toInt ≤ 1) h h0
def A_Mwidths (f : Nat → Int32) : Prop := ∀ j : Nat, 0 ≤ (f j).toInt ∧ (f j).toInt ≤ 32
theorem A_Mwidths_at {f : Nat → Int32} (h : A_Mwidths f) (j : Nat) : 0 ≤ (f j).toInt ∧ (f j).toInt ≤ 32 := h j
theorem A_Mwidths_upd {f : Nat → Int32} {k : Nat} {x : Int32} (h : A_Mwidths f) (h0 : 0 ≤ x.toInt ∧ x.toInt ≤ 32) : A_Mwidths (upd f k x) := i_arp (P := fun j x => 0 ≤ x.toInt ∧ x.toInt ≤ 32) h h0
def A_Mscales (f : Nat → Int32) : Prop := ∀ j : Nat, -8 ≤ (f j).toInt ∧ (f j).toInt ≤ 8
theorem A_Mscales_at {f : Nat → Int32} (h : A_Mscales f) (j : Nat) : -8 ≤ (f j).toInt ∧ (f j).toInt ≤ 8 := h j
theorem A_Mscales_upd {f : Nat → Int32} {k : Nat} {x : Int32} (h : A_Mscales f) (h0 : -8 ≤ x.toInt ∧ x.toInt ≤ 8) : A_Mscales (upd f k x) := i_arp (P := fun j x => -8 ≤ x.toInt ∧ x.toInt ≤ 8) h h0
def A_Mlists (f : Nat → Int32) : Prop := ∀ j : Nat, (0 ≤ (f j).toInt ∧ (f j).toInt ≤ 63) ∨ (100 ≤ (f j).toInt ∧ (f j).toInt ≤ 115) ∨ (216 ≤ (f j).toInt ∧ (f j).toInt ≤ 343) ∨ (400 ≤ (f j).toInt ∧ (f j).toInt ≤ 487) ∨ (501 ≤ (f j).toInt ∧ (f j).toInt ≤ 516) ∨ (f j).toInt = 520
theorem A_Mlists_at {f : Nat → Int32} (h : A_Mlists f) (j : Nat) : (0 ≤ (f j).toInt ∧ (f j).toInt ≤ 63) ∨ (100 ≤ (f j).toInt ∧ (f j).toInt ≤ 115) ∨ (216 ≤ (f j).toInt ∧ (f j).toInt ≤ 343) ∨ (400 ≤ (f j).toInt ∧ (f j).toInt ≤ 487) ∨ (501 ≤ (f j).toInt ∧ (f j).toInt ≤ 516) ∨ (f j).toInt = 520 := h j
theorem A_Mlists_upd {f : Nat → Int32} {k : Nat} {x : Int32} (h : A_Mlists f) (h0 : (0 ≤ x.toInt ∧ x.toInt ≤ 63) ∨ (100 ≤ x.toInt ∧ x.toInt ≤ 115) ∨ (216 ≤ x.toInt ∧ x.toInt ≤ 343) ∨ (400 ≤ x.toInt ∧ x.toInt ≤ 487) ∨ (501 ≤ x.toInt ∧ x.toInt ≤ 516) ∨ x.toInt = 520) : A_Mlists (upd f k x) := i_arp (P := fun j x => (0 ≤ x.toInt ∧ x.toInt ≤ 63) ∨ (100 ≤ x.toInt ∧ x.toInt ≤ 115) ∨ (216 ≤ x.toInt ∧ x.toInt ≤ 343) ∨ (400 ≤ x.toInt ∧ x.toInt ≤ 487) ∨ (501 ≤ x.toInt ∧ x.toInt ≤ 516) ∨ x.toInt = 520) h h0
def A_Mlengths (f : Nat → Int32) : Prop := ∀ j : Nat, 0 ≤ (f j).toInt ∧ (f j).toInt ≤ 24 ∧ (j < 16 → (f j).toInt ≤ 8)
theorem A_Mlengths_at {f : Nat → Int32} (h : A_Mlengths f) (j : Nat) : 0 ≤ (f j).toInt ∧ (f j).toInt ≤ 24 ∧ (j < 16 → (f j).toInt ≤ 8) := h j
theorem A_Mlengths_upd {f : Nat → Int32} {k : Nat} {x : Int32} (h : A_Mlengths f) (h0 : 0 ≤ x.toInt ∧ x.toInt ≤ 24 ∧ (k < 16 → x.toInt ≤ 8)) : A_Mlengths (upd f k x) := i_arp (P := fun j x => 0 ≤ x.toInt ∧ x.toInt ≤ 24 ∧ (j < 16 → x.toInt ≤ 8)) h h0
def A_Mtape (f : Nat → Int32) : Prop := ∀ j : Nat, 0 ≤ (f j).toInt ∧ (f j).toInt ≤ 255
theorem A_Mtape_at {f : Nat → Int32} (h : A_Mtape f) (j : Nat) : 0 ≤ (f j).toInt ∧ (f j).toInt ≤ 255 := h j
theorem A_Mtape_upd {f : Nat → Int32} {k : Nat} {x : Int32} (h : A_Mtape f) (h0 : 0 ≤ x.toInt ∧ x.toInt ≤ 255) : A_Mtape (upd f k x) := i_arp (P := fun j x => 0 ≤ x.toInt ∧ x.toInt ≤ 255) h h0
def A_Mops (f : Nat → Int32) : Prop := ∀ j : Nat, -100 ≤ (f j).toInt ∧ (f j).toInt ≤ 31 ∧ ((f j).toInt = -100 ∨ -16 ≤ (f j).toInt) ∧ (j < 2 ∨ (f j).toInt = -100 ∨ 0 ≤ (f j).toInt)
theorem A_Mops_at {f : Nat → Int32} (h : A_Mops f) (j : Nat) : -100 ≤ (f j).toInt ∧ (f j).toInt ≤ 31 ∧ ((f j).toInt = -100 ∨ -16 ≤ (f j).toInt) ∧ (j < 2 ∨ (f j).toInt = -100 ∨ 0 ≤ (f j).toInt) := h j
theorem A_Mops_upd {f : Nat → Int32} {k : Nat} {x : Int32} (h : A_Mops f) (h0 : -100 ≤ x.toInt ∧ x.toInt ≤ 31 ∧ (x.toInt = -100 ∨ -16 ≤ x.toInt) ∧ (k < 2 ∨ x.toInt = -100 ∨ 0 ≤ x.toInt)) : A_Mops (upd f k x) := i_arp (P := fun j x => -100 ≤ x.toInt ∧ x.toInt ≤ 31 ∧ (x.toInt = -100 ∨ -16 ≤ x.toInt) ∧ (j < 2 ∨ x.toInt = -100 ∨ 0 ≤ x.toInt)) h h0
def A_MfoundOps (f : Nat → Int32) : Prop := ∀ j : Nat, -100 ≤ (f j).toInt ∧ (f j).toInt ≤ 31
theorem A_MfoundOps_at {f : Nat → Int32} (h : A_MfoundOps f) (j : Nat) : -100 ≤ (f j).toInt ∧ (f j).toInt ≤ 31 := h j
theorem A_MfoundOps_upd {f : Nat → Int32} {k : Nat} {x : Int32} (h : A_MfoundOps f) (h0 : -100 ≤ x.toInt ∧ x.toInt ≤ 31) : A_MfoundOps (upd f k x) := i_arp (P := fun j x => -100 ≤ x.toInt ∧ x.toInt ≤ 31) h h0
def A_MelementAt (f : Nat → Int32) : Prop := ∀ j : Nat, 0 ≤ (f j).toInt ∧ (f j).toInt ≤ 99
theorem A_MelementAt_at {f : Nat → Int32} (h : A_MelementAt f) (j : Nat) : 0 ≤ (f j).toInt ∧ (f j).toInt ≤ 99 := h j
theorem A_MelementAt_upd {f : Nat → Int32} {k : Nat} {x : Int32} (h : A_MelementAt f) (h0 : 0 ≤ x.toInt ∧ x.toInt ≤ 99) : A_MelementAt (upd f k x) := i_arp (P := fun j x => 0 ≤ x.toInt ∧ x.toInt ≤ 99) h h0
def A_MpointAt (f : Nat → Int32) : Prop := ∀ j : Nat, 0 ≤ (f j).toInt ∧ (f j).toInt ≤ 99
theorem A_MpointAt_at {f : Nat → Int32} (h : A_MpointAt f) (j : Nat) : 0 ≤ (f j).toInt ∧ (f j).toInt ≤ 99 := h j
theorem A_MpointAt_upd {f : Nat → Int32} {k : Nat} {x : Int32} (h : A_MpointAt f) (h0 : 0 ≤ x.toInt ∧ x.toInt ≤ 99) : A_MpointAt (upd f k x) := i_arp (P := fun j x => 0 ≤ x.toInt ∧ x.toInt ≤ 99) h h0
theorem t_Mod_entry {a0 : Int32} {a1 : Int32} (g_0 : -1 ≤ a0.toInt) (g_1 : a0.toInt < 4) (g_2 : 0 ≤ a1.toInt) (g_3 : a1.toInt < 64) : So (Mod_entry a0 a1) (fun r => ((a0.toInt = -1 ∧ r.toInt = 256 + a1.toInt) ∨ (0 ≤ a0.toInt ∧ r.toInt = 64 * a0.toInt + a1.toInt))) := by
  unfold Mod_entry
  refine So.ite (fun c_1 => ?_) (fun c_1 => ?_)
  · rw [i_le] at c_1
    have k_2 : (0 : Int32).toInt = 0 := by decide
    have k_3 : (64 : Int32).toInt = 64 := by decide
    first | have f_4 := i_mull 64 a0 (64) (by decide) (by omega) (by omega) | have f_4 := i_mullm 64 a0 (64) (by decide)
    first | have f_5 := i_add (a := (64 * a0)) (b := a1) (by omega) (by omega) | have f_5 := i_addm (64 * a0) a1
    exact So.one (by show (a0.toInt = -1 ∧ (((64 * a0) + a1) : Int32).toInt = 256 + a1.toInt) ∨ (0 ≤ a0.toInt ∧ (((64 * a0) + a1) : Int32).toInt = 64 * a0.toInt + a1.toInt); omega)
  · rw [i_le] at c_1
    have k_6 : (0 : Int32).toInt = 0 := by decide
    have k_7 : ((64 * 4) : Int32).toInt = 256 := by decide
    first | have f_8 := i_add (a := ((64 * 4) : Int32)) (b := a1) (by omega) (by omega) | have f_8 := i_addm ((64 * 4) : Int32) a1
    exact So.one (by show (a0.toInt = -1 ∧ (((64 * 4) + a1) : Int32).toInt = 256 + a1.toInt) ∨ (0 ≤ a0.toInt ∧ (((64 * 4) + a1) : Int32).toInt = 64 * a0.toInt + a1.toInt); omega)
theorem t_Mod_isEntry {a0 : Int32} {a1 : Int32}  : So (Mod_isEntry a0 a1) (fun r => ((r.toInt = 1 ∧ (-1 ≤ a0.toInt ∧ a0.toInt < 4 ∧ 0 ≤ a1.toInt ∧ a1.toInt < 64)) ∨ (r.toInt = 0 ∧ ¬ (-1 ≤ a0.toInt ∧ a0.toInt < 4 ∧ 0 ≤ a1.toInt ∧ a1.toInt < 64)))) := by
  unfold Mod_isEntry
  refine So.ite (fun c_1 => ?_) (fun c_1 => ?_)
  · rw [i_lt] at c_1
    have k_2 : ((-1) : Int32).toInt = -1 := by decide
    have k_3 : (0 : Int32).toInt = 0 := by decide
    exact So.one (by show ((0 : Int32).toInt = 1 ∧ (-1 ≤ a0.toInt ∧ a0.toInt < 4 ∧ 0 ≤ a1.toInt ∧ a1.toInt < 64)) ∨ ((0 : Int32).toInt = 0 ∧ ¬ (-1 ≤ a0.toInt ∧ a0.toInt < 4 ∧ 0 ≤ a1.toInt ∧ a1.toInt < 64)); omega)
  · rw [i_lt] at c_1
    have k_4 : ((-1) : Int32).toInt = -1 := by decide
    refine So.ite (fun c_5 => ?_) (fun c_5 => ?_)
    · rw [i_lt] at c_5
      have k_6 : (3 : Int32).toInt = 3 := by decide
      have k_7 : (0 : Int32).toInt = 0 := by decide
      exact So.one (by show ((0 : Int32).toInt = 1 ∧ (-1 ≤ a0.toInt ∧ a0.toInt < 4 ∧ 0 ≤ a1.toInt ∧ a1.toInt < 64)) ∨ ((0 : Int32).toInt = 0 ∧ ¬ (-1 ≤ a0.toInt ∧ a0.toInt < 4 ∧ 0 ≤ a1.toInt ∧ a1.toInt < 64)); omega)
    · rw [i_lt] at c_5
      have k_8 : (3 : Int32).toInt = 3 := by decide
      refine So.ite (fun c_9 => ?_) (fun c_9 => ?_)
      · rw [i_lt] at c_9
        have k_10 : (0 : Int32).toInt = 0 := by decide
        exact So.one (by show ((0 : Int32).toInt = 1 ∧ (-1 ≤ a0.toInt ∧ a0.toInt < 4 ∧ 0 ≤ a1.toInt ∧ a1.toInt < 64)) ∨ ((0 : Int32).toInt = 0 ∧ ¬ (-1 ≤ a0.toInt ∧ a0.toInt < 4 ∧ 0 ≤ a1.toInt ∧ a1.toInt < 64)); omega)
      · rw [i_lt] at c_9
        have k_11 : (0 : Int32).toInt = 0 := by decide
        refine So.ite (fun c_12 => ?_) (fun c_12 => ?_)
        · rw [i_lt] at c_12
          have k_13 : (63 : Int32).toInt = 63 := by decide
          exact So.one (by show ((0 : Int32).toInt = 1 ∧ (-1 ≤ a0.toInt ∧ a0.toInt < 4 ∧ 0 ≤ a1.toInt ∧ a1.toInt < 64)) ∨ ((0 : Int32).toInt = 0 ∧ ¬ (-1 ≤ a0.toInt ∧ a0.toInt < 4 ∧ 0 ≤ a1.toInt ∧ a1.toInt < 64)); omega)
        · rw [i_lt] at c_12
          have k_14 : (63 : Int32).toInt = 63 := by decide
          have k_15 : (1 : Int32).toInt = 1 := by decide
          exact So.one (by show ((1 : Int32).toInt = 1 ∧ (-1 ≤ a0.toInt ∧ a0.toInt < 4 ∧ 0 ≤ a1.toInt ∧ a1.toInt < 64)) ∨ ((1 : Int32).toInt = 0 ∧ ¬ (-1 ≤ a0.toInt ∧ a0.toInt < 4 ∧ 0 ≤ a1.toInt ∧ a1.toInt < 64)); omega)
theorem t_Mod_element {a0 : Int32} {a1 : Int32} {a2 : Int32} {a3 : Int32} {a4 : Int32} {sMo : S_Mo} {sMthere : (Nat → Int32)} {sMscales : (Nat → Int32)} {sMreferences : (Nat → Int32)} {sMwidths : (Nat → Int32)} (I_sMo : I_Mo sMo) (I_sMthere : A_Mthere sMthere) (I_sMscales : A_Mscales sMscales) (I_sMwidths : A_Mwidths sMwidths) : So (Mod_element a0 a1 a2 a3 a4 sMo sMthere sMscales sMreferences sMwidths) (fun r => I_Mo r.1 ∧ A_Mthere r.2.1 ∧ A_Mscales r.2.2.1 ∧ A_Mwidths r.2.2.2.2 ∧ (((Mo_thrown r.1).toInt = 0 ∧ (-1 ≤ a0.toInt ∧ a0.toInt < 4 ∧ 0 ≤ a1.toInt ∧ a1.toInt < 64 ∧ -8 ≤ a2.toInt ∧ a2.toInt ≤ 8 ∧ -1000000000 ≤ a3.toInt ∧ a3.toInt ≤ 1000000000 ∧ 1 ≤ a4.toInt ∧ a4.toInt ≤ 32)) ∨ ((Mo_thrown r.1).toInt = 1 ∧ ¬ (-1 ≤ a0.toInt ∧ a0.toInt < 4 ∧ 0 ≤ a1.toInt ∧ a1.toInt < 64 ∧ -8 ≤ a2.toInt ∧ a2.toInt ≤ 8 ∧ -1000000000 ≤ a3.toInt ∧ a3.toInt ≤ 1000000000 ∧ 1 ≤ a4.toInt ∧ a4.toInt ≤ 32))) ∧ ((Mo_taped r.1).toInt = (Mo_taped sMo).toInt)) := by
  unfold Mod_element
  refine So.bd (t_Mod_isEntry ) fun q1 h_1 => ?_
  have p_2 := h_1
  refine So.ite (fun c_3 => ?_) (fun c_3 => ?_)
  · rw [i_eq] at c_3
    have k_4 : (0 : Int32).toInt = 0 := by decide
    unfold Mod_element_j51
    unfold Mod_element_j52
    refine So.pos (by decide) ?_
    unfold Mod_element_j65
    refine So.lt2 fun sMo_10 e_6 => ?_
    have I_7 : I_Mo sMo_10 := by rw [e_6]; exact (I_Mo_set_thrown I_sMo)
    have k_8 : (1 : Int32).toInt = 1 := by decide
    have f_9 : (Mo_thrown sMo_10).toInt = (1 : Int32).toInt := by subst e_6; rfl
    have f_10 : (Mo_taped sMo_10).toInt = (Mo_taped sMo).toInt := by subst e_6; rfl
    refine So.pos (by decide) ?_
    exact So.one ⟨I_7, I_sMthere, I_sMscales, I_sMwidths, (by show ((Mo_thrown sMo_10).toInt = 0 ∧ (-1 ≤ a0.toInt ∧ a0.toInt < 4 ∧ 0 ≤ a1.toInt ∧ a1.toInt < 64 ∧ -8 ≤ a2.toInt ∧ a2.toInt ≤ 8 ∧ -1000000000 ≤ a3.toInt ∧ a3.toInt ≤ 1000000000 ∧ 1 ≤ a4.toInt ∧ a4.toInt ≤ 32)) ∨ ((Mo_thrown sMo_10).toInt = 1 ∧ ¬ (-1 ≤ a0.toInt ∧ a0.toInt < 4 ∧ 0 ≤ a1.toInt ∧ a1.toInt < 64 ∧ -8 ≤ a2.toInt ∧ a2.toInt ≤ 8 ∧ -1000000000 ≤ a3.toInt ∧ a3.toInt ≤ 1000000000 ∧ 1 ≤ a4.toInt ∧ a4.toInt ≤ 32)); omega), (by show (Mo_taped sMo_10).toInt = (Mo_taped sMo).toInt; omega)⟩
  · rw [i_eq] at c_3
    have k_12 : (0 : Int32).toInt = 0 := by decide
    refine So.ite (fun c_13 => ?_) (fun c_13 => ?_)
    · rw [i_lt] at c_13
      have k_14 : ((-8) : Int32).toInt = -8 := by decide
      unfold Mod_element_j51
      unfold Mod_element_j52
      refine So.pos (by decide) ?_
      unfold Mod_element_j65
      refine So.lt2 fun sMo_10 e_16 => ?_
      have I_17 : I_Mo sMo_10 := by rw [e_16]; exact (I_Mo_set_thrown I_sMo)
      have k_18 : (1 : Int32).toInt = 1 := by decide
      have f_19 : (Mo_thrown sMo_10).toInt = (1 : Int32).toInt := by subst e_16; rfl
      have f_20 : (Mo_taped sMo_10).toInt = (Mo_taped sMo).toInt := by subst e_16; rfl
      refine So.pos (by decide) ?_
      exact So.one ⟨I_17, I_sMthere, I_sMscales, I_sMwidths, (by show ((Mo_thrown sMo_10).toInt = 0 ∧ (-1 ≤ a0.toInt ∧ a0.toInt < 4 ∧ 0 ≤ a1.toInt ∧ a1.toInt < 64 ∧ -8 ≤ a2.toInt ∧ a2.toInt ≤ 8 ∧ -1000000000 ≤ a3.toInt ∧ a3.toInt ≤ 1000000000 ∧ 1 ≤ a4.toInt ∧ a4.toInt ≤ 32)) ∨ ((Mo_thrown sMo_10).toInt = 1 ∧ ¬ (-1 ≤ a0.toInt ∧ a0.toInt < 4 ∧ 0 ≤ a1.toInt ∧ a1.toInt < 64 ∧ -8 ≤ a2.toInt ∧ a2.toInt ≤ 8 ∧ -1000000000 ≤ a3.toInt ∧ a3.toInt ≤ 1000000000 ∧ 1 ≤ a4.toInt ∧ a4.toInt ≤ 32)); omega), (by show (Mo_taped sMo_10).toInt = (Mo_taped sMo).toInt; omega)⟩
    · rw [i_lt] at c_13
      have k_22 : ((-8) : Int32).toInt = -8 := by decide
      refine So.ite (fun c_23 => ?_) (fun c_23 => ?_)
      · rw [i_lt] at c_23
        have k_24 : (8 : Int32).toInt = 8 := by decide
        unfold Mod_element_j51
        unfold Mod_element_j52
        refine So.pos (by decide) ?_
        unfold Mod_element_j65
        refine So.lt2 fun sMo_10 e_26 => ?_
        have I_27 : I_Mo sMo_10 := by rw [e_26]; exact (I_Mo_set_thrown I_sMo)
        have k_28 : (1 : Int32).toInt = 1 := by decide
        have f_29 : (Mo_thrown sMo_10).toInt = (1 : Int32).toInt := by subst e_26; rfl
        have f_30 : (Mo_taped sMo_10).toInt = (Mo_taped sMo).toInt := by subst e_26; rfl
        refine So.pos (by decide) ?_
        exact So.one ⟨I_27, I_sMthere, I_sMscales, I_sMwidths, (by show ((Mo_thrown sMo_10).toInt = 0 ∧ (-1 ≤ a0.toInt ∧ a0.toInt < 4 ∧ 0 ≤ a1.toInt ∧ a1.toInt < 64 ∧ -8 ≤ a2.toInt ∧ a2.toInt ≤ 8 ∧ -1000000000 ≤ a3.toInt ∧ a3.toInt ≤ 1000000000 ∧ 1 ≤ a4.toInt ∧ a4.toInt ≤ 32)) ∨ ((Mo_thrown sMo_10).toInt = 1 ∧ ¬ (-1 ≤ a0.toInt ∧ a0.toInt < 4 ∧ 0 ≤ a1.toInt ∧ a1.toInt < 64 ∧ -8 ≤ a2.toInt ∧ a2.toInt ≤ 8 ∧ -1000000000 ≤ a3.toInt ∧ a3.toInt ≤ 1000000000 ∧ 1 ≤ a4.toInt ∧ a4.toInt ≤ 32)); omega), (by show (Mo_taped sMo_10).toInt = (Mo_taped sMo).toInt; omega)⟩
      · rw [i_lt] at c_23
        have k_32 : (8 : Int32).toInt = 8 := by decide
        refine So.ite (fun c_33 => ?_) (fun c_33 => ?_)
        · rw [i_lt] at c_33
          have k_34 : ((-1000000000) : Int32).toInt = -1000000000 := by decide
          unfold Mod_element_j51
          unfold Mod_element_j52
          refine So.pos (by decide) ?_
          unfold Mod_element_j65
          refine So.lt2 fun sMo_10 e_36 => ?_
          have I_37 : I_Mo sMo_10 := by rw [e_36]; exact (I_Mo_set_thrown I_sMo)
          have k_38 : (1 : Int32).toInt = 1 := by decide
          have f_39 : (Mo_thrown sMo_10).toInt = (1 : Int32).toInt := by subst e_36; rfl
          have f_40 : (Mo_taped sMo_10).toInt = (Mo_taped sMo).toInt := by subst e_36; rfl
          refine So.pos (by decide) ?_
          exact So.one ⟨I_37, I_sMthere, I_sMscales, I_sMwidths, (by show ((Mo_thrown sMo_10).toInt = 0 ∧ (-1 ≤ a0.toInt ∧ a0.toInt < 4 ∧ 0 ≤ a1.toInt ∧ a1.toInt < 64 ∧ -8 ≤ a2.toInt ∧ a2.toInt ≤ 8 ∧ -1000000000 ≤ a3.toInt ∧ a3.toInt ≤ 1000000000 ∧ 1 ≤ a4.toInt ∧ a4.toInt ≤ 32)) ∨ ((Mo_thrown sMo_10).toInt = 1 ∧ ¬ (-1 ≤ a0.toInt ∧ a0.toInt < 4 ∧ 0 ≤ a1.toInt ∧ a1.toInt < 64 ∧ -8 ≤ a2.toInt ∧ a2.toInt ≤ 8 ∧ -1000000000 ≤ a3.toInt ∧ a3.toInt ≤ 1000000000 ∧ 1 ≤ a4.toInt ∧ a4.toInt ≤ 32)); omega), (by show (Mo_taped sMo_10).toInt = (Mo_taped sMo).toInt; omega)⟩
        · rw [i_lt] at c_33
          have k_42 : ((-1000000000) : Int32).toInt = -1000000000 := by decide
          refine So.ite (fun c_43 => ?_) (fun c_43 => ?_)
          · rw [i_lt] at c_43
            have k_44 : (1000000000 : Int32).toInt = 1000000000 := by decide
            unfold Mod_element_j51
            unfold Mod_element_j52
            refine So.pos (by decide) ?_
            unfold Mod_element_j65
            refine So.lt2 fun sMo_10 e_46 => ?_
            have I_47 : I_Mo sMo_10 := by rw [e_46]; exact (I_Mo_set_thrown I_sMo)
            have k_48 : (1 : Int32).toInt = 1 := by decide
            have f_49 : (Mo_thrown sMo_10).toInt = (1 : Int32).toInt := by subst e_46; rfl
            have f_50 : (Mo_taped sMo_10).toInt = (Mo_taped sMo).toInt := by subst e_46; rfl
            refine So.pos (by decide) ?_
            exact So.one ⟨I_47, I_sMthere, I_sMscales, I_sMwidths, (by show ((Mo_thrown sMo_10).toInt = 0 ∧ (-1 ≤ a0.toInt ∧ a0.toInt < 4 ∧ 0 ≤ a1.toInt ∧ a1.toInt < 64 ∧ -8 ≤ a2.toInt ∧ a2.toInt ≤ 8 ∧ -1000000000 ≤ a3.toInt ∧ a3.toInt ≤ 1000000000 ∧ 1 ≤ a4.toInt ∧ a4.toInt ≤ 32)) ∨ ((Mo_thrown sMo_10).toInt = 1 ∧ ¬ (-1 ≤ a0.toInt ∧ a0.toInt < 4 ∧ 0 ≤ a1.toInt ∧ a1.toInt < 64 ∧ -8 ≤ a2.toInt ∧ a2.toInt ≤ 8 ∧ -1000000000 ≤ a3.toInt ∧ a3.toInt ≤ 1000000000 ∧ 1 ≤ a4.toInt ∧ a4.toInt ≤ 32)); omega), (by show (Mo_taped sMo_10).toInt = (Mo_taped sMo).toInt; omega)⟩
          · rw [i_lt] at c_43
            have k_52 : (1000000000 : Int32).toInt = 1000000000 := by decide
            refine So.ite (fun c_53 => ?_) (fun c_53 => ?_)
            · rw [i_lt] at c_53
              have k_54 : (1 : Int32).toInt = 1 := by decide
              unfold Mod_element_j51
              unfold Mod_element_j52
              refine So.pos (by decide) ?_
              unfold Mod_element_j65
              refine So.lt2 fun sMo_10 e_56 => ?_
              have I_57 : I_Mo sMo_10 := by rw [e_56]; exact (I_Mo_set_thrown I_sMo)
              have f_58 : (Mo_thrown sMo_10).toInt = (1 : Int32).toInt := by subst e_56; rfl
              have f_59 : (Mo_taped sMo_10).toInt = (Mo_taped sMo).toInt := by subst e_56; rfl
              refine So.pos (by decide) ?_
              exact So.one ⟨I_57, I_sMthere, I_sMscales, I_sMwidths, (by show ((Mo_thrown sMo_10).toInt = 0 ∧ (-1 ≤ a0.toInt ∧ a0.toInt < 4 ∧ 0 ≤ a1.toInt ∧ a1.toInt < 64 ∧ -8 ≤ a2.toInt ∧ a2.toInt ≤ 8 ∧ -1000000000 ≤ a3.toInt ∧ a3.toInt ≤ 1000000000 ∧ 1 ≤ a4.toInt ∧ a4.toInt ≤ 32)) ∨ ((Mo_thrown sMo_10).toInt = 1 ∧ ¬ (-1 ≤ a0.toInt ∧ a0.toInt < 4 ∧ 0 ≤ a1.toInt ∧ a1.toInt < 64 ∧ -8 ≤ a2.toInt ∧ a2.toInt ≤ 8 ∧ -1000000000 ≤ a3.toInt ∧ a3.toInt ≤ 1000000000 ∧ 1 ≤ a4.toInt ∧ a4.toInt ≤ 32)); omega), (by show (Mo_taped sMo_10).toInt = (Mo_taped sMo).toInt; omega)⟩
            · rw [i_lt] at c_53
              have k_61 : (1 : Int32).toInt = 1 := by decide
              refine So.ite (fun c_62 => ?_) (fun c_62 => ?_)
              · rw [i_lt] at c_62
                have k_63 : (32 : Int32).toInt = 32 := by decide
                unfold Mod_element_j51
                unfold Mod_element_j52
                refine So.pos (by decide) ?_
                unfold Mod_element_j65
                refine So.lt2 fun sMo_10 e_65 => ?_
                have I_66 : I_Mo sMo_10 := by rw [e_65]; exact (I_Mo_set_thrown I_sMo)
                have f_67 : (Mo_thrown sMo_10).toInt = (1 : Int32).toInt := by subst e_65; rfl
                have f_68 : (Mo_taped sMo_10).toInt = (Mo_taped sMo).toInt := by subst e_65; rfl
                refine So.pos (by decide) ?_
                exact So.one ⟨I_66, I_sMthere, I_sMscales, I_sMwidths, (by show ((Mo_thrown sMo_10).toInt = 0 ∧ (-1 ≤ a0.toInt ∧ a0.toInt < 4 ∧ 0 ≤ a1.toInt ∧ a1.toInt < 64 ∧ -8 ≤ a2.toInt ∧ a2.toInt ≤ 8 ∧ -1000000000 ≤ a3.toInt ∧ a3.toInt ≤ 1000000000 ∧ 1 ≤ a4.toInt ∧ a4.toInt ≤ 32)) ∨ ((Mo_thrown sMo_10).toInt = 1 ∧ ¬ (-1 ≤ a0.toInt ∧ a0.toInt < 4 ∧ 0 ≤ a1.toInt ∧ a1.toInt < 64 ∧ -8 ≤ a2.toInt ∧ a2.toInt ≤ 8 ∧ -1000000000 ≤ a3.toInt ∧ a3.toInt ≤ 1000000000 ∧ 1 ≤ a4.toInt ∧ a4.toInt ≤ 32)); omega), (by show (Mo_taped sMo_10).toInt = (Mo_taped sMo).toInt; omega)⟩
              · rw [i_lt] at c_62
                have k_70 : (32 : Int32).toInt = 32 := by decide
                unfold Mod_element_j52
                refine So.neg (by decide) ?_
                unfold Mod_element_j65
                refine So.lt2 fun sMo_10 e_72 => ?_
                have I_73 : I_Mo sMo_10 := by rw [e_72]; exact (I_Mo_set_thrown I_sMo)
                have f_74 : (Mo_thrown sMo_10).toInt = (0 : Int32).toInt := by subst e_72; rfl
                have f_75 : (Mo_taped sMo_10).toInt = (Mo_taped sMo).toInt := by subst e_72; rfl
                refine So.neg (by decide) ?_
                refine So.bd (t_Mod_entry (by show -1 ≤ a0.toInt; omega) (by show a0.toInt < 4; omega) (by show 0 ≤ a1.toInt; omega) (by show a1.toInt < 64; omega)) fun q11 h_77 => ?_
                have p_78 := h_77
                refine So.gd (i_in.mpr (by omega)) ?_
                refine So.lt2 fun sMthere_13 e_79 => ?_
                have f_80 := i_nar (1 : Int32)
                have I_81 : A_Mthere sMthere_13 := by rw [e_79]; exact (A_Mthere_upd I_sMthere (by show 0 ≤ ((vp_nar .boolean 1) : Int32).toInt ∧ ((vp_nar .boolean 1) : Int32).toInt ≤ 1; omega))
                refine So.gd (i_in.mpr (by omega)) ?_
                refine So.lt2 fun sMscales_15 e_82 => ?_
                have I_83 : A_Mscales sMscales_15 := by rw [e_82]; exact (A_Mscales_upd I_sMscales (by show -8 ≤ (a2 : Int32).toInt ∧ (a2 : Int32).toInt ≤ 8; omega))
                refine So.gd (i_in.mpr (by omega)) ?_
                refine So.lt2 fun sMreferences_17 e_84 => ?_
                refine So.gd (i_in.mpr (by omega)) ?_
                refine So.lt2 fun sMwidths_19 e_85 => ?_
                have I_86 : A_Mwidths sMwidths_19 := by rw [e_85]; exact (A_Mwidths_upd I_sMwidths (by show 0 ≤ (a4 : Int32).toInt ∧ (a4 : Int32).toInt ≤ 32; omega))
                exact So.one ⟨I_73, I_81, I_83, I_86, (by show ((Mo_thrown sMo_10).toInt = 0 ∧ (-1 ≤ a0.toInt ∧ a0.toInt < 4 ∧ 0 ≤ a1.toInt ∧ a1.toInt < 64 ∧ -8 ≤ a2.toInt ∧ a2.toInt ≤ 8 ∧ -1000000000 ≤ a3.toInt ∧ a3.toInt ≤ 1000000000 ∧ 1 ≤ a4.toInt ∧ a4.toInt ≤ 32)) ∨ ((Mo_thrown sMo_10).toInt = 1 ∧ ¬ (-1 ≤ a0.toInt ∧ a0.toInt < 4 ∧ 0 ≤ a1.toInt ∧ a1.toInt < 64 ∧ -8 ≤ a2.toInt ∧ a2.toInt ≤ 8 ∧ -1000000000 ≤ a3.toInt ∧ a3.toInt ≤ 1000000000 ∧ 1 ≤ a4.toInt ∧ a4.toInt ≤ 32)); omega), (by show (Mo_taped sMo_10).toInt = (Mo_taped sMo).toInt; omega)⟩
theorem t_Mod_drop {a0 : Int32} {a1 : Int32} {sMo : S_Mo} {sMthere : (Nat → Int32)} (I_sMo : I_Mo sMo) (I_sMthere : A_Mthere sMthere) : So (Mod_drop a0 a1 sMo sMthere) (fun r => I_Mo r.2.1 ∧ A_Mthere r.2.2 ∧ ((Mo_taped r.2.1).toInt = (Mo_taped sMo).toInt)) := by
  unfold Mod_drop
  refine So.lt2 fun sMo_1 e_1 => ?_
  have I_2 : I_Mo sMo_1 := by rw [e_1]; exact (I_Mo_set_thrown I_sMo)
  have k_3 : (0 : Int32).toInt = 0 := by decide
  have f_4 : (Mo_taped sMo_1).toInt = (Mo_taped sMo).toInt := by subst e_1; rfl
  refine So.bd (t_Mod_isEntry ) fun q2 h_5 => ?_
  have p_6 := h_5
  refine So.ite (fun c_7 => ?_) (fun c_7 => ?_)
  · rw [i_eq] at c_7
    exact So.one ⟨I_2, I_sMthere, (by show (Mo_taped sMo_1).toInt = (Mo_taped sMo).toInt; omega)⟩
  · rw [i_eq] at c_7
    refine So.bd (t_Mod_entry (by show -1 ≤ a0.toInt; omega) (by show a0.toInt < 4; omega) (by show 0 ≤ a1.toInt; omega) (by show a1.toInt < 64; omega)) fun q3 h_8 => ?_
    have p_9 := h_8
    refine So.gd (i_in.mpr (by omega)) ?_
    refine So.bd (t_Mod_entry (by show -1 ≤ a0.toInt; omega) (by show a0.toInt < 4; omega) (by show 0 ≤ a1.toInt; omega) (by show a1.toInt < 64; omega)) fun q5 h_10 => ?_
    have p_11 := h_10
    refine So.gd (i_in.mpr (by omega)) ?_
    refine So.lt2 fun sMthere_7 e_12 => ?_
    have f_13 := i_nar (0 : Int32)
    have I_14 : A_Mthere sMthere_7 := by rw [e_12]; exact (A_Mthere_upd I_sMthere (by show 0 ≤ ((vp_nar .boolean 0) : Int32).toInt ∧ ((vp_nar .boolean 0) : Int32).toInt ≤ 1; omega))
    have f_15 := A_Mthere_at I_sMthere (q3.toNatClampNeg)
    refine So.gd (i_bool (a := (sMthere (q3.toNatClampNeg))) (by omega)) ?_
    exact So.one ⟨I_2, I_14, (by show (Mo_taped sMo_1).toInt = (Mo_taped sMo).toInt; omega)⟩
theorem t_Mod_version {a0 : Int32} {sMo : S_Mo} (I_sMo : I_Mo sMo) : So (Mod_version a0 sMo) (fun r => I_Mo r ∧ (((Mo_thrown r).toInt = 0 ∧ (0 ≤ a0.toInt ∧ a0.toInt < 4)) ∨ ((Mo_thrown r).toInt = 1 ∧ ¬ (0 ≤ a0.toInt ∧ a0.toInt < 4))) ∧ ((Mo_taped r).toInt = (Mo_taped sMo).toInt)) := by
  unfold Mod_version
  refine So.ite (fun c_1 => ?_) (fun c_1 => ?_)
  · rw [i_lt] at c_1
    have k_2 : (0 : Int32).toInt = 0 := by decide
    unfold Mod_version_j10
    unfold Mod_version_j15
    refine So.lt2 fun sMo_3 e_3 => ?_
    have I_4 : I_Mo sMo_3 := by rw [e_3]; exact (I_Mo_set_thrown I_sMo)
    have k_5 : (1 : Int32).toInt = 1 := by decide
    have f_6 : (Mo_thrown sMo_3).toInt = (1 : Int32).toInt := by subst e_3; rfl
    have f_7 : (Mo_taped sMo_3).toInt = (Mo_taped sMo).toInt := by subst e_3; rfl
    refine So.ite (fun c_8 => ?_) (fun c_8 => ?_)
    · rw [i_eq] at c_8
      refine So.lt2 fun sMo_4 e_9 => ?_
      have I_10 : I_Mo sMo_4 := by rw [e_9]; exact (I_Mo_set_used I_4 (by show 0 ≤ (a0 : Int32).toInt ∧ (a0 : Int32).toInt ≤ 3; omega))
      have f_11 : (Mo_thrown sMo_4).toInt = (Mo_thrown sMo_3).toInt := by subst e_9; rfl
      have f_12 : (Mo_taped sMo_4).toInt = (Mo_taped sMo_3).toInt := by subst e_9; rfl
      exact So.one ⟨I_10, (by show ((Mo_thrown sMo_4).toInt = 0 ∧ (0 ≤ a0.toInt ∧ a0.toInt < 4)) ∨ ((Mo_thrown sMo_4).toInt = 1 ∧ ¬ (0 ≤ a0.toInt ∧ a0.toInt < 4)); omega), (by show (Mo_taped sMo_4).toInt = (Mo_taped sMo).toInt; omega)⟩
    · rw [i_eq] at c_8
      exact So.one ⟨I_4, (by show ((Mo_thrown sMo_3).toInt = 0 ∧ (0 ≤ a0.toInt ∧ a0.toInt < 4)) ∨ ((Mo_thrown sMo_3).toInt = 1 ∧ ¬ (0 ≤ a0.toInt ∧ a0.toInt < 4)); omega), (by show (Mo_taped sMo_3).toInt = (Mo_taped sMo).toInt; omega)⟩
  · rw [i_lt] at c_1
    have k_13 : (0 : Int32).toInt = 0 := by decide
    refine So.ite (fun c_14 => ?_) (fun c_14 => ?_)
    · rw [i_le] at c_14
      have k_15 : (3 : Int32).toInt = 3 := by decide
      unfold Mod_version_j15
      refine So.lt2 fun sMo_3 e_16 => ?_
      have I_17 : I_Mo sMo_3 := by rw [e_16]; exact (I_Mo_set_thrown I_sMo)
      have f_18 : (Mo_thrown sMo_3).toInt = (0 : Int32).toInt := by subst e_16; rfl
      have f_19 : (Mo_taped sMo_3).toInt = (Mo_taped sMo).toInt := by subst e_16; rfl
      refine So.ite (fun c_20 => ?_) (fun c_20 => ?_)
      · rw [i_eq] at c_20
        refine So.lt2 fun sMo_4 e_21 => ?_
        have I_22 : I_Mo sMo_4 := by rw [e_21]; exact (I_Mo_set_used I_17 (by show 0 ≤ (a0 : Int32).toInt ∧ (a0 : Int32).toInt ≤ 3; omega))
        have f_23 : (Mo_thrown sMo_4).toInt = (Mo_thrown sMo_3).toInt := by subst e_21; rfl
        have f_24 : (Mo_taped sMo_4).toInt = (Mo_taped sMo_3).toInt := by subst e_21; rfl
        exact So.one ⟨I_22, (by show ((Mo_thrown sMo_4).toInt = 0 ∧ (0 ≤ a0.toInt ∧ a0.toInt < 4)) ∨ ((Mo_thrown sMo_4).toInt = 1 ∧ ¬ (0 ≤ a0.toInt ∧ a0.toInt < 4)); omega), (by show (Mo_taped sMo_4).toInt = (Mo_taped sMo).toInt; omega)⟩
      · rw [i_eq] at c_20
        exact So.one ⟨I_17, (by show ((Mo_thrown sMo_3).toInt = 0 ∧ (0 ≤ a0.toInt ∧ a0.toInt < 4)) ∨ ((Mo_thrown sMo_3).toInt = 1 ∧ ¬ (0 ≤ a0.toInt ∧ a0.toInt < 4)); omega), (by show (Mo_taped sMo_3).toInt = (Mo_taped sMo).toInt; omega)⟩
    · rw [i_le] at c_14
      have k_25 : (3 : Int32).toInt = 3 := by decide
      unfold Mod_version_j10
      unfold Mod_version_j15
      refine So.lt2 fun sMo_3 e_26 => ?_
      have I_27 : I_Mo sMo_3 := by rw [e_26]; exact (I_Mo_set_thrown I_sMo)
      have k_28 : (1 : Int32).toInt = 1 := by decide
      have f_29 : (Mo_thrown sMo_3).toInt = (1 : Int32).toInt := by subst e_26; rfl
      have f_30 : (Mo_taped sMo_3).toInt = (Mo_taped sMo).toInt := by subst e_26; rfl
      refine So.ite (fun c_31 => ?_) (fun c_31 => ?_)
      · rw [i_eq] at c_31
        refine So.lt2 fun sMo_4 e_32 => ?_
        have I_33 : I_Mo sMo_4 := by rw [e_32]; exact (I_Mo_set_used I_27 (by show 0 ≤ (a0 : Int32).toInt ∧ (a0 : Int32).toInt ≤ 3; omega))
        have f_34 : (Mo_thrown sMo_4).toInt = (Mo_thrown sMo_3).toInt := by subst e_32; rfl
        have f_35 : (Mo_taped sMo_4).toInt = (Mo_taped sMo_3).toInt := by subst e_32; rfl
        exact So.one ⟨I_33, (by show ((Mo_thrown sMo_4).toInt = 0 ∧ (0 ≤ a0.toInt ∧ a0.toInt < 4)) ∨ ((Mo_thrown sMo_4).toInt = 1 ∧ ¬ (0 ≤ a0.toInt ∧ a0.toInt < 4)); omega), (by show (Mo_taped sMo_4).toInt = (Mo_taped sMo).toInt; omega)⟩
      · rw [i_eq] at c_31
        exact So.one ⟨I_27, (by show ((Mo_thrown sMo_3).toInt = 0 ∧ (0 ≤ a0.toInt ∧ a0.toInt < 4)) ∨ ((Mo_thrown sMo_3).toInt = 1 ∧ ¬ (0 ≤ a0.toInt ∧ a0.toInt < 4)); omega), (by show (Mo_taped sMo_3).toInt = (Mo_taped sMo).toInt; omega)⟩
theorem t_Mod_isRepeat {a0 : Int32}  : So (Mod_isRepeat a0) (fun r => ((r.toInt = 1 ∧ (216 ≤ a0.toInt ∧ a0.toInt ≤ 343)) ∨ (r.toInt = 0 ∧ ¬ (216 ≤ a0.toInt ∧ a0.toInt ≤ 343)))) := by
  unfold Mod_isRepeat
  refine So.ite (fun c_1 => ?_) (fun c_1 => ?_)
  · rw [i_lt] at c_1
    have k_2 : (216 : Int32).toInt = 216 := by decide
    have k_3 : (0 : Int32).toInt = 0 := by decide
    exact So.one (by show ((0 : Int32).toInt = 1 ∧ (216 ≤ a0.toInt ∧ a0.toInt ≤ 343)) ∨ ((0 : Int32).toInt = 0 ∧ ¬ (216 ≤ a0.toInt ∧ a0.toInt ≤ 343)); omega)
  · rw [i_lt] at c_1
    have k_4 : (216 : Int32).toInt = 216 := by decide
    refine So.ite (fun c_5 => ?_) (fun c_5 => ?_)
    · rw [i_lt] at c_5
      have k_6 : (343 : Int32).toInt = 343 := by decide
      have k_7 : (0 : Int32).toInt = 0 := by decide
      exact So.one (by show ((0 : Int32).toInt = 1 ∧ (216 ≤ a0.toInt ∧ a0.toInt ≤ 343)) ∨ ((0 : Int32).toInt = 0 ∧ ¬ (216 ≤ a0.toInt ∧ a0.toInt ≤ 343)); omega)
    · rw [i_lt] at c_5
      have k_8 : (343 : Int32).toInt = 343 := by decide
      have k_9 : (1 : Int32).toInt = 1 := by decide
      exact So.one (by show ((1 : Int32).toInt = 1 ∧ (216 ≤ a0.toInt ∧ a0.toInt ≤ 343)) ∨ ((1 : Int32).toInt = 0 ∧ ¬ (216 ≤ a0.toInt ∧ a0.toInt ≤ 343)); omega)
theorem t_Mod_isDescriptor_j109 {x0_j109 : Int32}  : So (Mod_isDescriptor_j109 x0_j109) (fun r => ((r.toInt = 1 ∧ (x0_j109.toInt = 520)) ∨ (r.toInt = 0 ∧ ¬ (x0_j109.toInt = 520)))) := by
  unfold Mod_isDescriptor_j109
  refine So.ite (fun c_1 => ?_) (fun c_1 => ?_)
  · rw [i_eq] at c_1
    have k_2 : (520 : Int32).toInt = 520 := by decide
    have k_3 : (1 : Int32).toInt = 1 := by decide
    exact So.one (by show ((1 : Int32).toInt = 1 ∧ (x0_j109.toInt = 520)) ∨ ((1 : Int32).toInt = 0 ∧ ¬ (x0_j109.toInt = 520)); omega)
  · rw [i_eq] at c_1
    have k_4 : (520 : Int32).toInt = 520 := by decide
    have k_5 : (0 : Int32).toInt = 0 := by decide
    exact So.one (by show ((0 : Int32).toInt = 1 ∧ (x0_j109.toInt = 520)) ∨ ((0 : Int32).toInt = 0 ∧ ¬ (x0_j109.toInt = 520)); omega)
theorem t_Mod_isDescriptor_j84 {x0_j84 : Int32} {x1_j84 : Int32} (g_0 : (x1_j84.toInt = 0 ∧ ¬ ((400 ≤ x0_j84.toInt ∧ x0_j84.toInt ≤ 431) ∨ (440 ≤ x0_j84.toInt ∧ x0_j84.toInt ≤ 455) ∨ (460 ≤ x0_j84.toInt ∧ x0_j84.toInt ≤ 468) ∨ (480 ≤ x0_j84.toInt ∧ x0_j84.toInt ≤ 487))) ∨ (x1_j84.toInt = 1 ∧ ((400 ≤ x0_j84.toInt ∧ x0_j84.toInt ≤ 431) ∨ (440 ≤ x0_j84.toInt ∧ x0_j84.toInt ≤ 455) ∨ (460 ≤ x0_j84.toInt ∧ x0_j84.toInt ≤ 468) ∨ (480 ≤ x0_j84.toInt ∧ x0_j84.toInt ≤ 487)))) (g_1 : ¬ (0 ≤ x0_j84.toInt ∧ x0_j84.toInt ≤ 63)) (g_2 : ¬ (100 ≤ x0_j84.toInt ∧ x0_j84.toInt ≤ 115)) : So (Mod_isDescriptor_j84 x0_j84 x1_j84) (fun r => ((r.toInt = 1 ∧ ((0 ≤ x0_j84.toInt ∧ x0_j84.toInt ≤ 63) ∨ (100 ≤ x0_j84.toInt ∧ x0_j84.toInt ≤ 115) ∨ (216 ≤ x0_j84.toInt ∧ x0_j84.toInt ≤ 343) ∨ ((400 ≤ x0_j84.toInt ∧ x0_j84.toInt ≤ 431) ∨ (440 ≤ x0_j84.toInt ∧ x0_j84.toInt ≤ 455) ∨ (460 ≤ x0_j84.toInt ∧ x0_j84.toInt ≤ 468) ∨ (480 ≤ x0_j84.toInt ∧ x0_j84.toInt ≤ 487)) ∨ (501 ≤ x0_j84.toInt ∧ x0_j84.toInt ≤ 516) ∨ x0_j84.toInt = 520)) ∨ (r.toInt = 0 ∧ ¬ ((0 ≤ x0_j84.toInt ∧ x0_j84.toInt ≤ 63) ∨ (100 ≤ x0_j84.toInt ∧ x0_j84.toInt ≤ 115) ∨ (216 ≤ x0_j84.toInt ∧ x0_j84.toInt ≤ 343) ∨ ((400 ≤ x0_j84.toInt ∧ x0_j84.toInt ≤ 431) ∨ (440 ≤ x0_j84.toInt ∧ x0_j84.toInt ≤ 455) ∨ (460 ≤ x0_j84.toInt ∧ x0_j84.toInt ≤ 468) ∨ (480 ≤ x0_j84.toInt ∧ x0_j84.toInt ≤ 487)) ∨ (501 ≤ x0_j84.toInt ∧ x0_j84.toInt ≤ 516) ∨ x0_j84.toInt = 520)))) := by
  unfold Mod_isDescriptor_j84
  refine So.bd (t_Mod_isRepeat ) fun q13 h_1 => ?_
  have p_2 := h_1
  refine So.ite (fun c_3 => ?_) (fun c_3 => ?_)
  · rw [i_eq] at c_3
    have k_4 : (0 : Int32).toInt = 0 := by decide
    refine So.ite (fun c_5 => ?_) (fun c_5 => ?_)
    · rw [i_eq] at c_5
      refine So.ite (fun c_6 => ?_) (fun c_6 => ?_)
      · rw [i_lt] at c_6
        have k_7 : (501 : Int32).toInt = 501 := by decide
        refine So.imp (t_Mod_isDescriptor_j109 ) fun q_z h_z => ?_
        have p_8 := h_z
        exact (by show (q_z.toInt = 1 ∧ ((0 ≤ x0_j84.toInt ∧ x0_j84.toInt ≤ 63) ∨ (100 ≤ x0_j84.toInt ∧ x0_j84.toInt ≤ 115) ∨ (216 ≤ x0_j84.toInt ∧ x0_j84.toInt ≤ 343) ∨ ((400 ≤ x0_j84.toInt ∧ x0_j84.toInt ≤ 431) ∨ (440 ≤ x0_j84.toInt ∧ x0_j84.toInt ≤ 455) ∨ (460 ≤ x0_j84.toInt ∧ x0_j84.toInt ≤ 468) ∨ (480 ≤ x0_j84.toInt ∧ x0_j84.toInt ≤ 487)) ∨ (501 ≤ x0_j84.toInt ∧ x0_j84.toInt ≤ 516) ∨ x0_j84.toInt = 520)) ∨ (q_z.toInt = 0 ∧ ¬ ((0 ≤ x0_j84.toInt ∧ x0_j84.toInt ≤ 63) ∨ (100 ≤ x0_j84.toInt ∧ x0_j84.toInt ≤ 115) ∨ (216 ≤ x0_j84.toInt ∧ x0_j84.toInt ≤ 343) ∨ ((400 ≤ x0_j84.toInt ∧ x0_j84.toInt ≤ 431) ∨ (440 ≤ x0_j84.toInt ∧ x0_j84.toInt ≤ 455) ∨ (460 ≤ x0_j84.toInt ∧ x0_j84.toInt ≤ 468) ∨ (480 ≤ x0_j84.toInt ∧ x0_j84.toInt ≤ 487)) ∨ (501 ≤ x0_j84.toInt ∧ x0_j84.toInt ≤ 516) ∨ x0_j84.toInt = 520)); omega)
      · rw [i_lt] at c_6
        have k_9 : (501 : Int32).toInt = 501 := by decide
        refine So.ite (fun c_10 => ?_) (fun c_10 => ?_)
        · rw [i_le] at c_10
          have k_11 : (516 : Int32).toInt = 516 := by decide
          have k_12 : (1 : Int32).toInt = 1 := by decide
          exact So.one (by show ((1 : Int32).toInt = 1 ∧ ((0 ≤ x0_j84.toInt ∧ x0_j84.toInt ≤ 63) ∨ (100 ≤ x0_j84.toInt ∧ x0_j84.toInt ≤ 115) ∨ (216 ≤ x0_j84.toInt ∧ x0_j84.toInt ≤ 343) ∨ ((400 ≤ x0_j84.toInt ∧ x0_j84.toInt ≤ 431) ∨ (440 ≤ x0_j84.toInt ∧ x0_j84.toInt ≤ 455) ∨ (460 ≤ x0_j84.toInt ∧ x0_j84.toInt ≤ 468) ∨ (480 ≤ x0_j84.toInt ∧ x0_j84.toInt ≤ 487)) ∨ (501 ≤ x0_j84.toInt ∧ x0_j84.toInt ≤ 516) ∨ x0_j84.toInt = 520)) ∨ ((1 : Int32).toInt = 0 ∧ ¬ ((0 ≤ x0_j84.toInt ∧ x0_j84.toInt ≤ 63) ∨ (100 ≤ x0_j84.toInt ∧ x0_j84.toInt ≤ 115) ∨ (216 ≤ x0_j84.toInt ∧ x0_j84.toInt ≤ 343) ∨ ((400 ≤ x0_j84.toInt ∧ x0_j84.toInt ≤ 431) ∨ (440 ≤ x0_j84.toInt ∧ x0_j84.toInt ≤ 455) ∨ (460 ≤ x0_j84.toInt ∧ x0_j84.toInt ≤ 468) ∨ (480 ≤ x0_j84.toInt ∧ x0_j84.toInt ≤ 487)) ∨ (501 ≤ x0_j84.toInt ∧ x0_j84.toInt ≤ 516) ∨ x0_j84.toInt = 520)); omega)
        · rw [i_le] at c_10
          have k_13 : (516 : Int32).toInt = 516 := by decide
          refine So.imp (t_Mod_isDescriptor_j109 ) fun q_z h_z => ?_
          have p_14 := h_z
          exact (by show (q_z.toInt = 1 ∧ ((0 ≤ x0_j84.toInt ∧ x0_j84.toInt ≤ 63) ∨ (100 ≤ x0_j84.toInt ∧ x0_j84.toInt ≤ 115) ∨ (216 ≤ x0_j84.toInt ∧ x0_j84.toInt ≤ 343) ∨ ((400 ≤ x0_j84.toInt ∧ x0_j84.toInt ≤ 431) ∨ (440 ≤ x0_j84.toInt ∧ x0_j84.toInt ≤ 455) ∨ (460 ≤ x0_j84.toInt ∧ x0_j84.toInt ≤ 468) ∨ (480 ≤ x0_j84.toInt ∧ x0_j84.toInt ≤ 487)) ∨ (501 ≤ x0_j84.toInt ∧ x0_j84.toInt ≤ 516) ∨ x0_j84.toInt = 520)) ∨ (q_z.toInt = 0 ∧ ¬ ((0 ≤ x0_j84.toInt ∧ x0_j84.toInt ≤ 63) ∨ (100 ≤ x0_j84.toInt ∧ x0_j84.toInt ≤ 115) ∨ (216 ≤ x0_j84.toInt ∧ x0_j84.toInt ≤ 343) ∨ ((400 ≤ x0_j84.toInt ∧ x0_j84.toInt ≤ 431) ∨ (440 ≤ x0_j84.toInt ∧ x0_j84.toInt ≤ 455) ∨ (460 ≤ x0_j84.toInt ∧ x0_j84.toInt ≤ 468) ∨ (480 ≤ x0_j84.toInt ∧ x0_j84.toInt ≤ 487)) ∨ (501 ≤ x0_j84.toInt ∧ x0_j84.toInt ≤ 516) ∨ x0_j84.toInt = 520)); omega)
    · rw [i_eq] at c_5
      have k_15 : (1 : Int32).toInt = 1 := by decide
      exact So.one (by show ((1 : Int32).toInt = 1 ∧ ((0 ≤ x0_j84.toInt ∧ x0_j84.toInt ≤ 63) ∨ (100 ≤ x0_j84.toInt ∧ x0_j84.toInt ≤ 115) ∨ (216 ≤ x0_j84.toInt ∧ x0_j84.toInt ≤ 343) ∨ ((400 ≤ x0_j84.toInt ∧ x0_j84.toInt ≤ 431) ∨ (440 ≤ x0_j84.toInt ∧ x0_j84.toInt ≤ 455) ∨ (460 ≤ x0_j84.toInt ∧ x0_j84.toInt ≤ 468) ∨ (480 ≤ x0_j84.toInt ∧ x0_j84.toInt ≤ 487)) ∨ (501 ≤ x0_j84.toInt ∧ x0_j84.toInt ≤ 516) ∨ x0_j84.toInt = 520)) ∨ ((1 : Int32).toInt = 0 ∧ ¬ ((0 ≤ x0_j84.toInt ∧ x0_j84.toInt ≤ 63) ∨ (100 ≤ x0_j84.toInt ∧ x0_j84.toInt ≤ 115) ∨ (216 ≤ x0_j84.toInt ∧ x0_j84.toInt ≤ 343) ∨ ((400 ≤ x0_j84.toInt ∧ x0_j84.toInt ≤ 431) ∨ (440 ≤ x0_j84.toInt ∧ x0_j84.toInt ≤ 455) ∨ (460 ≤ x0_j84.toInt ∧ x0_j84.toInt ≤ 468) ∨ (480 ≤ x0_j84.toInt ∧ x0_j84.toInt ≤ 487)) ∨ (501 ≤ x0_j84.toInt ∧ x0_j84.toInt ≤ 516) ∨ x0_j84.toInt = 520)); omega)
  · rw [i_eq] at c_3
    have k_16 : (0 : Int32).toInt = 0 := by decide
    have k_17 : (1 : Int32).toInt = 1 := by decide
    exact So.one (by show ((1 : Int32).toInt = 1 ∧ ((0 ≤ x0_j84.toInt ∧ x0_j84.toInt ≤ 63) ∨ (100 ≤ x0_j84.toInt ∧ x0_j84.toInt ≤ 115) ∨ (216 ≤ x0_j84.toInt ∧ x0_j84.toInt ≤ 343) ∨ ((400 ≤ x0_j84.toInt ∧ x0_j84.toInt ≤ 431) ∨ (440 ≤ x0_j84.toInt ∧ x0_j84.toInt ≤ 455) ∨ (460 ≤ x0_j84.toInt ∧ x0_j84.toInt ≤ 468) ∨ (480 ≤ x0_j84.toInt ∧ x0_j84.toInt ≤ 487)) ∨ (501 ≤ x0_j84.toInt ∧ x0_j84.toInt ≤ 516) ∨ x0_j84.toInt = 520)) ∨ ((1 : Int32).toInt = 0 ∧ ¬ ((0 ≤ x0_j84.toInt ∧ x0_j84.toInt ≤ 63) ∨ (100 ≤ x0_j84.toInt ∧ x0_j84.toInt ≤ 115) ∨ (216 ≤ x0_j84.toInt ∧ x0_j84.toInt ≤ 343) ∨ ((400 ≤ x0_j84.toInt ∧ x0_j84.toInt ≤ 431) ∨ (440 ≤ x0_j84.toInt ∧ x0_j84.toInt ≤ 455) ∨ (460 ≤ x0_j84.toInt ∧ x0_j84.toInt ≤ 468) ∨ (480 ≤ x0_j84.toInt ∧ x0_j84.toInt ≤ 487)) ∨ (501 ≤ x0_j84.toInt ∧ x0_j84.toInt ≤ 516) ∨ x0_j84.toInt = 520)); omega)
theorem t_Mod_isDescriptor_j72 {x0_j72 : Int32} {x1_j72 : Int32} (g_0 : (x1_j72.toInt = 0 ∧ ¬ ((400 ≤ x0_j72.toInt ∧ x0_j72.toInt ≤ 431) ∨ (440 ≤ x0_j72.toInt ∧ x0_j72.toInt ≤ 455) ∨ (460 ≤ x0_j72.toInt ∧ x0_j72.toInt ≤ 468) ∨ (480 ≤ x0_j72.toInt ∧ x0_j72.toInt ≤ 487))) ∨ (x1_j72.toInt = 1 ∧ ((400 ≤ x0_j72.toInt ∧ x0_j72.toInt ≤ 431) ∨ (440 ≤ x0_j72.toInt ∧ x0_j72.toInt ≤ 455) ∨ (460 ≤ x0_j72.toInt ∧ x0_j72.toInt ≤ 468) ∨ (480 ≤ x0_j72.toInt ∧ x0_j72.toInt ≤ 487)))) (g_1 : ¬ (0 ≤ x0_j72.toInt ∧ x0_j72.toInt ≤ 63)) : So (Mod_isDescriptor_j72 x0_j72 x1_j72) (fun r => ((r.toInt = 1 ∧ ((0 ≤ x0_j72.toInt ∧ x0_j72.toInt ≤ 63) ∨ (100 ≤ x0_j72.toInt ∧ x0_j72.toInt ≤ 115) ∨ (216 ≤ x0_j72.toInt ∧ x0_j72.toInt ≤ 343) ∨ ((400 ≤ x0_j72.toInt ∧ x0_j72.toInt ≤ 431) ∨ (440 ≤ x0_j72.toInt ∧ x0_j72.toInt ≤ 455) ∨ (460 ≤ x0_j72.toInt ∧ x0_j72.toInt ≤ 468) ∨ (480 ≤ x0_j72.toInt ∧ x0_j72.toInt ≤ 487)) ∨ (501 ≤ x0_j72.toInt ∧ x0_j72.toInt ≤ 516) ∨ x0_j72.toInt = 520)) ∨ (r.toInt = 0 ∧ ¬ ((0 ≤ x0_j72.toInt ∧ x0_j72.toInt ≤ 63) ∨ (100 ≤ x0_j72.toInt ∧ x0_j72.toInt ≤ 115) ∨ (216 ≤ x0_j72.toInt ∧ x0_j72.toInt ≤ 343) ∨ ((400 ≤ x0_j72.toInt ∧ x0_j72.toInt ≤ 431) ∨ (440 ≤ x0_j72.toInt ∧ x0_j72.toInt ≤ 455) ∨ (460 ≤ x0_j72.toInt ∧ x0_j72.toInt ≤ 468) ∨ (480 ≤ x0_j72.toInt ∧ x0_j72.toInt ≤ 487)) ∨ (501 ≤ x0_j72.toInt ∧ x0_j72.toInt ≤ 516) ∨ x0_j72.toInt = 520)))) := by
  unfold Mod_isDescriptor_j72
  refine So.ite (fun c_1 => ?_) (fun c_1 => ?_)
  · rw [i_lt] at c_1
    have k_2 : (100 : Int32).toInt = 100 := by decide
    refine So.imp (t_Mod_isDescriptor_j84 (by show (x1_j72.toInt = 0 ∧ ¬ ((400 ≤ x0_j72.toInt ∧ x0_j72.toInt ≤ 431) ∨ (440 ≤ x0_j72.toInt ∧ x0_j72.toInt ≤ 455) ∨ (460 ≤ x0_j72.toInt ∧ x0_j72.toInt ≤ 468) ∨ (480 ≤ x0_j72.toInt ∧ x0_j72.toInt ≤ 487))) ∨ (x1_j72.toInt = 1 ∧ ((400 ≤ x0_j72.toInt ∧ x0_j72.toInt ≤ 431) ∨ (440 ≤ x0_j72.toInt ∧ x0_j72.toInt ≤ 455) ∨ (460 ≤ x0_j72.toInt ∧ x0_j72.toInt ≤ 468) ∨ (480 ≤ x0_j72.toInt ∧ x0_j72.toInt ≤ 487))); omega) (by show ¬ (0 ≤ x0_j72.toInt ∧ x0_j72.toInt ≤ 63); omega) (by show ¬ (100 ≤ x0_j72.toInt ∧ x0_j72.toInt ≤ 115); omega)) fun q_z h_z => ?_
    have p_3 := h_z
    exact (by show (q_z.toInt = 1 ∧ ((0 ≤ x0_j72.toInt ∧ x0_j72.toInt ≤ 63) ∨ (100 ≤ x0_j72.toInt ∧ x0_j72.toInt ≤ 115) ∨ (216 ≤ x0_j72.toInt ∧ x0_j72.toInt ≤ 343) ∨ ((400 ≤ x0_j72.toInt ∧ x0_j72.toInt ≤ 431) ∨ (440 ≤ x0_j72.toInt ∧ x0_j72.toInt ≤ 455) ∨ (460 ≤ x0_j72.toInt ∧ x0_j72.toInt ≤ 468) ∨ (480 ≤ x0_j72.toInt ∧ x0_j72.toInt ≤ 487)) ∨ (501 ≤ x0_j72.toInt ∧ x0_j72.toInt ≤ 516) ∨ x0_j72.toInt = 520)) ∨ (q_z.toInt = 0 ∧ ¬ ((0 ≤ x0_j72.toInt ∧ x0_j72.toInt ≤ 63) ∨ (100 ≤ x0_j72.toInt ∧ x0_j72.toInt ≤ 115) ∨ (216 ≤ x0_j72.toInt ∧ x0_j72.toInt ≤ 343) ∨ ((400 ≤ x0_j72.toInt ∧ x0_j72.toInt ≤ 431) ∨ (440 ≤ x0_j72.toInt ∧ x0_j72.toInt ≤ 455) ∨ (460 ≤ x0_j72.toInt ∧ x0_j72.toInt ≤ 468) ∨ (480 ≤ x0_j72.toInt ∧ x0_j72.toInt ≤ 487)) ∨ (501 ≤ x0_j72.toInt ∧ x0_j72.toInt ≤ 516) ∨ x0_j72.toInt = 520)); omega)
  · rw [i_lt] at c_1
    have k_4 : (100 : Int32).toInt = 100 := by decide
    refine So.ite (fun c_5 => ?_) (fun c_5 => ?_)
    · rw [i_le] at c_5
      have k_6 : (115 : Int32).toInt = 115 := by decide
      have k_7 : (1 : Int32).toInt = 1 := by decide
      exact So.one (by show ((1 : Int32).toInt = 1 ∧ ((0 ≤ x0_j72.toInt ∧ x0_j72.toInt ≤ 63) ∨ (100 ≤ x0_j72.toInt ∧ x0_j72.toInt ≤ 115) ∨ (216 ≤ x0_j72.toInt ∧ x0_j72.toInt ≤ 343) ∨ ((400 ≤ x0_j72.toInt ∧ x0_j72.toInt ≤ 431) ∨ (440 ≤ x0_j72.toInt ∧ x0_j72.toInt ≤ 455) ∨ (460 ≤ x0_j72.toInt ∧ x0_j72.toInt ≤ 468) ∨ (480 ≤ x0_j72.toInt ∧ x0_j72.toInt ≤ 487)) ∨ (501 ≤ x0_j72.toInt ∧ x0_j72.toInt ≤ 516) ∨ x0_j72.toInt = 520)) ∨ ((1 : Int32).toInt = 0 ∧ ¬ ((0 ≤ x0_j72.toInt ∧ x0_j72.toInt ≤ 63) ∨ (100 ≤ x0_j72.toInt ∧ x0_j72.toInt ≤ 115) ∨ (216 ≤ x0_j72.toInt ∧ x0_j72.toInt ≤ 343) ∨ ((400 ≤ x0_j72.toInt ∧ x0_j72.toInt ≤ 431) ∨ (440 ≤ x0_j72.toInt ∧ x0_j72.toInt ≤ 455) ∨ (460 ≤ x0_j72.toInt ∧ x0_j72.toInt ≤ 468) ∨ (480 ≤ x0_j72.toInt ∧ x0_j72.toInt ≤ 487)) ∨ (501 ≤ x0_j72.toInt ∧ x0_j72.toInt ≤ 516) ∨ x0_j72.toInt = 520)); omega)
    · rw [i_le] at c_5
      have k_8 : (115 : Int32).toInt = 115 := by decide
      refine So.imp (t_Mod_isDescriptor_j84 (by show (x1_j72.toInt = 0 ∧ ¬ ((400 ≤ x0_j72.toInt ∧ x0_j72.toInt ≤ 431) ∨ (440 ≤ x0_j72.toInt ∧ x0_j72.toInt ≤ 455) ∨ (460 ≤ x0_j72.toInt ∧ x0_j72.toInt ≤ 468) ∨ (480 ≤ x0_j72.toInt ∧ x0_j72.toInt ≤ 487))) ∨ (x1_j72.toInt = 1 ∧ ((400 ≤ x0_j72.toInt ∧ x0_j72.toInt ≤ 431) ∨ (440 ≤ x0_j72.toInt ∧ x0_j72.toInt ≤ 455) ∨ (460 ≤ x0_j72.toInt ∧ x0_j72.toInt ≤ 468) ∨ (480 ≤ x0_j72.toInt ∧ x0_j72.toInt ≤ 487))); omega) (by show ¬ (0 ≤ x0_j72.toInt ∧ x0_j72.toInt ≤ 63); omega) (by show ¬ (100 ≤ x0_j72.toInt ∧ x0_j72.toInt ≤ 115); omega)) fun q_z h_z => ?_
      have p_9 := h_z
      exact (by show (q_z.toInt = 1 ∧ ((0 ≤ x0_j72.toInt ∧ x0_j72.toInt ≤ 63) ∨ (100 ≤ x0_j72.toInt ∧ x0_j72.toInt ≤ 115) ∨ (216 ≤ x0_j72.toInt ∧ x0_j72.toInt ≤ 343) ∨ ((400 ≤ x0_j72.toInt ∧ x0_j72.toInt ≤ 431) ∨ (440 ≤ x0_j72.toInt ∧ x0_j72.toInt ≤ 455) ∨ (460 ≤ x0_j72.toInt ∧ x0_j72.toInt ≤ 468) ∨ (480 ≤ x0_j72.toInt ∧ x0_j72.toInt ≤ 487)) ∨ (501 ≤ x0_j72.toInt ∧ x0_j72.toInt ≤ 516) ∨ x0_j72.toInt = 520)) ∨ (q_z.toInt = 0 ∧ ¬ ((0 ≤ x0_j72.toInt ∧ x0_j72.toInt ≤ 63) ∨ (100 ≤ x0_j72.toInt ∧ x0_j72.toInt ≤ 115) ∨ (216 ≤ x0_j72.toInt ∧ x0_j72.toInt ≤ 343) ∨ ((400 ≤ x0_j72.toInt ∧ x0_j72.toInt ≤ 431) ∨ (440 ≤ x0_j72.toInt ∧ x0_j72.toInt ≤ 455) ∨ (460 ≤ x0_j72.toInt ∧ x0_j72.toInt ≤ 468) ∨ (480 ≤ x0_j72.toInt ∧ x0_j72.toInt ≤ 487)) ∨ (501 ≤ x0_j72.toInt ∧ x0_j72.toInt ≤ 516) ∨ x0_j72.toInt = 520)); omega)
theorem t_Mod_isDescriptor_j61 {x0_j61 : Int32} {t0_j61 : Int32} (g_0 : (t0_j61.toInt = 0 ∧ ¬ ((400 ≤ x0_j61.toInt ∧ x0_j61.toInt ≤ 431) ∨ (440 ≤ x0_j61.toInt ∧ x0_j61.toInt ≤ 455) ∨ (460 ≤ x0_j61.toInt ∧ x0_j61.toInt ≤ 468) ∨ (480 ≤ x0_j61.toInt ∧ x0_j61.toInt ≤ 487))) ∨ (t0_j61.toInt = 1 ∧ ((400 ≤ x0_j61.toInt ∧ x0_j61.toInt ≤ 431) ∨ (440 ≤ x0_j61.toInt ∧ x0_j61.toInt ≤ 455) ∨ (460 ≤ x0_j61.toInt ∧ x0_j61.toInt ≤ 468) ∨ (480 ≤ x0_j61.toInt ∧ x0_j61.toInt ≤ 487)))) : So (Mod_isDescriptor_j61 x0_j61 t0_j61) (fun r => ((r.toInt = 1 ∧ ((0 ≤ x0_j61.toInt ∧ x0_j61.toInt ≤ 63) ∨ (100 ≤ x0_j61.toInt ∧ x0_j61.toInt ≤ 115) ∨ (216 ≤ x0_j61.toInt ∧ x0_j61.toInt ≤ 343) ∨ ((400 ≤ x0_j61.toInt ∧ x0_j61.toInt ≤ 431) ∨ (440 ≤ x0_j61.toInt ∧ x0_j61.toInt ≤ 455) ∨ (460 ≤ x0_j61.toInt ∧ x0_j61.toInt ≤ 468) ∨ (480 ≤ x0_j61.toInt ∧ x0_j61.toInt ≤ 487)) ∨ (501 ≤ x0_j61.toInt ∧ x0_j61.toInt ≤ 516) ∨ x0_j61.toInt = 520)) ∨ (r.toInt = 0 ∧ ¬ ((0 ≤ x0_j61.toInt ∧ x0_j61.toInt ≤ 63) ∨ (100 ≤ x0_j61.toInt ∧ x0_j61.toInt ≤ 115) ∨ (216 ≤ x0_j61.toInt ∧ x0_j61.toInt ≤ 343) ∨ ((400 ≤ x0_j61.toInt ∧ x0_j61.toInt ≤ 431) ∨ (440 ≤ x0_j61.toInt ∧ x0_j61.toInt ≤ 455) ∨ (460 ≤ x0_j61.toInt ∧ x0_j61.toInt ≤ 468) ∨ (480 ≤ x0_j61.toInt ∧ x0_j61.toInt ≤ 487)) ∨ (501 ≤ x0_j61.toInt ∧ x0_j61.toInt ≤ 516) ∨ x0_j61.toInt = 520)))) := by
  unfold Mod_isDescriptor_j61
  refine So.ite (fun c_1 => ?_) (fun c_1 => ?_)
  · rw [i_lt] at c_1
    have k_2 : (0 : Int32).toInt = 0 := by decide
    refine So.imp (t_Mod_isDescriptor_j72 (by show (t0_j61.toInt = 0 ∧ ¬ ((400 ≤ x0_j61.toInt ∧ x0_j61.toInt ≤ 431) ∨ (440 ≤ x0_j61.toInt ∧ x0_j61.toInt ≤ 455) ∨ (460 ≤ x0_j61.toInt ∧ x0_j61.toInt ≤ 468) ∨ (480 ≤ x0_j61.toInt ∧ x0_j61.toInt ≤ 487))) ∨ (t0_j61.toInt = 1 ∧ ((400 ≤ x0_j61.toInt ∧ x0_j61.toInt ≤ 431) ∨ (440 ≤ x0_j61.toInt ∧ x0_j61.toInt ≤ 455) ∨ (460 ≤ x0_j61.toInt ∧ x0_j61.toInt ≤ 468) ∨ (480 ≤ x0_j61.toInt ∧ x0_j61.toInt ≤ 487))); omega) (by show ¬ (0 ≤ x0_j61.toInt ∧ x0_j61.toInt ≤ 63); omega)) fun q_z h_z => ?_
    have p_3 := h_z
    exact (by show (q_z.toInt = 1 ∧ ((0 ≤ x0_j61.toInt ∧ x0_j61.toInt ≤ 63) ∨ (100 ≤ x0_j61.toInt ∧ x0_j61.toInt ≤ 115) ∨ (216 ≤ x0_j61.toInt ∧ x0_j61.toInt ≤ 343) ∨ ((400 ≤ x0_j61.toInt ∧ x0_j61.toInt ≤ 431) ∨ (440 ≤ x0_j61.toInt ∧ x0_j61.toInt ≤ 455) ∨ (460 ≤ x0_j61.toInt ∧ x0_j61.toInt ≤ 468) ∨ (480 ≤ x0_j61.toInt ∧ x0_j61.toInt ≤ 487)) ∨ (501 ≤ x0_j61.toInt ∧ x0_j61.toInt ≤ 516) ∨ x0_j61.toInt = 520)) ∨ (q_z.toInt = 0 ∧ ¬ ((0 ≤ x0_j61.toInt ∧ x0_j61.toInt ≤ 63) ∨ (100 ≤ x0_j61.toInt ∧ x0_j61.toInt ≤ 115) ∨ (216 ≤ x0_j61.toInt ∧ x0_j61.toInt ≤ 343) ∨ ((400 ≤ x0_j61.toInt ∧ x0_j61.toInt ≤ 431) ∨ (440 ≤ x0_j61.toInt ∧ x0_j61.toInt ≤ 455) ∨ (460 ≤ x0_j61.toInt ∧ x0_j61.toInt ≤ 468) ∨ (480 ≤ x0_j61.toInt ∧ x0_j61.toInt ≤ 487)) ∨ (501 ≤ x0_j61.toInt ∧ x0_j61.toInt ≤ 516) ∨ x0_j61.toInt = 520)); omega)
  · rw [i_lt] at c_1
    have k_4 : (0 : Int32).toInt = 0 := by decide
    refine So.ite (fun c_5 => ?_) (fun c_5 => ?_)
    · rw [i_le] at c_5
      have k_6 : (63 : Int32).toInt = 63 := by decide
      have k_7 : (1 : Int32).toInt = 1 := by decide
      exact So.one (by show ((1 : Int32).toInt = 1 ∧ ((0 ≤ x0_j61.toInt ∧ x0_j61.toInt ≤ 63) ∨ (100 ≤ x0_j61.toInt ∧ x0_j61.toInt ≤ 115) ∨ (216 ≤ x0_j61.toInt ∧ x0_j61.toInt ≤ 343) ∨ ((400 ≤ x0_j61.toInt ∧ x0_j61.toInt ≤ 431) ∨ (440 ≤ x0_j61.toInt ∧ x0_j61.toInt ≤ 455) ∨ (460 ≤ x0_j61.toInt ∧ x0_j61.toInt ≤ 468) ∨ (480 ≤ x0_j61.toInt ∧ x0_j61.toInt ≤ 487)) ∨ (501 ≤ x0_j61.toInt ∧ x0_j61.toInt ≤ 516) ∨ x0_j61.toInt = 520)) ∨ ((1 : Int32).toInt = 0 ∧ ¬ ((0 ≤ x0_j61.toInt ∧ x0_j61.toInt ≤ 63) ∨ (100 ≤ x0_j61.toInt ∧ x0_j61.toInt ≤ 115) ∨ (216 ≤ x0_j61.toInt ∧ x0_j61.toInt ≤ 343) ∨ ((400 ≤ x0_j61.toInt ∧ x0_j61.toInt ≤ 431) ∨ (440 ≤ x0_j61.toInt ∧ x0_j61.toInt ≤ 455) ∨ (460 ≤ x0_j61.toInt ∧ x0_j61.toInt ≤ 468) ∨ (480 ≤ x0_j61.toInt ∧ x0_j61.toInt ≤ 487)) ∨ (501 ≤ x0_j61.toInt ∧ x0_j61.toInt ≤ 516) ∨ x0_j61.toInt = 520)); omega)
    · rw [i_le] at c_5
      have k_8 : (63 : Int32).toInt = 63 := by decide
      refine So.imp (t_Mod_isDescriptor_j72 (by show (t0_j61.toInt = 0 ∧ ¬ ((400 ≤ x0_j61.toInt ∧ x0_j61.toInt ≤ 431) ∨ (440 ≤ x0_j61.toInt ∧ x0_j61.toInt ≤ 455) ∨ (460 ≤ x0_j61.toInt ∧ x0_j61.toInt ≤ 468) ∨ (480 ≤ x0_j61.toInt ∧ x0_j61.toInt ≤ 487))) ∨ (t0_j61.toInt = 1 ∧ ((400 ≤ x0_j61.toInt ∧ x0_j61.toInt ≤ 431) ∨ (440 ≤ x0_j61.toInt ∧ x0_j61.toInt ≤ 455) ∨ (460 ≤ x0_j61.toInt ∧ x0_j61.toInt ≤ 468) ∨ (480 ≤ x0_j61.toInt ∧ x0_j61.toInt ≤ 487))); omega) (by show ¬ (0 ≤ x0_j61.toInt ∧ x0_j61.toInt ≤ 63); omega)) fun q_z h_z => ?_
      have p_9 := h_z
      exact (by show (q_z.toInt = 1 ∧ ((0 ≤ x0_j61.toInt ∧ x0_j61.toInt ≤ 63) ∨ (100 ≤ x0_j61.toInt ∧ x0_j61.toInt ≤ 115) ∨ (216 ≤ x0_j61.toInt ∧ x0_j61.toInt ≤ 343) ∨ ((400 ≤ x0_j61.toInt ∧ x0_j61.toInt ≤ 431) ∨ (440 ≤ x0_j61.toInt ∧ x0_j61.toInt ≤ 455) ∨ (460 ≤ x0_j61.toInt ∧ x0_j61.toInt ≤ 468) ∨ (480 ≤ x0_j61.toInt ∧ x0_j61.toInt ≤ 487)) ∨ (501 ≤ x0_j61.toInt ∧ x0_j61.toInt ≤ 516) ∨ x0_j61.toInt = 520)) ∨ (q_z.toInt = 0 ∧ ¬ ((0 ≤ x0_j61.toInt ∧ x0_j61.toInt ≤ 63) ∨ (100 ≤ x0_j61.toInt ∧ x0_j61.toInt ≤ 115) ∨ (216 ≤ x0_j61.toInt ∧ x0_j61.toInt ≤ 343) ∨ ((400 ≤ x0_j61.toInt ∧ x0_j61.toInt ≤ 431) ∨ (440 ≤ x0_j61.toInt ∧ x0_j61.toInt ≤ 455) ∨ (460 ≤ x0_j61.toInt ∧ x0_j61.toInt ≤ 468) ∨ (480 ≤ x0_j61.toInt ∧ x0_j61.toInt ≤ 487)) ∨ (501 ≤ x0_j61.toInt ∧ x0_j61.toInt ≤ 516) ∨ x0_j61.toInt = 520)); omega)
theorem t_Mod_isDescriptor {a0 : Int32}  : So (Mod_isDescriptor a0) (fun r => ((r.toInt = 1 ∧ ((0 ≤ a0.toInt ∧ a0.toInt ≤ 63) ∨ (100 ≤ a0.toInt ∧ a0.toInt ≤ 115) ∨ (216 ≤ a0.toInt ∧ a0.toInt ≤ 343) ∨ ((400 ≤ a0.toInt ∧ a0.toInt ≤ 431) ∨ (440 ≤ a0.toInt ∧ a0.toInt ≤ 455) ∨ (460 ≤ a0.toInt ∧ a0.toInt ≤ 468) ∨ (480 ≤ a0.toInt ∧ a0.toInt ≤ 487)) ∨ (501 ≤ a0.toInt ∧ a0.toInt ≤ 516) ∨ a0.toInt = 520)) ∨ (r.toInt = 0 ∧ ¬ ((0 ≤ a0.toInt ∧ a0.toInt ≤ 63) ∨ (100 ≤ a0.toInt ∧ a0.toInt ≤ 115) ∨ (216 ≤ a0.toInt ∧ a0.toInt ≤ 343) ∨ ((400 ≤ a0.toInt ∧ a0.toInt ≤ 431) ∨ (440 ≤ a0.toInt ∧ a0.toInt ≤ 455) ∨ (460 ≤ a0.toInt ∧ a0.toInt ≤ 468) ∨ (480 ≤ a0.toInt ∧ a0.toInt ≤ 487)) ∨ (501 ≤ a0.toInt ∧ a0.toInt ≤ 516) ∨ a0.toInt = 520)))) := by
  unfold Mod_isDescriptor
  refine So.ite (fun c_1 => ?_) (fun c_1 => ?_)
  · rw [i_lt] at c_1
    have k_2 : (400 : Int32).toInt = 400 := by decide
    unfold Mod_isDescriptor_j14
    refine So.ite (fun c_3 => ?_) (fun c_3 => ?_)
    · rw [i_lt] at c_3
      have k_4 : (440 : Int32).toInt = 440 := by decide
      unfold Mod_isDescriptor_j28
      refine So.ite (fun c_5 => ?_) (fun c_5 => ?_)
      · rw [i_lt] at c_5
        have k_6 : (460 : Int32).toInt = 460 := by decide
        unfold Mod_isDescriptor_j42
        refine So.ite (fun c_7 => ?_) (fun c_7 => ?_)
        · rw [i_lt] at c_7
          have k_8 : (480 : Int32).toInt = 480 := by decide
          unfold Mod_isDescriptor_j60
          have k_9 : (0 : Int32).toInt = 0 := by decide
          refine So.imp (t_Mod_isDescriptor_j61 (by show ((0 : Int32).toInt = 0 ∧ ¬ ((400 ≤ a0.toInt ∧ a0.toInt ≤ 431) ∨ (440 ≤ a0.toInt ∧ a0.toInt ≤ 455) ∨ (460 ≤ a0.toInt ∧ a0.toInt ≤ 468) ∨ (480 ≤ a0.toInt ∧ a0.toInt ≤ 487))) ∨ ((0 : Int32).toInt = 1 ∧ ((400 ≤ a0.toInt ∧ a0.toInt ≤ 431) ∨ (440 ≤ a0.toInt ∧ a0.toInt ≤ 455) ∨ (460 ≤ a0.toInt ∧ a0.toInt ≤ 468) ∨ (480 ≤ a0.toInt ∧ a0.toInt ≤ 487))); omega)) fun q_z h_z => ?_
          have p_10 := h_z
          exact (by show (q_z.toInt = 1 ∧ ((0 ≤ a0.toInt ∧ a0.toInt ≤ 63) ∨ (100 ≤ a0.toInt ∧ a0.toInt ≤ 115) ∨ (216 ≤ a0.toInt ∧ a0.toInt ≤ 343) ∨ ((400 ≤ a0.toInt ∧ a0.toInt ≤ 431) ∨ (440 ≤ a0.toInt ∧ a0.toInt ≤ 455) ∨ (460 ≤ a0.toInt ∧ a0.toInt ≤ 468) ∨ (480 ≤ a0.toInt ∧ a0.toInt ≤ 487)) ∨ (501 ≤ a0.toInt ∧ a0.toInt ≤ 516) ∨ a0.toInt = 520)) ∨ (q_z.toInt = 0 ∧ ¬ ((0 ≤ a0.toInt ∧ a0.toInt ≤ 63) ∨ (100 ≤ a0.toInt ∧ a0.toInt ≤ 115) ∨ (216 ≤ a0.toInt ∧ a0.toInt ≤ 343) ∨ ((400 ≤ a0.toInt ∧ a0.toInt ≤ 431) ∨ (440 ≤ a0.toInt ∧ a0.toInt ≤ 455) ∨ (460 ≤ a0.toInt ∧ a0.toInt ≤ 468) ∨ (480 ≤ a0.toInt ∧ a0.toInt ≤ 487)) ∨ (501 ≤ a0.toInt ∧ a0.toInt ≤ 516) ∨ a0.toInt = 520)); omega)
        · rw [i_lt] at c_7
          have k_11 : (480 : Int32).toInt = 480 := by decide
          refine So.ite (fun c_12 => ?_) (fun c_12 => ?_)
          · rw [i_lt] at c_12
            have k_13 : (487 : Int32).toInt = 487 := by decide
            unfold Mod_isDescriptor_j60
            have k_14 : (0 : Int32).toInt = 0 := by decide
            refine So.imp (t_Mod_isDescriptor_j61 (by show ((0 : Int32).toInt = 0 ∧ ¬ ((400 ≤ a0.toInt ∧ a0.toInt ≤ 431) ∨ (440 ≤ a0.toInt ∧ a0.toInt ≤ 455) ∨ (460 ≤ a0.toInt ∧ a0.toInt ≤ 468) ∨ (480 ≤ a0.toInt ∧ a0.toInt ≤ 487))) ∨ ((0 : Int32).toInt = 1 ∧ ((400 ≤ a0.toInt ∧ a0.toInt ≤ 431) ∨ (440 ≤ a0.toInt ∧ a0.toInt ≤ 455) ∨ (460 ≤ a0.toInt ∧ a0.toInt ≤ 468) ∨ (480 ≤ a0.toInt ∧ a0.toInt ≤ 487))); omega)) fun q_z h_z => ?_
            have p_15 := h_z
            exact (by show (q_z.toInt = 1 ∧ ((0 ≤ a0.toInt ∧ a0.toInt ≤ 63) ∨ (100 ≤ a0.toInt ∧ a0.toInt ≤ 115) ∨ (216 ≤ a0.toInt ∧ a0.toInt ≤ 343) ∨ ((400 ≤ a0.toInt ∧ a0.toInt ≤ 431) ∨ (440 ≤ a0.toInt ∧ a0.toInt ≤ 455) ∨ (460 ≤ a0.toInt ∧ a0.toInt ≤ 468) ∨ (480 ≤ a0.toInt ∧ a0.toInt ≤ 487)) ∨ (501 ≤ a0.toInt ∧ a0.toInt ≤ 516) ∨ a0.toInt = 520)) ∨ (q_z.toInt = 0 ∧ ¬ ((0 ≤ a0.toInt ∧ a0.toInt ≤ 63) ∨ (100 ≤ a0.toInt ∧ a0.toInt ≤ 115) ∨ (216 ≤ a0.toInt ∧ a0.toInt ≤ 343) ∨ ((400 ≤ a0.toInt ∧ a0.toInt ≤ 431) ∨ (440 ≤ a0.toInt ∧ a0.toInt ≤ 455) ∨ (460 ≤ a0.toInt ∧ a0.toInt ≤ 468) ∨ (480 ≤ a0.toInt ∧ a0.toInt ≤ 487)) ∨ (501 ≤ a0.toInt ∧ a0.toInt ≤ 516) ∨ a0.toInt = 520)); omega)
          · rw [i_lt] at c_12
            have k_16 : (487 : Int32).toInt = 487 := by decide
            unfold Mod_isDescriptor_j56
            have k_17 : (1 : Int32).toInt = 1 := by decide
            refine So.imp (t_Mod_isDescriptor_j61 (by show ((1 : Int32).toInt = 0 ∧ ¬ ((400 ≤ a0.toInt ∧ a0.toInt ≤ 431) ∨ (440 ≤ a0.toInt ∧ a0.toInt ≤ 455) ∨ (460 ≤ a0.toInt ∧ a0.toInt ≤ 468) ∨ (480 ≤ a0.toInt ∧ a0.toInt ≤ 487))) ∨ ((1 : Int32).toInt = 1 ∧ ((400 ≤ a0.toInt ∧ a0.toInt ≤ 431) ∨ (440 ≤ a0.toInt ∧ a0.toInt ≤ 455) ∨ (460 ≤ a0.toInt ∧ a0.toInt ≤ 468) ∨ (480 ≤ a0.toInt ∧ a0.toInt ≤ 487))); omega)) fun q_z h_z => ?_
            have p_18 := h_z
            exact (by show (q_z.toInt = 1 ∧ ((0 ≤ a0.toInt ∧ a0.toInt ≤ 63) ∨ (100 ≤ a0.toInt ∧ a0.toInt ≤ 115) ∨ (216 ≤ a0.toInt ∧ a0.toInt ≤ 343) ∨ ((400 ≤ a0.toInt ∧ a0.toInt ≤ 431) ∨ (440 ≤ a0.toInt ∧ a0.toInt ≤ 455) ∨ (460 ≤ a0.toInt ∧ a0.toInt ≤ 468) ∨ (480 ≤ a0.toInt ∧ a0.toInt ≤ 487)) ∨ (501 ≤ a0.toInt ∧ a0.toInt ≤ 516) ∨ a0.toInt = 520)) ∨ (q_z.toInt = 0 ∧ ¬ ((0 ≤ a0.toInt ∧ a0.toInt ≤ 63) ∨ (100 ≤ a0.toInt ∧ a0.toInt ≤ 115) ∨ (216 ≤ a0.toInt ∧ a0.toInt ≤ 343) ∨ ((400 ≤ a0.toInt ∧ a0.toInt ≤ 431) ∨ (440 ≤ a0.toInt ∧ a0.toInt ≤ 455) ∨ (460 ≤ a0.toInt ∧ a0.toInt ≤ 468) ∨ (480 ≤ a0.toInt ∧ a0.toInt ≤ 487)) ∨ (501 ≤ a0.toInt ∧ a0.toInt ≤ 516) ∨ a0.toInt = 520)); omega)
      · rw [i_lt] at c_5
        have k_19 : (460 : Int32).toInt = 460 := by decide
        refine So.ite (fun c_20 => ?_) (fun c_20 => ?_)
        · rw [i_le] at c_20
          have k_21 : (468 : Int32).toInt = 468 := by decide
          unfold Mod_isDescriptor_j56
          have k_22 : (1 : Int32).toInt = 1 := by decide
          refine So.imp (t_Mod_isDescriptor_j61 (by show ((1 : Int32).toInt = 0 ∧ ¬ ((400 ≤ a0.toInt ∧ a0.toInt ≤ 431) ∨ (440 ≤ a0.toInt ∧ a0.toInt ≤ 455) ∨ (460 ≤ a0.toInt ∧ a0.toInt ≤ 468) ∨ (480 ≤ a0.toInt ∧ a0.toInt ≤ 487))) ∨ ((1 : Int32).toInt = 1 ∧ ((400 ≤ a0.toInt ∧ a0.toInt ≤ 431) ∨ (440 ≤ a0.toInt ∧ a0.toInt ≤ 455) ∨ (460 ≤ a0.toInt ∧ a0.toInt ≤ 468) ∨ (480 ≤ a0.toInt ∧ a0.toInt ≤ 487))); omega)) fun q_z h_z => ?_
          have p_23 := h_z
          exact (by show (q_z.toInt = 1 ∧ ((0 ≤ a0.toInt ∧ a0.toInt ≤ 63) ∨ (100 ≤ a0.toInt ∧ a0.toInt ≤ 115) ∨ (216 ≤ a0.toInt ∧ a0.toInt ≤ 343) ∨ ((400 ≤ a0.toInt ∧ a0.toInt ≤ 431) ∨ (440 ≤ a0.toInt ∧ a0.toInt ≤ 455) ∨ (460 ≤ a0.toInt ∧ a0.toInt ≤ 468) ∨ (480 ≤ a0.toInt ∧ a0.toInt ≤ 487)) ∨ (501 ≤ a0.toInt ∧ a0.toInt ≤ 516) ∨ a0.toInt = 520)) ∨ (q_z.toInt = 0 ∧ ¬ ((0 ≤ a0.toInt ∧ a0.toInt ≤ 63) ∨ (100 ≤ a0.toInt ∧ a0.toInt ≤ 115) ∨ (216 ≤ a0.toInt ∧ a0.toInt ≤ 343) ∨ ((400 ≤ a0.toInt ∧ a0.toInt ≤ 431) ∨ (440 ≤ a0.toInt ∧ a0.toInt ≤ 455) ∨ (460 ≤ a0.toInt ∧ a0.toInt ≤ 468) ∨ (480 ≤ a0.toInt ∧ a0.toInt ≤ 487)) ∨ (501 ≤ a0.toInt ∧ a0.toInt ≤ 516) ∨ a0.toInt = 520)); omega)
        · rw [i_le] at c_20
          have k_24 : (468 : Int32).toInt = 468 := by decide
          unfold Mod_isDescriptor_j42
          refine So.ite (fun c_25 => ?_) (fun c_25 => ?_)
          · rw [i_lt] at c_25
            have k_26 : (480 : Int32).toInt = 480 := by decide
            unfold Mod_isDescriptor_j60
            have k_27 : (0 : Int32).toInt = 0 := by decide
            refine So.imp (t_Mod_isDescriptor_j61 (by show ((0 : Int32).toInt = 0 ∧ ¬ ((400 ≤ a0.toInt ∧ a0.toInt ≤ 431) ∨ (440 ≤ a0.toInt ∧ a0.toInt ≤ 455) ∨ (460 ≤ a0.toInt ∧ a0.toInt ≤ 468) ∨ (480 ≤ a0.toInt ∧ a0.toInt ≤ 487))) ∨ ((0 : Int32).toInt = 1 ∧ ((400 ≤ a0.toInt ∧ a0.toInt ≤ 431) ∨ (440 ≤ a0.toInt ∧ a0.toInt ≤ 455) ∨ (460 ≤ a0.toInt ∧ a0.toInt ≤ 468) ∨ (480 ≤ a0.toInt ∧ a0.toInt ≤ 487))); omega)) fun q_z h_z => ?_
            have p_28 := h_z
            exact (by show (q_z.toInt = 1 ∧ ((0 ≤ a0.toInt ∧ a0.toInt ≤ 63) ∨ (100 ≤ a0.toInt ∧ a0.toInt ≤ 115) ∨ (216 ≤ a0.toInt ∧ a0.toInt ≤ 343) ∨ ((400 ≤ a0.toInt ∧ a0.toInt ≤ 431) ∨ (440 ≤ a0.toInt ∧ a0.toInt ≤ 455) ∨ (460 ≤ a0.toInt ∧ a0.toInt ≤ 468) ∨ (480 ≤ a0.toInt ∧ a0.toInt ≤ 487)) ∨ (501 ≤ a0.toInt ∧ a0.toInt ≤ 516) ∨ a0.toInt = 520)) ∨ (q_z.toInt = 0 ∧ ¬ ((0 ≤ a0.toInt ∧ a0.toInt ≤ 63) ∨ (100 ≤ a0.toInt ∧ a0.toInt ≤ 115) ∨ (216 ≤ a0.toInt ∧ a0.toInt ≤ 343) ∨ ((400 ≤ a0.toInt ∧ a0.toInt ≤ 431) ∨ (440 ≤ a0.toInt ∧ a0.toInt ≤ 455) ∨ (460 ≤ a0.toInt ∧ a0.toInt ≤ 468) ∨ (480 ≤ a0.toInt ∧ a0.toInt ≤ 487)) ∨ (501 ≤ a0.toInt ∧ a0.toInt ≤ 516) ∨ a0.toInt = 520)); omega)
          · rw [i_lt] at c_25
            have k_29 : (480 : Int32).toInt = 480 := by decide
            refine So.ite (fun c_30 => ?_) (fun c_30 => ?_)
            · rw [i_lt] at c_30
              have k_31 : (487 : Int32).toInt = 487 := by decide
              unfold Mod_isDescriptor_j60
              have k_32 : (0 : Int32).toInt = 0 := by decide
              refine So.imp (t_Mod_isDescriptor_j61 (by show ((0 : Int32).toInt = 0 ∧ ¬ ((400 ≤ a0.toInt ∧ a0.toInt ≤ 431) ∨ (440 ≤ a0.toInt ∧ a0.toInt ≤ 455) ∨ (460 ≤ a0.toInt ∧ a0.toInt ≤ 468) ∨ (480 ≤ a0.toInt ∧ a0.toInt ≤ 487))) ∨ ((0 : Int32).toInt = 1 ∧ ((400 ≤ a0.toInt ∧ a0.toInt ≤ 431) ∨ (440 ≤ a0.toInt ∧ a0.toInt ≤ 455) ∨ (460 ≤ a0.toInt ∧ a0.toInt ≤ 468) ∨ (480 ≤ a0.toInt ∧ a0.toInt ≤ 487))); omega)) fun q_z h_z => ?_
              have p_33 := h_z
              exact (by show (q_z.toInt = 1 ∧ ((0 ≤ a0.toInt ∧ a0.toInt ≤ 63) ∨ (100 ≤ a0.toInt ∧ a0.toInt ≤ 115) ∨ (216 ≤ a0.toInt ∧ a0.toInt ≤ 343) ∨ ((400 ≤ a0.toInt ∧ a0.toInt ≤ 431) ∨ (440 ≤ a0.toInt ∧ a0.toInt ≤ 455) ∨ (460 ≤ a0.toInt ∧ a0.toInt ≤ 468) ∨ (480 ≤ a0.toInt ∧ a0.toInt ≤ 487)) ∨ (501 ≤ a0.toInt ∧ a0.toInt ≤ 516) ∨ a0.toInt = 520)) ∨ (q_z.toInt = 0 ∧ ¬ ((0 ≤ a0.toInt ∧ a0.toInt ≤ 63) ∨ (100 ≤ a0.toInt ∧ a0.toInt ≤ 115) ∨ (216 ≤ a0.toInt ∧ a0.toInt ≤ 343) ∨ ((400 ≤ a0.toInt ∧ a0.toInt ≤ 431) ∨ (440 ≤ a0.toInt ∧ a0.toInt ≤ 455) ∨ (460 ≤ a0.toInt ∧ a0.toInt ≤ 468) ∨ (480 ≤ a0.toInt ∧ a0.toInt ≤ 487)) ∨ (501 ≤ a0.toInt ∧ a0.toInt ≤ 516) ∨ a0.toInt = 520)); omega)
            · rw [i_lt] at c_30
              have k_34 : (487 : Int32).toInt = 487 := by decide
              unfold Mod_isDescriptor_j56
              have k_35 : (1 : Int32).toInt = 1 := by decide
              refine So.imp (t_Mod_isDescriptor_j61 (by show ((1 : Int32).toInt = 0 ∧ ¬ ((400 ≤ a0.toInt ∧ a0.toInt ≤ 431) ∨ (440 ≤ a0.toInt ∧ a0.toInt ≤ 455) ∨ (460 ≤ a0.toInt ∧ a0.toInt ≤ 468) ∨ (480 ≤ a0.toInt ∧ a0.toInt ≤ 487))) ∨ ((1 : Int32).toInt = 1 ∧ ((400 ≤ a0.toInt ∧ a0.toInt ≤ 431) ∨ (440 ≤ a0.toInt ∧ a0.toInt ≤ 455) ∨ (460 ≤ a0.toInt ∧ a0.toInt ≤ 468) ∨ (480 ≤ a0.toInt ∧ a0.toInt ≤ 487))); omega)) fun q_z h_z => ?_
              have p_36 := h_z
              exact (by show (q_z.toInt = 1 ∧ ((0 ≤ a0.toInt ∧ a0.toInt ≤ 63) ∨ (100 ≤ a0.toInt ∧ a0.toInt ≤ 115) ∨ (216 ≤ a0.toInt ∧ a0.toInt ≤ 343) ∨ ((400 ≤ a0.toInt ∧ a0.toInt ≤ 431) ∨ (440 ≤ a0.toInt ∧ a0.toInt ≤ 455) ∨ (460 ≤ a0.toInt ∧ a0.toInt ≤ 468) ∨ (480 ≤ a0.toInt ∧ a0.toInt ≤ 487)) ∨ (501 ≤ a0.toInt ∧ a0.toInt ≤ 516) ∨ a0.toInt = 520)) ∨ (q_z.toInt = 0 ∧ ¬ ((0 ≤ a0.toInt ∧ a0.toInt ≤ 63) ∨ (100 ≤ a0.toInt ∧ a0.toInt ≤ 115) ∨ (216 ≤ a0.toInt ∧ a0.toInt ≤ 343) ∨ ((400 ≤ a0.toInt ∧ a0.toInt ≤ 431) ∨ (440 ≤ a0.toInt ∧ a0.toInt ≤ 455) ∨ (460 ≤ a0.toInt ∧ a0.toInt ≤ 468) ∨ (480 ≤ a0.toInt ∧ a0.toInt ≤ 487)) ∨ (501 ≤ a0.toInt ∧ a0.toInt ≤ 516) ∨ a0.toInt = 520)); omega)
    · rw [i_lt] at c_3
      have k_37 : (440 : Int32).toInt = 440 := by decide
      refine So.ite (fun c_38 => ?_) (fun c_38 => ?_)
      · rw [i_le] at c_38
        have k_39 : (455 : Int32).toInt = 455 := by decide
        unfold Mod_isDescriptor_j56
        have k_40 : (1 : Int32).toInt = 1 := by decide
        refine So.imp (t_Mod_isDescriptor_j61 (by show ((1 : Int32).toInt = 0 ∧ ¬ ((400 ≤ a0.toInt ∧ a0.toInt ≤ 431) ∨ (440 ≤ a0.toInt ∧ a0.toInt ≤ 455) ∨ (460 ≤ a0.toInt ∧ a0.toInt ≤ 468) ∨ (480 ≤ a0.toInt ∧ a0.toInt ≤ 487))) ∨ ((1 : Int32).toInt = 1 ∧ ((400 ≤ a0.toInt ∧ a0.toInt ≤ 431) ∨ (440 ≤ a0.toInt ∧ a0.toInt ≤ 455) ∨ (460 ≤ a0.toInt ∧ a0.toInt ≤ 468) ∨ (480 ≤ a0.toInt ∧ a0.toInt ≤ 487))); omega)) fun q_z h_z => ?_
        have p_41 := h_z
        exact (by show (q_z.toInt = 1 ∧ ((0 ≤ a0.toInt ∧ a0.toInt ≤ 63) ∨ (100 ≤ a0.toInt ∧ a0.toInt ≤ 115) ∨ (216 ≤ a0.toInt ∧ a0.toInt ≤ 343) ∨ ((400 ≤ a0.toInt ∧ a0.toInt ≤ 431) ∨ (440 ≤ a0.toInt ∧ a0.toInt ≤ 455) ∨ (460 ≤ a0.toInt ∧ a0.toInt ≤ 468) ∨ (480 ≤ a0.toInt ∧ a0.toInt ≤ 487)) ∨ (501 ≤ a0.toInt ∧ a0.toInt ≤ 516) ∨ a0.toInt = 520)) ∨ (q_z.toInt = 0 ∧ ¬ ((0 ≤ a0.toInt ∧ a0.toInt ≤ 63) ∨ (100 ≤ a0.toInt ∧ a0.toInt ≤ 115) ∨ (216 ≤ a0.toInt ∧ a0.toInt ≤ 343) ∨ ((400 ≤ a0.toInt ∧ a0.toInt ≤ 431) ∨ (440 ≤ a0.toInt ∧ a0.toInt ≤ 455) ∨ (460 ≤ a0.toInt ∧ a0.toInt ≤ 468) ∨ (480 ≤ a0.toInt ∧ a0.toInt ≤ 487)) ∨ (501 ≤ a0.toInt ∧ a0.toInt ≤ 516) ∨ a0.toInt = 520)); omega)
      · rw [i_le] at c_38
        have k_42 : (455 : Int32).toInt = 455 := by decide
        unfold Mod_isDescriptor_j28
        refine So.ite (fun c_43 => ?_) (fun c_43 => ?_)
        · rw [i_lt] at c_43
          have k_44 : (460 : Int32).toInt = 460 := by decide
          unfold Mod_isDescriptor_j42
          refine So.ite (fun c_45 => ?_) (fun c_45 => ?_)
          · rw [i_lt] at c_45
            have k_46 : (480 : Int32).toInt = 480 := by decide
            unfold Mod_isDescriptor_j60
            have k_47 : (0 : Int32).toInt = 0 := by decide
            refine So.imp (t_Mod_isDescriptor_j61 (by show ((0 : Int32).toInt = 0 ∧ ¬ ((400 ≤ a0.toInt ∧ a0.toInt ≤ 431) ∨ (440 ≤ a0.toInt ∧ a0.toInt ≤ 455) ∨ (460 ≤ a0.toInt ∧ a0.toInt ≤ 468) ∨ (480 ≤ a0.toInt ∧ a0.toInt ≤ 487))) ∨ ((0 : Int32).toInt = 1 ∧ ((400 ≤ a0.toInt ∧ a0.toInt ≤ 431) ∨ (440 ≤ a0.toInt ∧ a0.toInt ≤ 455) ∨ (460 ≤ a0.toInt ∧ a0.toInt ≤ 468) ∨ (480 ≤ a0.toInt ∧ a0.toInt ≤ 487))); omega)) fun q_z h_z => ?_
            have p_48 := h_z
            exact (by show (q_z.toInt = 1 ∧ ((0 ≤ a0.toInt ∧ a0.toInt ≤ 63) ∨ (100 ≤ a0.toInt ∧ a0.toInt ≤ 115) ∨ (216 ≤ a0.toInt ∧ a0.toInt ≤ 343) ∨ ((400 ≤ a0.toInt ∧ a0.toInt ≤ 431) ∨ (440 ≤ a0.toInt ∧ a0.toInt ≤ 455) ∨ (460 ≤ a0.toInt ∧ a0.toInt ≤ 468) ∨ (480 ≤ a0.toInt ∧ a0.toInt ≤ 487)) ∨ (501 ≤ a0.toInt ∧ a0.toInt ≤ 516) ∨ a0.toInt = 520)) ∨ (q_z.toInt = 0 ∧ ¬ ((0 ≤ a0.toInt ∧ a0.toInt ≤ 63) ∨ (100 ≤ a0.toInt ∧ a0.toInt ≤ 115) ∨ (216 ≤ a0.toInt ∧ a0.toInt ≤ 343) ∨ ((400 ≤ a0.toInt ∧ a0.toInt ≤ 431) ∨ (440 ≤ a0.toInt ∧ a0.toInt ≤ 455) ∨ (460 ≤ a0.toInt ∧ a0.toInt ≤ 468) ∨ (480 ≤ a0.toInt ∧ a0.toInt ≤ 487)) ∨ (501 ≤ a0.toInt ∧ a0.toInt ≤ 516) ∨ a0.toInt = 520)); omega)
          · rw [i_lt] at c_45
            have k_49 : (480 : Int32).toInt = 480 := by decide
            refine So.ite (fun c_50 => ?_) (fun c_50 => ?_)
            · rw [i_lt] at c_50
              have k_51 : (487 : Int32).toInt = 487 := by decide
              unfold Mod_isDescriptor_j60
              have k_52 : (0 : Int32).toInt = 0 := by decide
              refine So.imp (t_Mod_isDescriptor_j61 (by show ((0 : Int32).toInt = 0 ∧ ¬ ((400 ≤ a0.toInt ∧ a0.toInt ≤ 431) ∨ (440 ≤ a0.toInt ∧ a0.toInt ≤ 455) ∨ (460 ≤ a0.toInt ∧ a0.toInt ≤ 468) ∨ (480 ≤ a0.toInt ∧ a0.toInt ≤ 487))) ∨ ((0 : Int32).toInt = 1 ∧ ((400 ≤ a0.toInt ∧ a0.toInt ≤ 431) ∨ (440 ≤ a0.toInt ∧ a0.toInt ≤ 455) ∨ (460 ≤ a0.toInt ∧ a0.toInt ≤ 468) ∨ (480 ≤ a0.toInt ∧ a0.toInt ≤ 487))); omega)) fun q_z h_z => ?_
              have p_53 := h_z
              exact (by show (q_z.toInt = 1 ∧ ((0 ≤ a0.toInt ∧ a0.toInt ≤ 63) ∨ (100 ≤ a0.toInt ∧ a0.toInt ≤ 115) ∨ (216 ≤ a0.toInt ∧ a0.toInt ≤ 343) ∨ ((400 ≤ a0.toInt ∧ a0.toInt ≤ 431) ∨ (440 ≤ a0.toInt ∧ a0.toInt ≤ 455) ∨ (460 ≤ a0.toInt ∧ a0.toInt ≤ 468) ∨ (480 ≤ a0.toInt ∧ a0.toInt ≤ 487)) ∨ (501 ≤ a0.toInt ∧ a0.toInt ≤ 516) ∨ a0.toInt = 520)) ∨ (q_z.toInt = 0 ∧ ¬ ((0 ≤ a0.toInt ∧ a0.toInt ≤ 63) ∨ (100 ≤ a0.toInt ∧ a0.toInt ≤ 115) ∨ (216 ≤ a0.toInt ∧ a0.toInt ≤ 343) ∨ ((400 ≤ a0.toInt ∧ a0.toInt ≤ 431) ∨ (440 ≤ a0.toInt ∧ a0.toInt ≤ 455) ∨ (460 ≤ a0.toInt ∧ a0.toInt ≤ 468) ∨ (480 ≤ a0.toInt ∧ a0.toInt ≤ 487)) ∨ (501 ≤ a0.toInt ∧ a0.toInt ≤ 516) ∨ a0.toInt = 520)); omega)
            · rw [i_lt] at c_50
              have k_54 : (487 : Int32).toInt = 487 := by decide
              unfold Mod_isDescriptor_j56
              have k_55 : (1 : Int32).toInt = 1 := by decide
              refine So.imp (t_Mod_isDescriptor_j61 (by show ((1 : Int32).toInt = 0 ∧ ¬ ((400 ≤ a0.toInt ∧ a0.toInt ≤ 431) ∨ (440 ≤ a0.toInt ∧ a0.toInt ≤ 455) ∨ (460 ≤ a0.toInt ∧ a0.toInt ≤ 468) ∨ (480 ≤ a0.toInt ∧ a0.toInt ≤ 487))) ∨ ((1 : Int32).toInt = 1 ∧ ((400 ≤ a0.toInt ∧ a0.toInt ≤ 431) ∨ (440 ≤ a0.toInt ∧ a0.toInt ≤ 455) ∨ (460 ≤ a0.toInt ∧ a0.toInt ≤ 468) ∨ (480 ≤ a0.toInt ∧ a0.toInt ≤ 487))); omega)) fun q_z h_z => ?_
              have p_56 := h_z
              exact (by show (q_z.toInt = 1 ∧ ((0 ≤ a0.toInt ∧ a0.toInt ≤ 63) ∨ (100 ≤ a0.toInt ∧ a0.toInt ≤ 115) ∨ (216 ≤ a0.toInt ∧ a0.toInt ≤ 343) ∨ ((400 ≤ a0.toInt ∧ a0.toInt ≤ 431) ∨ (440 ≤ a0.toInt ∧ a0.toInt ≤ 455) ∨ (460 ≤ a0.toInt ∧ a0.toInt ≤ 468) ∨ (480 ≤ a0.toInt ∧ a0.toInt ≤ 487)) ∨ (501 ≤ a0.toInt ∧ a0.toInt ≤ 516) ∨ a0.toInt = 520)) ∨ (q_z.toInt = 0 ∧ ¬ ((0 ≤ a0.toInt ∧ a0.toInt ≤ 63) ∨ (100 ≤ a0.toInt ∧ a0.toInt ≤ 115) ∨ (216 ≤ a0.toInt ∧ a0.toInt ≤ 343) ∨ ((400 ≤ a0.toInt ∧ a0.toInt ≤ 431) ∨ (440 ≤ a0.toInt ∧ a0.toInt ≤ 455) ∨ (460 ≤ a0.toInt ∧ a0.toInt ≤ 468) ∨ (480 ≤ a0.toInt ∧ a0.toInt ≤ 487)) ∨ (501 ≤ a0.toInt ∧ a0.toInt ≤ 516) ∨ a0.toInt = 520)); omega)
        · rw [i_lt] at c_43
          have k_57 : (460 : Int32).toInt = 460 := by decide
          refine So.ite (fun c_58 => ?_) (fun c_58 => ?_)
          · rw [i_le] at c_58
            have k_59 : (468 : Int32).toInt = 468 := by decide
            unfold Mod_isDescriptor_j56
            have k_60 : (1 : Int32).toInt = 1 := by decide
            refine So.imp (t_Mod_isDescriptor_j61 (by show ((1 : Int32).toInt = 0 ∧ ¬ ((400 ≤ a0.toInt ∧ a0.toInt ≤ 431) ∨ (440 ≤ a0.toInt ∧ a0.toInt ≤ 455) ∨ (460 ≤ a0.toInt ∧ a0.toInt ≤ 468) ∨ (480 ≤ a0.toInt ∧ a0.toInt ≤ 487))) ∨ ((1 : Int32).toInt = 1 ∧ ((400 ≤ a0.toInt ∧ a0.toInt ≤ 431) ∨ (440 ≤ a0.toInt ∧ a0.toInt ≤ 455) ∨ (460 ≤ a0.toInt ∧ a0.toInt ≤ 468) ∨ (480 ≤ a0.toInt ∧ a0.toInt ≤ 487))); omega)) fun q_z h_z => ?_
            have p_61 := h_z
            exact (by show (q_z.toInt = 1 ∧ ((0 ≤ a0.toInt ∧ a0.toInt ≤ 63) ∨ (100 ≤ a0.toInt ∧ a0.toInt ≤ 115) ∨ (216 ≤ a0.toInt ∧ a0.toInt ≤ 343) ∨ ((400 ≤ a0.toInt ∧ a0.toInt ≤ 431) ∨ (440 ≤ a0.toInt ∧ a0.toInt ≤ 455) ∨ (460 ≤ a0.toInt ∧ a0.toInt ≤ 468) ∨ (480 ≤ a0.toInt ∧ a0.toInt ≤ 487)) ∨ (501 ≤ a0.toInt ∧ a0.toInt ≤ 516) ∨ a0.toInt = 520)) ∨ (q_z.toInt = 0 ∧ ¬ ((0 ≤ a0.toInt ∧ a0.toInt ≤ 63) ∨ (100 ≤ a0.toInt ∧ a0.toInt ≤ 115) ∨ (216 ≤ a0.toInt ∧ a0.toInt ≤ 343) ∨ ((400 ≤ a0.toInt ∧ a0.toInt ≤ 431) ∨ (440 ≤ a0.toInt ∧ a0.toInt ≤ 455) ∨ (460 ≤ a0.toInt ∧ a0.toInt ≤ 468) ∨ (480 ≤ a0.toInt ∧ a0.toInt ≤ 487)) ∨ (501 ≤ a0.toInt ∧ a0.toInt ≤ 516) ∨ a0.toInt = 520)); omega)
          · rw [i_le] at c_58
            have k_62 : (468 : Int32).toInt = 468 := by decide
            unfold Mod_isDescriptor_j42
            refine So.ite (fun c_63 => ?_) (fun c_63 => ?_)
            · rw [i_lt] at c_63
              have k_64 : (480 : Int32).toInt = 480 := by decide
              unfold Mod_isDescriptor_j60
              have k_65 : (0 : Int32).toInt = 0 := by decide
              refine So.imp (t_Mod_isDescriptor_j61 (by show ((0 : Int32).toInt = 0 ∧ ¬ ((400 ≤ a0.toInt ∧ a0.toInt ≤ 431) ∨ (440 ≤ a0.toInt ∧ a0.toInt ≤ 455) ∨ (460 ≤ a0.toInt ∧ a0.toInt ≤ 468) ∨ (480 ≤ a0.toInt ∧ a0.toInt ≤ 487))) ∨ ((0 : Int32).toInt = 1 ∧ ((400 ≤ a0.toInt ∧ a0.toInt ≤ 431) ∨ (440 ≤ a0.toInt ∧ a0.toInt ≤ 455) ∨ (460 ≤ a0.toInt ∧ a0.toInt ≤ 468) ∨ (480 ≤ a0.toInt ∧ a0.toInt ≤ 487))); omega)) fun q_z h_z => ?_
              have p_66 := h_z
              exact (by show (q_z.toInt = 1 ∧ ((0 ≤ a0.toInt ∧ a0.toInt ≤ 63) ∨ (100 ≤ a0.toInt ∧ a0.toInt ≤ 115) ∨ (216 ≤ a0.toInt ∧ a0.toInt ≤ 343) ∨ ((400 ≤ a0.toInt ∧ a0.toInt ≤ 431) ∨ (440 ≤ a0.toInt ∧ a0.toInt ≤ 455) ∨ (460 ≤ a0.toInt ∧ a0.toInt ≤ 468) ∨ (480 ≤ a0.toInt ∧ a0.toInt ≤ 487)) ∨ (501 ≤ a0.toInt ∧ a0.toInt ≤ 516) ∨ a0.toInt = 520)) ∨ (q_z.toInt = 0 ∧ ¬ ((0 ≤ a0.toInt ∧ a0.toInt ≤ 63) ∨ (100 ≤ a0.toInt ∧ a0.toInt ≤ 115) ∨ (216 ≤ a0.toInt ∧ a0.toInt ≤ 343) ∨ ((400 ≤ a0.toInt ∧ a0.toInt ≤ 431) ∨ (440 ≤ a0.toInt ∧ a0.toInt ≤ 455) ∨ (460 ≤ a0.toInt ∧ a0.toInt ≤ 468) ∨ (480 ≤ a0.toInt ∧ a0.toInt ≤ 487)) ∨ (501 ≤ a0.toInt ∧ a0.toInt ≤ 516) ∨ a0.toInt = 520)); omega)
            · rw [i_lt] at c_63
              have k_67 : (480 : Int32).toInt = 480 := by decide
              refine So.ite (fun c_68 => ?_) (fun c_68 => ?_)
              · rw [i_lt] at c_68
                have k_69 : (487 : Int32).toInt = 487 := by decide
                unfold Mod_isDescriptor_j60
                have k_70 : (0 : Int32).toInt = 0 := by decide
                refine So.imp (t_Mod_isDescriptor_j61 (by show ((0 : Int32).toInt = 0 ∧ ¬ ((400 ≤ a0.toInt ∧ a0.toInt ≤ 431) ∨ (440 ≤ a0.toInt ∧ a0.toInt ≤ 455) ∨ (460 ≤ a0.toInt ∧ a0.toInt ≤ 468) ∨ (480 ≤ a0.toInt ∧ a0.toInt ≤ 487))) ∨ ((0 : Int32).toInt = 1 ∧ ((400 ≤ a0.toInt ∧ a0.toInt ≤ 431) ∨ (440 ≤ a0.toInt ∧ a0.toInt ≤ 455) ∨ (460 ≤ a0.toInt ∧ a0.toInt ≤ 468) ∨ (480 ≤ a0.toInt ∧ a0.toInt ≤ 487))); omega)) fun q_z h_z => ?_
                have p_71 := h_z
                exact (by show (q_z.toInt = 1 ∧ ((0 ≤ a0.toInt ∧ a0.toInt ≤ 63) ∨ (100 ≤ a0.toInt ∧ a0.toInt ≤ 115) ∨ (216 ≤ a0.toInt ∧ a0.toInt ≤ 343) ∨ ((400 ≤ a0.toInt ∧ a0.toInt ≤ 431) ∨ (440 ≤ a0.toInt ∧ a0.toInt ≤ 455) ∨ (460 ≤ a0.toInt ∧ a0.toInt ≤ 468) ∨ (480 ≤ a0.toInt ∧ a0.toInt ≤ 487)) ∨ (501 ≤ a0.toInt ∧ a0.toInt ≤ 516) ∨ a0.toInt = 520)) ∨ (q_z.toInt = 0 ∧ ¬ ((0 ≤ a0.toInt ∧ a0.toInt ≤ 63) ∨ (100 ≤ a0.toInt ∧ a0.toInt ≤ 115) ∨ (216 ≤ a0.toInt ∧ a0.toInt ≤ 343) ∨ ((400 ≤ a0.toInt ∧ a0.toInt ≤ 431) ∨ (440 ≤ a0.toInt ∧ a0.toInt ≤ 455) ∨ (460 ≤ a0.toInt ∧ a0.toInt ≤ 468) ∨ (480 ≤ a0.toInt ∧ a0.toInt ≤ 487)) ∨ (501 ≤ a0.toInt ∧ a0.toInt ≤ 516) ∨ a0.toInt = 520)); omega)
              · rw [i_lt] at c_68
                have k_72 : (487 : Int32).toInt = 487 := by decide
                unfold Mod_isDescriptor_j56
                have k_73 : (1 : Int32).toInt = 1 := by decide
                refine So.imp (t_Mod_isDescriptor_j61 (by show ((1 : Int32).toInt = 0 ∧ ¬ ((400 ≤ a0.toInt ∧ a0.toInt ≤ 431) ∨ (440 ≤ a0.toInt ∧ a0.toInt ≤ 455) ∨ (460 ≤ a0.toInt ∧ a0.toInt ≤ 468) ∨ (480 ≤ a0.toInt ∧ a0.toInt ≤ 487))) ∨ ((1 : Int32).toInt = 1 ∧ ((400 ≤ a0.toInt ∧ a0.toInt ≤ 431) ∨ (440 ≤ a0.toInt ∧ a0.toInt ≤ 455) ∨ (460 ≤ a0.toInt ∧ a0.toInt ≤ 468) ∨ (480 ≤ a0.toInt ∧ a0.toInt ≤ 487))); omega)) fun q_z h_z => ?_
                have p_74 := h_z
                exact (by show (q_z.toInt = 1 ∧ ((0 ≤ a0.toInt ∧ a0.toInt ≤ 63) ∨ (100 ≤ a0.toInt ∧ a0.toInt ≤ 115) ∨ (216 ≤ a0.toInt ∧ a0.toInt ≤ 343) ∨ ((400 ≤ a0.toInt ∧ a0.toInt ≤ 431) ∨ (440 ≤ a0.toInt ∧ a0.toInt ≤ 455) ∨ (460 ≤ a0.toInt ∧ a0.toInt ≤ 468) ∨ (480 ≤ a0.toInt ∧ a0.toInt ≤ 487)) ∨ (501 ≤ a0.toInt ∧ a0.toInt ≤ 516) ∨ a0.toInt = 520)) ∨ (q_z.toInt = 0 ∧ ¬ ((0 ≤ a0.toInt ∧ a0.toInt ≤ 63) ∨ (100 ≤ a0.toInt ∧ a0.toInt ≤ 115) ∨ (216 ≤ a0.toInt ∧ a0.toInt ≤ 343) ∨ ((400 ≤ a0.toInt ∧ a0.toInt ≤ 431) ∨ (440 ≤ a0.toInt ∧ a0.toInt ≤ 455) ∨ (460 ≤ a0.toInt ∧ a0.toInt ≤ 468) ∨ (480 ≤ a0.toInt ∧ a0.toInt ≤ 487)) ∨ (501 ≤ a0.toInt ∧ a0.toInt ≤ 516) ∨ a0.toInt = 520)); omega)
  · rw [i_lt] at c_1
    have k_75 : (400 : Int32).toInt = 400 := by decide
    refine So.ite (fun c_76 => ?_) (fun c_76 => ?_)
    · rw [i_le] at c_76
      have k_77 : (431 : Int32).toInt = 431 := by decide
      unfold Mod_isDescriptor_j56
      have k_78 : (1 : Int32).toInt = 1 := by decide
      refine So.imp (t_Mod_isDescriptor_j61 (by show ((1 : Int32).toInt = 0 ∧ ¬ ((400 ≤ a0.toInt ∧ a0.toInt ≤ 431) ∨ (440 ≤ a0.toInt ∧ a0.toInt ≤ 455) ∨ (460 ≤ a0.toInt ∧ a0.toInt ≤ 468) ∨ (480 ≤ a0.toInt ∧ a0.toInt ≤ 487))) ∨ ((1 : Int32).toInt = 1 ∧ ((400 ≤ a0.toInt ∧ a0.toInt ≤ 431) ∨ (440 ≤ a0.toInt ∧ a0.toInt ≤ 455) ∨ (460 ≤ a0.toInt ∧ a0.toInt ≤ 468) ∨ (480 ≤ a0.toInt ∧ a0.toInt ≤ 487))); omega)) fun q_z h_z => ?_
      have p_79 := h_z
      exact (by show (q_z.toInt = 1 ∧ ((0 ≤ a0.toInt ∧ a0.toInt ≤ 63) ∨ (100 ≤ a0.toInt ∧ a0.toInt ≤ 115) ∨ (216 ≤ a0.toInt ∧ a0.toInt ≤ 343) ∨ ((400 ≤ a0.toInt ∧ a0.toInt ≤ 431) ∨ (440 ≤ a0.toInt ∧ a0.toInt ≤ 455) ∨ (460 ≤ a0.toInt ∧ a0.toInt ≤ 468) ∨ (480 ≤ a0.toInt ∧ a0.toInt ≤ 487)) ∨ (501 ≤ a0.toInt ∧ a0.toInt ≤ 516) ∨ a0.toInt = 520)) ∨ (q_z.toInt = 0 ∧ ¬ ((0 ≤ a0.toInt ∧ a0.toInt ≤ 63) ∨ (100 ≤ a0.toInt ∧ a0.toInt ≤ 115) ∨ (216 ≤ a0.toInt ∧ a0.toInt ≤ 343) ∨ ((400 ≤ a0.toInt ∧ a0.toInt ≤ 431) ∨ (440 ≤ a0.toInt ∧ a0.toInt ≤ 455) ∨ (460 ≤ a0.toInt ∧ a0.toInt ≤ 468) ∨ (480 ≤ a0.toInt ∧ a0.toInt ≤ 487)) ∨ (501 ≤ a0.toInt ∧ a0.toInt ≤ 516) ∨ a0.toInt = 520)); omega)
    · rw [i_le] at c_76
      have k_80 : (431 : Int32).toInt = 431 := by decide
      unfold Mod_isDescriptor_j14
      refine So.ite (fun c_81 => ?_) (fun c_81 => ?_)
      · rw [i_lt] at c_81
        have k_82 : (440 : Int32).toInt = 440 := by decide
        unfold Mod_isDescriptor_j28
        refine So.ite (fun c_83 => ?_) (fun c_83 => ?_)
        · rw [i_lt] at c_83
          have k_84 : (460 : Int32).toInt = 460 := by decide
          unfold Mod_isDescriptor_j42
          refine So.ite (fun c_85 => ?_) (fun c_85 => ?_)
          · rw [i_lt] at c_85
            have k_86 : (480 : Int32).toInt = 480 := by decide
            unfold Mod_isDescriptor_j60
            have k_87 : (0 : Int32).toInt = 0 := by decide
            refine So.imp (t_Mod_isDescriptor_j61 (by show ((0 : Int32).toInt = 0 ∧ ¬ ((400 ≤ a0.toInt ∧ a0.toInt ≤ 431) ∨ (440 ≤ a0.toInt ∧ a0.toInt ≤ 455) ∨ (460 ≤ a0.toInt ∧ a0.toInt ≤ 468) ∨ (480 ≤ a0.toInt ∧ a0.toInt ≤ 487))) ∨ ((0 : Int32).toInt = 1 ∧ ((400 ≤ a0.toInt ∧ a0.toInt ≤ 431) ∨ (440 ≤ a0.toInt ∧ a0.toInt ≤ 455) ∨ (460 ≤ a0.toInt ∧ a0.toInt ≤ 468) ∨ (480 ≤ a0.toInt ∧ a0.toInt ≤ 487))); omega)) fun q_z h_z => ?_
            have p_88 := h_z
            exact (by show (q_z.toInt = 1 ∧ ((0 ≤ a0.toInt ∧ a0.toInt ≤ 63) ∨ (100 ≤ a0.toInt ∧ a0.toInt ≤ 115) ∨ (216 ≤ a0.toInt ∧ a0.toInt ≤ 343) ∨ ((400 ≤ a0.toInt ∧ a0.toInt ≤ 431) ∨ (440 ≤ a0.toInt ∧ a0.toInt ≤ 455) ∨ (460 ≤ a0.toInt ∧ a0.toInt ≤ 468) ∨ (480 ≤ a0.toInt ∧ a0.toInt ≤ 487)) ∨ (501 ≤ a0.toInt ∧ a0.toInt ≤ 516) ∨ a0.toInt = 520)) ∨ (q_z.toInt = 0 ∧ ¬ ((0 ≤ a0.toInt ∧ a0.toInt ≤ 63) ∨ (100 ≤ a0.toInt ∧ a0.toInt ≤ 115) ∨ (216 ≤ a0.toInt ∧ a0.toInt ≤ 343) ∨ ((400 ≤ a0.toInt ∧ a0.toInt ≤ 431) ∨ (440 ≤ a0.toInt ∧ a0.toInt ≤ 455) ∨ (460 ≤ a0.toInt ∧ a0.toInt ≤ 468) ∨ (480 ≤ a0.toInt ∧ a0.toInt ≤ 487)) ∨ (501 ≤ a0.toInt ∧ a0.toInt ≤ 516) ∨ a0.toInt = 520)); omega)
          · rw [i_lt] at c_85
            have k_89 : (480 : Int32).toInt = 480 := by decide
            refine So.ite (fun c_90 => ?_) (fun c_90 => ?_)
            · rw [i_lt] at c_90
              have k_91 : (487 : Int32).toInt = 487 := by decide
              unfold Mod_isDescriptor_j60
              have k_92 : (0 : Int32).toInt = 0 := by decide
              refine So.imp (t_Mod_isDescriptor_j61 (by show ((0 : Int32).toInt = 0 ∧ ¬ ((400 ≤ a0.toInt ∧ a0.toInt ≤ 431) ∨ (440 ≤ a0.toInt ∧ a0.toInt ≤ 455) ∨ (460 ≤ a0.toInt ∧ a0.toInt ≤ 468) ∨ (480 ≤ a0.toInt ∧ a0.toInt ≤ 487))) ∨ ((0 : Int32).toInt = 1 ∧ ((400 ≤ a0.toInt ∧ a0.toInt ≤ 431) ∨ (440 ≤ a0.toInt ∧ a0.toInt ≤ 455) ∨ (460 ≤ a0.toInt ∧ a0.toInt ≤ 468) ∨ (480 ≤ a0.toInt ∧ a0.toInt ≤ 487))); omega)) fun q_z h_z => ?_
              have p_93 := h_z
              exact (by show (q_z.toInt = 1 ∧ ((0 ≤ a0.toInt ∧ a0.toInt ≤ 63) ∨ (100 ≤ a0.toInt ∧ a0.toInt ≤ 115) ∨ (216 ≤ a0.toInt ∧ a0.toInt ≤ 343) ∨ ((400 ≤ a0.toInt ∧ a0.toInt ≤ 431) ∨ (440 ≤ a0.toInt ∧ a0.toInt ≤ 455) ∨ (460 ≤ a0.toInt ∧ a0.toInt ≤ 468) ∨ (480 ≤ a0.toInt ∧ a0.toInt ≤ 487)) ∨ (501 ≤ a0.toInt ∧ a0.toInt ≤ 516) ∨ a0.toInt = 520)) ∨ (q_z.toInt = 0 ∧ ¬ ((0 ≤ a0.toInt ∧ a0.toInt ≤ 63) ∨ (100 ≤ a0.toInt ∧ a0.toInt ≤ 115) ∨ (216 ≤ a0.toInt ∧ a0.toInt ≤ 343) ∨ ((400 ≤ a0.toInt ∧ a0.toInt ≤ 431) ∨ (440 ≤ a0.toInt ∧ a0.toInt ≤ 455) ∨ (460 ≤ a0.toInt ∧ a0.toInt ≤ 468) ∨ (480 ≤ a0.toInt ∧ a0.toInt ≤ 487)) ∨ (501 ≤ a0.toInt ∧ a0.toInt ≤ 516) ∨ a0.toInt = 520)); omega)
            · rw [i_lt] at c_90
              have k_94 : (487 : Int32).toInt = 487 := by decide
              unfold Mod_isDescriptor_j56
              have k_95 : (1 : Int32).toInt = 1 := by decide
              refine So.imp (t_Mod_isDescriptor_j61 (by show ((1 : Int32).toInt = 0 ∧ ¬ ((400 ≤ a0.toInt ∧ a0.toInt ≤ 431) ∨ (440 ≤ a0.toInt ∧ a0.toInt ≤ 455) ∨ (460 ≤ a0.toInt ∧ a0.toInt ≤ 468) ∨ (480 ≤ a0.toInt ∧ a0.toInt ≤ 487))) ∨ ((1 : Int32).toInt = 1 ∧ ((400 ≤ a0.toInt ∧ a0.toInt ≤ 431) ∨ (440 ≤ a0.toInt ∧ a0.toInt ≤ 455) ∨ (460 ≤ a0.toInt ∧ a0.toInt ≤ 468) ∨ (480 ≤ a0.toInt ∧ a0.toInt ≤ 487))); omega)) fun q_z h_z => ?_
              have p_96 := h_z
              exact (by show (q_z.toInt = 1 ∧ ((0 ≤ a0.toInt ∧ a0.toInt ≤ 63) ∨ (100 ≤ a0.toInt ∧ a0.toInt ≤ 115) ∨ (216 ≤ a0.toInt ∧ a0.toInt ≤ 343) ∨ ((400 ≤ a0.toInt ∧ a0.toInt ≤ 431) ∨ (440 ≤ a0.toInt ∧ a0.toInt ≤ 455) ∨ (460 ≤ a0.toInt ∧ a0.toInt ≤ 468) ∨ (480 ≤ a0.toInt ∧ a0.toInt ≤ 487)) ∨ (501 ≤ a0.toInt ∧ a0.toInt ≤ 516) ∨ a0.toInt = 520)) ∨ (q_z.toInt = 0 ∧ ¬ ((0 ≤ a0.toInt ∧ a0.toInt ≤ 63) ∨ (100 ≤ a0.toInt ∧ a0.toInt ≤ 115) ∨ (216 ≤ a0.toInt ∧ a0.toInt ≤ 343) ∨ ((400 ≤ a0.toInt ∧ a0.toInt ≤ 431) ∨ (440 ≤ a0.toInt ∧ a0.toInt ≤ 455) ∨ (460 ≤ a0.toInt ∧ a0.toInt ≤ 468) ∨ (480 ≤ a0.toInt ∧ a0.toInt ≤ 487)) ∨ (501 ≤ a0.toInt ∧ a0.toInt ≤ 516) ∨ a0.toInt = 520)); omega)
        · rw [i_lt] at c_83
          have k_97 : (460 : Int32).toInt = 460 := by decide
          refine So.ite (fun c_98 => ?_) (fun c_98 => ?_)
          · rw [i_le] at c_98
            have k_99 : (468 : Int32).toInt = 468 := by decide
            unfold Mod_isDescriptor_j56
            have k_100 : (1 : Int32).toInt = 1 := by decide
            refine So.imp (t_Mod_isDescriptor_j61 (by show ((1 : Int32).toInt = 0 ∧ ¬ ((400 ≤ a0.toInt ∧ a0.toInt ≤ 431) ∨ (440 ≤ a0.toInt ∧ a0.toInt ≤ 455) ∨ (460 ≤ a0.toInt ∧ a0.toInt ≤ 468) ∨ (480 ≤ a0.toInt ∧ a0.toInt ≤ 487))) ∨ ((1 : Int32).toInt = 1 ∧ ((400 ≤ a0.toInt ∧ a0.toInt ≤ 431) ∨ (440 ≤ a0.toInt ∧ a0.toInt ≤ 455) ∨ (460 ≤ a0.toInt ∧ a0.toInt ≤ 468) ∨ (480 ≤ a0.toInt ∧ a0.toInt ≤ 487))); omega)) fun q_z h_z => ?_
            have p_101 := h_z
            exact (by show (q_z.toInt = 1 ∧ ((0 ≤ a0.toInt ∧ a0.toInt ≤ 63) ∨ (100 ≤ a0.toInt ∧ a0.toInt ≤ 115) ∨ (216 ≤ a0.toInt ∧ a0.toInt ≤ 343) ∨ ((400 ≤ a0.toInt ∧ a0.toInt ≤ 431) ∨ (440 ≤ a0.toInt ∧ a0.toInt ≤ 455) ∨ (460 ≤ a0.toInt ∧ a0.toInt ≤ 468) ∨ (480 ≤ a0.toInt ∧ a0.toInt ≤ 487)) ∨ (501 ≤ a0.toInt ∧ a0.toInt ≤ 516) ∨ a0.toInt = 520)) ∨ (q_z.toInt = 0 ∧ ¬ ((0 ≤ a0.toInt ∧ a0.toInt ≤ 63) ∨ (100 ≤ a0.toInt ∧ a0.toInt ≤ 115) ∨ (216 ≤ a0.toInt ∧ a0.toInt ≤ 343) ∨ ((400 ≤ a0.toInt ∧ a0.toInt ≤ 431) ∨ (440 ≤ a0.toInt ∧ a0.toInt ≤ 455) ∨ (460 ≤ a0.toInt ∧ a0.toInt ≤ 468) ∨ (480 ≤ a0.toInt ∧ a0.toInt ≤ 487)) ∨ (501 ≤ a0.toInt ∧ a0.toInt ≤ 516) ∨ a0.toInt = 520)); omega)
          · rw [i_le] at c_98
            have k_102 : (468 : Int32).toInt = 468 := by decide
            unfold Mod_isDescriptor_j42
            refine So.ite (fun c_103 => ?_) (fun c_103 => ?_)
            · rw [i_lt] at c_103
              have k_104 : (480 : Int32).toInt = 480 := by decide
              unfold Mod_isDescriptor_j60
              have k_105 : (0 : Int32).toInt = 0 := by decide
              refine So.imp (t_Mod_isDescriptor_j61 (by show ((0 : Int32).toInt = 0 ∧ ¬ ((400 ≤ a0.toInt ∧ a0.toInt ≤ 431) ∨ (440 ≤ a0.toInt ∧ a0.toInt ≤ 455) ∨ (460 ≤ a0.toInt ∧ a0.toInt ≤ 468) ∨ (480 ≤ a0.toInt ∧ a0.toInt ≤ 487))) ∨ ((0 : Int32).toInt = 1 ∧ ((400 ≤ a0.toInt ∧ a0.toInt ≤ 431) ∨ (440 ≤ a0.toInt ∧ a0.toInt ≤ 455) ∨ (460 ≤ a0.toInt ∧ a0.toInt ≤ 468) ∨ (480 ≤ a0.toInt ∧ a0.toInt ≤ 487))); omega)) fun q_z h_z => ?_
              have p_106 := h_z
              exact (by show (q_z.toInt = 1 ∧ ((0 ≤ a0.toInt ∧ a0.toInt ≤ 63) ∨ (100 ≤ a0.toInt ∧ a0.toInt ≤ 115) ∨ (216 ≤ a0.toInt ∧ a0.toInt ≤ 343) ∨ ((400 ≤ a0.toInt ∧ a0.toInt ≤ 431) ∨ (440 ≤ a0.toInt ∧ a0.toInt ≤ 455) ∨ (460 ≤ a0.toInt ∧ a0.toInt ≤ 468) ∨ (480 ≤ a0.toInt ∧ a0.toInt ≤ 487)) ∨ (501 ≤ a0.toInt ∧ a0.toInt ≤ 516) ∨ a0.toInt = 520)) ∨ (q_z.toInt = 0 ∧ ¬ ((0 ≤ a0.toInt ∧ a0.toInt ≤ 63) ∨ (100 ≤ a0.toInt ∧ a0.toInt ≤ 115) ∨ (216 ≤ a0.toInt ∧ a0.toInt ≤ 343) ∨ ((400 ≤ a0.toInt ∧ a0.toInt ≤ 431) ∨ (440 ≤ a0.toInt ∧ a0.toInt ≤ 455) ∨ (460 ≤ a0.toInt ∧ a0.toInt ≤ 468) ∨ (480 ≤ a0.toInt ∧ a0.toInt ≤ 487)) ∨ (501 ≤ a0.toInt ∧ a0.toInt ≤ 516) ∨ a0.toInt = 520)); omega)
            · rw [i_lt] at c_103
              have k_107 : (480 : Int32).toInt = 480 := by decide
              refine So.ite (fun c_108 => ?_) (fun c_108 => ?_)
              · rw [i_lt] at c_108
                have k_109 : (487 : Int32).toInt = 487 := by decide
                unfold Mod_isDescriptor_j60
                have k_110 : (0 : Int32).toInt = 0 := by decide
                refine So.imp (t_Mod_isDescriptor_j61 (by show ((0 : Int32).toInt = 0 ∧ ¬ ((400 ≤ a0.toInt ∧ a0.toInt ≤ 431) ∨ (440 ≤ a0.toInt ∧ a0.toInt ≤ 455) ∨ (460 ≤ a0.toInt ∧ a0.toInt ≤ 468) ∨ (480 ≤ a0.toInt ∧ a0.toInt ≤ 487))) ∨ ((0 : Int32).toInt = 1 ∧ ((400 ≤ a0.toInt ∧ a0.toInt ≤ 431) ∨ (440 ≤ a0.toInt ∧ a0.toInt ≤ 455) ∨ (460 ≤ a0.toInt ∧ a0.toInt ≤ 468) ∨ (480 ≤ a0.toInt ∧ a0.toInt ≤ 487))); omega)) fun q_z h_z => ?_
                have p_111 := h_z
                exact (by show (q_z.toInt = 1 ∧ ((0 ≤ a0.toInt ∧ a0.toInt ≤ 63) ∨ (100 ≤ a0.toInt ∧ a0.toInt ≤ 115) ∨ (216 ≤ a0.toInt ∧ a0.toInt ≤ 343) ∨ ((400 ≤ a0.toInt ∧ a0.toInt ≤ 431) ∨ (440 ≤ a0.toInt ∧ a0.toInt ≤ 455) ∨ (460 ≤ a0.toInt ∧ a0.toInt ≤ 468) ∨ (480 ≤ a0.toInt ∧ a0.toInt ≤ 487)) ∨ (501 ≤ a0.toInt ∧ a0.toInt ≤ 516) ∨ a0.toInt = 520)) ∨ (q_z.toInt = 0 ∧ ¬ ((0 ≤ a0.toInt ∧ a0.toInt ≤ 63) ∨ (100 ≤ a0.toInt ∧ a0.toInt ≤ 115) ∨ (216 ≤ a0.toInt ∧ a0.toInt ≤ 343) ∨ ((400 ≤ a0.toInt ∧ a0.toInt ≤ 431) ∨ (440 ≤ a0.toInt ∧ a0.toInt ≤ 455) ∨ (460 ≤ a0.toInt ∧ a0.toInt ≤ 468) ∨ (480 ≤ a0.toInt ∧ a0.toInt ≤ 487)) ∨ (501 ≤ a0.toInt ∧ a0.toInt ≤ 516) ∨ a0.toInt = 520)); omega)
              · rw [i_lt] at c_108
                have k_112 : (487 : Int32).toInt = 487 := by decide
                unfold Mod_isDescriptor_j56
                have k_113 : (1 : Int32).toInt = 1 := by decide
                refine So.imp (t_Mod_isDescriptor_j61 (by show ((1 : Int32).toInt = 0 ∧ ¬ ((400 ≤ a0.toInt ∧ a0.toInt ≤ 431) ∨ (440 ≤ a0.toInt ∧ a0.toInt ≤ 455) ∨ (460 ≤ a0.toInt ∧ a0.toInt ≤ 468) ∨ (480 ≤ a0.toInt ∧ a0.toInt ≤ 487))) ∨ ((1 : Int32).toInt = 1 ∧ ((400 ≤ a0.toInt ∧ a0.toInt ≤ 431) ∨ (440 ≤ a0.toInt ∧ a0.toInt ≤ 455) ∨ (460 ≤ a0.toInt ∧ a0.toInt ≤ 468) ∨ (480 ≤ a0.toInt ∧ a0.toInt ≤ 487))); omega)) fun q_z h_z => ?_
                have p_114 := h_z
                exact (by show (q_z.toInt = 1 ∧ ((0 ≤ a0.toInt ∧ a0.toInt ≤ 63) ∨ (100 ≤ a0.toInt ∧ a0.toInt ≤ 115) ∨ (216 ≤ a0.toInt ∧ a0.toInt ≤ 343) ∨ ((400 ≤ a0.toInt ∧ a0.toInt ≤ 431) ∨ (440 ≤ a0.toInt ∧ a0.toInt ≤ 455) ∨ (460 ≤ a0.toInt ∧ a0.toInt ≤ 468) ∨ (480 ≤ a0.toInt ∧ a0.toInt ≤ 487)) ∨ (501 ≤ a0.toInt ∧ a0.toInt ≤ 516) ∨ a0.toInt = 520)) ∨ (q_z.toInt = 0 ∧ ¬ ((0 ≤ a0.toInt ∧ a0.toInt ≤ 63) ∨ (100 ≤ a0.toInt ∧ a0.toInt ≤ 115) ∨ (216 ≤ a0.toInt ∧ a0.toInt ≤ 343) ∨ ((400 ≤ a0.toInt ∧ a0.toInt ≤ 431) ∨ (440 ≤ a0.toInt ∧ a0.toInt ≤ 455) ∨ (460 ≤ a0.toInt ∧ a0.toInt ≤ 468) ∨ (480 ≤ a0.toInt ∧ a0.toInt ≤ 487)) ∨ (501 ≤ a0.toInt ∧ a0.toInt ≤ 516) ∨ a0.toInt = 520)); omega)
      · rw [i_lt] at c_81
        have k_115 : (440 : Int32).toInt = 440 := by decide
        refine So.ite (fun c_116 => ?_) (fun c_116 => ?_)
        · rw [i_le] at c_116
          have k_117 : (455 : Int32).toInt = 455 := by decide
          unfold Mod_isDescriptor_j56
          have k_118 : (1 : Int32).toInt = 1 := by decide
          refine So.imp (t_Mod_isDescriptor_j61 (by show ((1 : Int32).toInt = 0 ∧ ¬ ((400 ≤ a0.toInt ∧ a0.toInt ≤ 431) ∨ (440 ≤ a0.toInt ∧ a0.toInt ≤ 455) ∨ (460 ≤ a0.toInt ∧ a0.toInt ≤ 468) ∨ (480 ≤ a0.toInt ∧ a0.toInt ≤ 487))) ∨ ((1 : Int32).toInt = 1 ∧ ((400 ≤ a0.toInt ∧ a0.toInt ≤ 431) ∨ (440 ≤ a0.toInt ∧ a0.toInt ≤ 455) ∨ (460 ≤ a0.toInt ∧ a0.toInt ≤ 468) ∨ (480 ≤ a0.toInt ∧ a0.toInt ≤ 487))); omega)) fun q_z h_z => ?_
          have p_119 := h_z
          exact (by show (q_z.toInt = 1 ∧ ((0 ≤ a0.toInt ∧ a0.toInt ≤ 63) ∨ (100 ≤ a0.toInt ∧ a0.toInt ≤ 115) ∨ (216 ≤ a0.toInt ∧ a0.toInt ≤ 343) ∨ ((400 ≤ a0.toInt ∧ a0.toInt ≤ 431) ∨ (440 ≤ a0.toInt ∧ a0.toInt ≤ 455) ∨ (460 ≤ a0.toInt ∧ a0.toInt ≤ 468) ∨ (480 ≤ a0.toInt ∧ a0.toInt ≤ 487)) ∨ (501 ≤ a0.toInt ∧ a0.toInt ≤ 516) ∨ a0.toInt = 520)) ∨ (q_z.toInt = 0 ∧ ¬ ((0 ≤ a0.toInt ∧ a0.toInt ≤ 63) ∨ (100 ≤ a0.toInt ∧ a0.toInt ≤ 115) ∨ (216 ≤ a0.toInt ∧ a0.toInt ≤ 343) ∨ ((400 ≤ a0.toInt ∧ a0.toInt ≤ 431) ∨ (440 ≤ a0.toInt ∧ a0.toInt ≤ 455) ∨ (460 ≤ a0.toInt ∧ a0.toInt ≤ 468) ∨ (480 ≤ a0.toInt ∧ a0.toInt ≤ 487)) ∨ (501 ≤ a0.toInt ∧ a0.toInt ≤ 516) ∨ a0.toInt = 520)); omega)
        · rw [i_le] at c_116
          have k_120 : (455 : Int32).toInt = 455 := by decide
          unfold Mod_isDescriptor_j28
          refine So.ite (fun c_121 => ?_) (fun c_121 => ?_)
          · rw [i_lt] at c_121
            have k_122 : (460 : Int32).toInt = 460 := by decide
            unfold Mod_isDescriptor_j42
            refine So.ite (fun c_123 => ?_) (fun c_123 => ?_)
            · rw [i_lt] at c_123
              have k_124 : (480 : Int32).toInt = 480 := by decide
              unfold Mod_isDescriptor_j60
              have k_125 : (0 : Int32).toInt = 0 := by decide
              refine So.imp (t_Mod_isDescriptor_j61 (by show ((0 : Int32).toInt = 0 ∧ ¬ ((400 ≤ a0.toInt ∧ a0.toInt ≤ 431) ∨ (440 ≤ a0.toInt ∧ a0.toInt ≤ 455) ∨ (460 ≤ a0.toInt ∧ a0.toInt ≤ 468) ∨ (480 ≤ a0.toInt ∧ a0.toInt ≤ 487))) ∨ ((0 : Int32).toInt = 1 ∧ ((400 ≤ a0.toInt ∧ a0.toInt ≤ 431) ∨ (440 ≤ a0.toInt ∧ a0.toInt ≤ 455) ∨ (460 ≤ a0.toInt ∧ a0.toInt ≤ 468) ∨ (480 ≤ a0.toInt ∧ a0.toInt ≤ 487))); omega)) fun q_z h_z => ?_
              have p_126 := h_z
              exact (by show (q_z.toInt = 1 ∧ ((0 ≤ a0.toInt ∧ a0.toInt ≤ 63) ∨ (100 ≤ a0.toInt ∧ a0.toInt ≤ 115) ∨ (216 ≤ a0.toInt ∧ a0.toInt ≤ 343) ∨ ((400 ≤ a0.toInt ∧ a0.toInt ≤ 431) ∨ (440 ≤ a0.toInt ∧ a0.toInt ≤ 455) ∨ (460 ≤ a0.toInt ∧ a0.toInt ≤ 468) ∨ (480 ≤ a0.toInt ∧ a0.toInt ≤ 487)) ∨ (501 ≤ a0.toInt ∧ a0.toInt ≤ 516) ∨ a0.toInt = 520)) ∨ (q_z.toInt = 0 ∧ ¬ ((0 ≤ a0.toInt ∧ a0.toInt ≤ 63) ∨ (100 ≤ a0.toInt ∧ a0.toInt ≤ 115) ∨ (216 ≤ a0.toInt ∧ a0.toInt ≤ 343) ∨ ((400 ≤ a0.toInt ∧ a0.toInt ≤ 431) ∨ (440 ≤ a0.toInt ∧ a0.toInt ≤ 455) ∨ (460 ≤ a0.toInt ∧ a0.toInt ≤ 468) ∨ (480 ≤ a0.toInt ∧ a0.toInt ≤ 487)) ∨ (501 ≤ a0.toInt ∧ a0.toInt ≤ 516) ∨ a0.toInt = 520)); omega)
            · rw [i_lt] at c_123
              have k_127 : (480 : Int32).toInt = 480 := by decide
              refine So.ite (fun c_128 => ?_) (fun c_128 => ?_)
              · rw [i_lt] at c_128
                have k_129 : (487 : Int32).toInt = 487 := by decide
                unfold Mod_isDescriptor_j60
                have k_130 : (0 : Int32).toInt = 0 := by decide
                refine So.imp (t_Mod_isDescriptor_j61 (by show ((0 : Int32).toInt = 0 ∧ ¬ ((400 ≤ a0.toInt ∧ a0.toInt ≤ 431) ∨ (440 ≤ a0.toInt ∧ a0.toInt ≤ 455) ∨ (460 ≤ a0.toInt ∧ a0.toInt ≤ 468) ∨ (480 ≤ a0.toInt ∧ a0.toInt ≤ 487))) ∨ ((0 : Int32).toInt = 1 ∧ ((400 ≤ a0.toInt ∧ a0.toInt ≤ 431) ∨ (440 ≤ a0.toInt ∧ a0.toInt ≤ 455) ∨ (460 ≤ a0.toInt ∧ a0.toInt ≤ 468) ∨ (480 ≤ a0.toInt ∧ a0.toInt ≤ 487))); omega)) fun q_z h_z => ?_
                have p_131 := h_z
                exact (by show (q_z.toInt = 1 ∧ ((0 ≤ a0.toInt ∧ a0.toInt ≤ 63) ∨ (100 ≤ a0.toInt ∧ a0.toInt ≤ 115) ∨ (216 ≤ a0.toInt ∧ a0.toInt ≤ 343) ∨ ((400 ≤ a0.toInt ∧ a0.toInt ≤ 431) ∨ (440 ≤ a0.toInt ∧ a0.toInt ≤ 455) ∨ (460 ≤ a0.toInt ∧ a0.toInt ≤ 468) ∨ (480 ≤ a0.toInt ∧ a0.toInt ≤ 487)) ∨ (501 ≤ a0.toInt ∧ a0.toInt ≤ 516) ∨ a0.toInt = 520)) ∨ (q_z.toInt = 0 ∧ ¬ ((0 ≤ a0.toInt ∧ a0.toInt ≤ 63) ∨ (100 ≤ a0.toInt ∧ a0.toInt ≤ 115) ∨ (216 ≤ a0.toInt ∧ a0.toInt ≤ 343) ∨ ((400 ≤ a0.toInt ∧ a0.toInt ≤ 431) ∨ (440 ≤ a0.toInt ∧ a0.toInt ≤ 455) ∨ (460 ≤ a0.toInt ∧ a0.toInt ≤ 468) ∨ (480 ≤ a0.toInt ∧ a0.toInt ≤ 487)) ∨ (501 ≤ a0.toInt ∧ a0.toInt ≤ 516) ∨ a0.toInt = 520)); omega)
              · rw [i_lt] at c_128
                have k_132 : (487 : Int32).toInt = 487 := by decide
                unfold Mod_isDescriptor_j56
                have k_133 : (1 : Int32).toInt = 1 := by decide
                refine So.imp (t_Mod_isDescriptor_j61 (by show ((1 : Int32).toInt = 0 ∧ ¬ ((400 ≤ a0.toInt ∧ a0.toInt ≤ 431) ∨ (440 ≤ a0.toInt ∧ a0.toInt ≤ 455) ∨ (460 ≤ a0.toInt ∧ a0.toInt ≤ 468) ∨ (480 ≤ a0.toInt ∧ a0.toInt ≤ 487))) ∨ ((1 : Int32).toInt = 1 ∧ ((400 ≤ a0.toInt ∧ a0.toInt ≤ 431) ∨ (440 ≤ a0.toInt ∧ a0.toInt ≤ 455) ∨ (460 ≤ a0.toInt ∧ a0.toInt ≤ 468) ∨ (480 ≤ a0.toInt ∧ a0.toInt ≤ 487))); omega)) fun q_z h_z => ?_
                have p_134 := h_z
                exact (by show (q_z.toInt = 1 ∧ ((0 ≤ a0.toInt ∧ a0.toInt ≤ 63) ∨ (100 ≤ a0.toInt ∧ a0.toInt ≤ 115) ∨ (216 ≤ a0.toInt ∧ a0.toInt ≤ 343) ∨ ((400 ≤ a0.toInt ∧ a0.toInt ≤ 431) ∨ (440 ≤ a0.toInt ∧ a0.toInt ≤ 455) ∨ (460 ≤ a0.toInt ∧ a0.toInt ≤ 468) ∨ (480 ≤ a0.toInt ∧ a0.toInt ≤ 487)) ∨ (501 ≤ a0.toInt ∧ a0.toInt ≤ 516) ∨ a0.toInt = 520)) ∨ (q_z.toInt = 0 ∧ ¬ ((0 ≤ a0.toInt ∧ a0.toInt ≤ 63) ∨ (100 ≤ a0.toInt ∧ a0.toInt ≤ 115) ∨ (216 ≤ a0.toInt ∧ a0.toInt ≤ 343) ∨ ((400 ≤ a0.toInt ∧ a0.toInt ≤ 431) ∨ (440 ≤ a0.toInt ∧ a0.toInt ≤ 455) ∨ (460 ≤ a0.toInt ∧ a0.toInt ≤ 468) ∨ (480 ≤ a0.toInt ∧ a0.toInt ≤ 487)) ∨ (501 ≤ a0.toInt ∧ a0.toInt ≤ 516) ∨ a0.toInt = 520)); omega)
          · rw [i_lt] at c_121
            have k_135 : (460 : Int32).toInt = 460 := by decide
            refine So.ite (fun c_136 => ?_) (fun c_136 => ?_)
            · rw [i_le] at c_136
              have k_137 : (468 : Int32).toInt = 468 := by decide
              unfold Mod_isDescriptor_j56
              have k_138 : (1 : Int32).toInt = 1 := by decide
              refine So.imp (t_Mod_isDescriptor_j61 (by show ((1 : Int32).toInt = 0 ∧ ¬ ((400 ≤ a0.toInt ∧ a0.toInt ≤ 431) ∨ (440 ≤ a0.toInt ∧ a0.toInt ≤ 455) ∨ (460 ≤ a0.toInt ∧ a0.toInt ≤ 468) ∨ (480 ≤ a0.toInt ∧ a0.toInt ≤ 487))) ∨ ((1 : Int32).toInt = 1 ∧ ((400 ≤ a0.toInt ∧ a0.toInt ≤ 431) ∨ (440 ≤ a0.toInt ∧ a0.toInt ≤ 455) ∨ (460 ≤ a0.toInt ∧ a0.toInt ≤ 468) ∨ (480 ≤ a0.toInt ∧ a0.toInt ≤ 487))); omega)) fun q_z h_z => ?_
              have p_139 := h_z
              exact (by show (q_z.toInt = 1 ∧ ((0 ≤ a0.toInt ∧ a0.toInt ≤ 63) ∨ (100 ≤ a0.toInt ∧ a0.toInt ≤ 115) ∨ (216 ≤ a0.toInt ∧ a0.toInt ≤ 343) ∨ ((400 ≤ a0.toInt ∧ a0.toInt ≤ 431) ∨ (440 ≤ a0.toInt ∧ a0.toInt ≤ 455) ∨ (460 ≤ a0.toInt ∧ a0.toInt ≤ 468) ∨ (480 ≤ a0.toInt ∧ a0.toInt ≤ 487)) ∨ (501 ≤ a0.toInt ∧ a0.toInt ≤ 516) ∨ a0.toInt = 520)) ∨ (q_z.toInt = 0 ∧ ¬ ((0 ≤ a0.toInt ∧ a0.toInt ≤ 63) ∨ (100 ≤ a0.toInt ∧ a0.toInt ≤ 115) ∨ (216 ≤ a0.toInt ∧ a0.toInt ≤ 343) ∨ ((400 ≤ a0.toInt ∧ a0.toInt ≤ 431) ∨ (440 ≤ a0.toInt ∧ a0.toInt ≤ 455) ∨ (460 ≤ a0.toInt ∧ a0.toInt ≤ 468) ∨ (480 ≤ a0.toInt ∧ a0.toInt ≤ 487)) ∨ (501 ≤ a0.toInt ∧ a0.toInt ≤ 516) ∨ a0.toInt = 520)); omega)
            · rw [i_le] at c_136
              have k_140 : (468 : Int32).toInt = 468 := by decide
              unfold Mod_isDescriptor_j42
              refine So.ite (fun c_141 => ?_) (fun c_141 => ?_)
              · rw [i_lt] at c_141
                have k_142 : (480 : Int32).toInt = 480 := by decide
                unfold Mod_isDescriptor_j60
                have k_143 : (0 : Int32).toInt = 0 := by decide
                refine So.imp (t_Mod_isDescriptor_j61 (by show ((0 : Int32).toInt = 0 ∧ ¬ ((400 ≤ a0.toInt ∧ a0.toInt ≤ 431) ∨ (440 ≤ a0.toInt ∧ a0.toInt ≤ 455) ∨ (460 ≤ a0.toInt ∧ a0.toInt ≤ 468) ∨ (480 ≤ a0.toInt ∧ a0.toInt ≤ 487))) ∨ ((0 : Int32).toInt = 1 ∧ ((400 ≤ a0.toInt ∧ a0.toInt ≤ 431) ∨ (440 ≤ a0.toInt ∧ a0.toInt ≤ 455) ∨ (460 ≤ a0.toInt ∧ a0.toInt ≤ 468) ∨ (480 ≤ a0.toInt ∧ a0.toInt ≤ 487))); omega)) fun q_z h_z => ?_
                have p_144 := h_z
                exact (by show (q_z.toInt = 1 ∧ ((0 ≤ a0.toInt ∧ a0.toInt ≤ 63) ∨ (100 ≤ a0.toInt ∧ a0.toInt ≤ 115) ∨ (216 ≤ a0.toInt ∧ a0.toInt ≤ 343) ∨ ((400 ≤ a0.toInt ∧ a0.toInt ≤ 431) ∨ (440 ≤ a0.toInt ∧ a0.toInt ≤ 455) ∨ (460 ≤ a0.toInt ∧ a0.toInt ≤ 468) ∨ (480 ≤ a0.toInt ∧ a0.toInt ≤ 487)) ∨ (501 ≤ a0.toInt ∧ a0.toInt ≤ 516) ∨ a0.toInt = 520)) ∨ (q_z.toInt = 0 ∧ ¬ ((0 ≤ a0.toInt ∧ a0.toInt ≤ 63) ∨ (100 ≤ a0.toInt ∧ a0.toInt ≤ 115) ∨ (216 ≤ a0.toInt ∧ a0.toInt ≤ 343) ∨ ((400 ≤ a0.toInt ∧ a0.toInt ≤ 431) ∨ (440 ≤ a0.toInt ∧ a0.toInt ≤ 455) ∨ (460 ≤ a0.toInt ∧ a0.toInt ≤ 468) ∨ (480 ≤ a0.toInt ∧ a0.toInt ≤ 487)) ∨ (501 ≤ a0.toInt ∧ a0.toInt ≤ 516) ∨ a0.toInt = 520)); omega)
              · rw [i_lt] at c_141
                have k_145 : (480 : Int32).toInt = 480 := by decide
                refine So.ite (fun c_146 => ?_) (fun c_146 => ?_)
                · rw [i_lt] at c_146
                  have k_147 : (487 : Int32).toInt = 487 := by decide
                  unfold Mod_isDescriptor_j60
                  have k_148 : (0 : Int32).toInt = 0 := by decide
                  refine So.imp (t_Mod_isDescriptor_j61 (by show ((0 : Int32).toInt = 0 ∧ ¬ ((400 ≤ a0.toInt ∧ a0.toInt ≤ 431) ∨ (440 ≤ a0.toInt ∧ a0.toInt ≤ 455) ∨ (460 ≤ a0.toInt ∧ a0.toInt ≤ 468) ∨ (480 ≤ a0.toInt ∧ a0.toInt ≤ 487))) ∨ ((0 : Int32).toInt = 1 ∧ ((400 ≤ a0.toInt ∧ a0.toInt ≤ 431) ∨ (440 ≤ a0.toInt ∧ a0.toInt ≤ 455) ∨ (460 ≤ a0.toInt ∧ a0.toInt ≤ 468) ∨ (480 ≤ a0.toInt ∧ a0.toInt ≤ 487))); omega)) fun q_z h_z => ?_
                  have p_149 := h_z
                  exact (by show (q_z.toInt = 1 ∧ ((0 ≤ a0.toInt ∧ a0.toInt ≤ 63) ∨ (100 ≤ a0.toInt ∧ a0.toInt ≤ 115) ∨ (216 ≤ a0.toInt ∧ a0.toInt ≤ 343) ∨ ((400 ≤ a0.toInt ∧ a0.toInt ≤ 431) ∨ (440 ≤ a0.toInt ∧ a0.toInt ≤ 455) ∨ (460 ≤ a0.toInt ∧ a0.toInt ≤ 468) ∨ (480 ≤ a0.toInt ∧ a0.toInt ≤ 487)) ∨ (501 ≤ a0.toInt ∧ a0.toInt ≤ 516) ∨ a0.toInt = 520)) ∨ (q_z.toInt = 0 ∧ ¬ ((0 ≤ a0.toInt ∧ a0.toInt ≤ 63) ∨ (100 ≤ a0.toInt ∧ a0.toInt ≤ 115) ∨ (216 ≤ a0.toInt ∧ a0.toInt ≤ 343) ∨ ((400 ≤ a0.toInt ∧ a0.toInt ≤ 431) ∨ (440 ≤ a0.toInt ∧ a0.toInt ≤ 455) ∨ (460 ≤ a0.toInt ∧ a0.toInt ≤ 468) ∨ (480 ≤ a0.toInt ∧ a0.toInt ≤ 487)) ∨ (501 ≤ a0.toInt ∧ a0.toInt ≤ 516) ∨ a0.toInt = 520)); omega)
                · rw [i_lt] at c_146
                  have k_150 : (487 : Int32).toInt = 487 := by decide
                  unfold Mod_isDescriptor_j56
                  have k_151 : (1 : Int32).toInt = 1 := by decide
                  refine So.imp (t_Mod_isDescriptor_j61 (by show ((1 : Int32).toInt = 0 ∧ ¬ ((400 ≤ a0.toInt ∧ a0.toInt ≤ 431) ∨ (440 ≤ a0.toInt ∧ a0.toInt ≤ 455) ∨ (460 ≤ a0.toInt ∧ a0.toInt ≤ 468) ∨ (480 ≤ a0.toInt ∧ a0.toInt ≤ 487))) ∨ ((1 : Int32).toInt = 1 ∧ ((400 ≤ a0.toInt ∧ a0.toInt ≤ 431) ∨ (440 ≤ a0.toInt ∧ a0.toInt ≤ 455) ∨ (460 ≤ a0.toInt ∧ a0.toInt ≤ 468) ∨ (480 ≤ a0.toInt ∧ a0.toInt ≤ 487))); omega)) fun q_z h_z => ?_
                  have p_152 := h_z
                  exact (by show (q_z.toInt = 1 ∧ ((0 ≤ a0.toInt ∧ a0.toInt ≤ 63) ∨ (100 ≤ a0.toInt ∧ a0.toInt ≤ 115) ∨ (216 ≤ a0.toInt ∧ a0.toInt ≤ 343) ∨ ((400 ≤ a0.toInt ∧ a0.toInt ≤ 431) ∨ (440 ≤ a0.toInt ∧ a0.toInt ≤ 455) ∨ (460 ≤ a0.toInt ∧ a0.toInt ≤ 468) ∨ (480 ≤ a0.toInt ∧ a0.toInt ≤ 487)) ∨ (501 ≤ a0.toInt ∧ a0.toInt ≤ 516) ∨ a0.toInt = 520)) ∨ (q_z.toInt = 0 ∧ ¬ ((0 ≤ a0.toInt ∧ a0.toInt ≤ 63) ∨ (100 ≤ a0.toInt ∧ a0.toInt ≤ 115) ∨ (216 ≤ a0.toInt ∧ a0.toInt ≤ 343) ∨ ((400 ≤ a0.toInt ∧ a0.toInt ≤ 431) ∨ (440 ≤ a0.toInt ∧ a0.toInt ≤ 455) ∨ (460 ≤ a0.toInt ∧ a0.toInt ≤ 468) ∨ (480 ≤ a0.toInt ∧ a0.toInt ≤ 487)) ∨ (501 ≤ a0.toInt ∧ a0.toInt ≤ 516) ∨ a0.toInt = 520)); omega)
theorem t_Mod_operator {a0 : Int32}  : So (Mod_operator a0) (fun r => ((r.toInt = -1 ∧ ¬ (400 ≤ a0.toInt ∧ a0.toInt ≤ 487)) ∨ (0 ≤ r.toInt ∧ r.toInt ≤ 3 ∧ 400 ≤ a0.toInt ∧ a0.toInt ≤ 487 ∧ (r.toInt < 2 ∨ 460 ≤ a0.toInt)))) := by
  unfold Mod_operator
  refine So.ite (fun c_1 => ?_) (fun c_1 => ?_)
  · rw [i_lt] at c_1
    have k_2 : (400 : Int32).toInt = 400 := by decide
    have k_3 : ((-1) : Int32).toInt = -1 := by decide
    exact So.one (by show (((-1) : Int32).toInt = -1 ∧ ¬ (400 ≤ a0.toInt ∧ a0.toInt ≤ 487)) ∨ (0 ≤ ((-1) : Int32).toInt ∧ ((-1) : Int32).toInt ≤ 3 ∧ 400 ≤ a0.toInt ∧ a0.toInt ≤ 487 ∧ (((-1) : Int32).toInt < 2 ∨ 460 ≤ a0.toInt)); omega)
  · rw [i_lt] at c_1
    have k_4 : (400 : Int32).toInt = 400 := by decide
    refine So.ite (fun c_5 => ?_) (fun c_5 => ?_)
    · rw [i_le] at c_5
      have k_6 : (487 : Int32).toInt = 487 := by decide
      refine So.ite (fun c_7 => ?_) (fun c_7 => ?_)
      · rw [i_le] at c_7
        have k_8 : (440 : Int32).toInt = 440 := by decide
        refine So.ite (fun c_9 => ?_) (fun c_9 => ?_)
        · rw [i_le] at c_9
          have k_10 : (460 : Int32).toInt = 460 := by decide
          refine So.ite (fun c_11 => ?_) (fun c_11 => ?_)
          · rw [i_le] at c_11
            have k_12 : (480 : Int32).toInt = 480 := by decide
            have k_13 : (3 : Int32).toInt = 3 := by decide
            exact So.one (by show ((3 : Int32).toInt = -1 ∧ ¬ (400 ≤ a0.toInt ∧ a0.toInt ≤ 487)) ∨ (0 ≤ (3 : Int32).toInt ∧ (3 : Int32).toInt ≤ 3 ∧ 400 ≤ a0.toInt ∧ a0.toInt ≤ 487 ∧ ((3 : Int32).toInt < 2 ∨ 460 ≤ a0.toInt)); omega)
          · rw [i_le] at c_11
            have k_14 : (480 : Int32).toInt = 480 := by decide
            have k_15 : (2 : Int32).toInt = 2 := by decide
            exact So.one (by show ((2 : Int32).toInt = -1 ∧ ¬ (400 ≤ a0.toInt ∧ a0.toInt ≤ 487)) ∨ (0 ≤ (2 : Int32).toInt ∧ (2 : Int32).toInt ≤ 3 ∧ 400 ≤ a0.toInt ∧ a0.toInt ≤ 487 ∧ ((2 : Int32).toInt < 2 ∨ 460 ≤ a0.toInt)); omega)
        · rw [i_le] at c_9
          have k_16 : (460 : Int32).toInt = 460 := by decide
          have k_17 : (1 : Int32).toInt = 1 := by decide
          exact So.one (by show ((1 : Int32).toInt = -1 ∧ ¬ (400 ≤ a0.toInt ∧ a0.toInt ≤ 487)) ∨ (0 ≤ (1 : Int32).toInt ∧ (1 : Int32).toInt ≤ 3 ∧ 400 ≤ a0.toInt ∧ a0.toInt ≤ 487 ∧ ((1 : Int32).toInt < 2 ∨ 460 ≤ a0.toInt)); omega)
      · rw [i_le] at c_7
        have k_18 : (440 : Int32).toInt = 440 := by decide
        have k_19 : (0 : Int32).toInt = 0 := by decide
        exact So.one (by show ((0 : Int32).toInt = -1 ∧ ¬ (400 ≤ a0.toInt ∧ a0.toInt ≤ 487)) ∨ (0 ≤ (0 : Int32).toInt ∧ (0 : Int32).toInt ≤ 3 ∧ 400 ≤ a0.toInt ∧ a0.toInt ≤ 487 ∧ ((0 : Int32).toInt < 2 ∨ 460 ≤ a0.toInt)); omega)
    · rw [i_le] at c_5
      have k_20 : (487 : Int32).toInt = 487 := by decide
      have k_21 : ((-1) : Int32).toInt = -1 := by decide
      exact So.one (by show (((-1) : Int32).toInt = -1 ∧ ¬ (400 ≤ a0.toInt ∧ a0.toInt ≤ 487)) ∨ (0 ≤ ((-1) : Int32).toInt ∧ ((-1) : Int32).toInt ≤ 3 ∧ 400 ≤ a0.toInt ∧ a0.toInt ≤ 487 ∧ (((-1) : Int32).toInt < 2 ∨ 460 ≤ a0.toInt)); omega)
theorem t_Mod_append {a0 : Int32} {a1 : Int32} {sMo : S_Mo} {sMlists : (Nat → Int32)} {sMlengths : (Nat → Int32)} (I_sMo : I_Mo sMo) (I_sMlists : A_Mlists sMlists) (I_sMlengths : A_Mlengths sMlengths) : So (Mod_append a0 a1 sMo sMlists sMlengths) (fun r => I_Mo r.2.1 ∧ A_Mlists r.2.2.1 ∧ A_Mlengths r.2.2.2 ∧ (0 ≤ (Mo_thrown r.2.1).toInt) ∧ ((Mo_thrown r.2.1).toInt ≤ 2) ∧ ((Mo_taped r.2.1).toInt = (Mo_taped sMo).toInt)) := by
  unfold Mod_append
  refine So.ite (fun c_1 => ?_) (fun c_1 => ?_)
  · rw [i_lt] at c_1
    have k_2 : ((-1) : Int32).toInt = -1 := by decide
    unfold Mod_append_j19
    unfold Mod_append_j24
    refine So.lt2 fun sMo_5 e_3 => ?_
    have I_4 : I_Mo sMo_5 := by rw [e_3]; exact (I_Mo_set_thrown I_sMo)
    have k_5 : (1 : Int32).toInt = 1 := by decide
    have f_6 : (Mo_thrown sMo_5).toInt = (1 : Int32).toInt := by subst e_3; rfl
    have f_7 : (Mo_taped sMo_5).toInt = (Mo_taped sMo).toInt := by subst e_3; rfl
    refine So.ite (fun c_8 => ?_) (fun c_8 => ?_)
    · rw [i_le] at c_8
      have k_9 : (0 : Int32).toInt = 0 := by decide
      unfold Mod_append_j37
      refine So.ite (fun c_10 => ?_) (fun c_10 => ?_)
      · rw [i_eq] at c_10
        refine So.gd (i_in.mpr (by omega)) ?_
        refine So.ite (fun c_11 => ?_) (fun c_11 => ?_)
        · rw [i_le] at c_11
          unfold Mod_append_j62
          refine So.ite (fun c_12 => ?_) (fun c_12 => ?_)
          · rw [i_eq] at c_12
            have f_13 := A_Mlengths_at I_sMlengths (a0.toNatClampNeg)
            have f_14 := i_natm a0
            have k_15 : (8 : Int32).toInt = 8 := by decide
            refine So.lt2 fun sMo_10 e_16 => ?_
            have I_17 : I_Mo sMo_10 := by rw [e_16]; exact (I_Mo_set_thrown I_4)
            have k_18 : (2 : Int32).toInt = 2 := by decide
            have f_19 : (Mo_thrown sMo_10).toInt = (2 : Int32).toInt := by subst e_16; rfl
            have f_20 : (Mo_taped sMo_10).toInt = (Mo_taped sMo_5).toInt := by subst e_16; rfl
            unfold Mod_append_j70
            refine So.ite (fun c_21 => ?_) (fun c_21 => ?_)
            · rw [i_le] at c_21
              refine So.gd (i_in.mpr (by omega)) ?_
              have k_22 : (24 : Int32).toInt = 24 := by decide
              first | have f_23 := i_mull 24 a0 (24) (by decide) (by omega) (by omega) | have f_23 := i_mullm 24 a0 (24) (by decide)
              first | have f_24 := i_add (a := (24 * a0)) (b := (sMlengths (a0.toNatClampNeg))) (by omega) (by omega) | have f_24 := i_addm (24 * a0) (sMlengths (a0.toNatClampNeg))
              refine So.gd (i_in.mpr (by omega)) ?_
              refine So.lt2 fun sMlists_14 e_25 => ?_
              have f_26 := i_natm ((24 * a0) + (sMlengths (a0.toNatClampNeg)))
              have I_27 : A_Mlists sMlists_14 := by rw [e_25]; exact (A_Mlists_upd I_sMlists (by show (0 ≤ (a1 : Int32).toInt ∧ (a1 : Int32).toInt ≤ 63) ∨ (100 ≤ (a1 : Int32).toInt ∧ (a1 : Int32).toInt ≤ 115) ∨ (216 ≤ (a1 : Int32).toInt ∧ (a1 : Int32).toInt ≤ 343) ∨ (400 ≤ (a1 : Int32).toInt ∧ (a1 : Int32).toInt ≤ 487) ∨ (501 ≤ (a1 : Int32).toInt ∧ (a1 : Int32).toInt ≤ 516) ∨ (a1 : Int32).toInt = 520; omega))
              refine So.gd (i_in.mpr (by omega)) ?_
              refine So.gd (i_in.mpr (by omega)) ?_
              refine So.lt2 fun sMlengths_17 e_28 => ?_
              first | have f_29 := i_add (a := (sMlengths (a0.toNatClampNeg))) (b := 1) (by omega) (by omega) | have f_29 := i_addm (sMlengths (a0.toNatClampNeg)) 1
              have I_30 : A_Mlengths sMlengths_17 := by rw [e_28]; exact (A_Mlengths_upd I_sMlengths (by show 0 ≤ (((sMlengths (a0.toNatClampNeg)) + 1) : Int32).toInt ∧ (((sMlengths (a0.toNatClampNeg)) + 1) : Int32).toInt ≤ 24 ∧ ((a0.toNatClampNeg) < 16 → (((sMlengths (a0.toNatClampNeg)) + 1) : Int32).toInt ≤ 8); omega))
              refine So.gd (i_in.mpr (by omega)) ?_
              exact So.one ⟨I_17, I_27, I_30, (by show 0 ≤ (Mo_thrown sMo_10).toInt; omega), (by show (Mo_thrown sMo_10).toInt ≤ 2; omega), (by show (Mo_taped sMo_10).toInt = (Mo_taped sMo).toInt; omega)⟩
            · rw [i_le] at c_21
              exact So.one ⟨I_17, I_sMlists, I_sMlengths, (by show 0 ≤ (Mo_thrown sMo_10).toInt; omega), (by show (Mo_thrown sMo_10).toInt ≤ 2; omega), (by show (Mo_taped sMo_10).toInt = (Mo_taped sMo).toInt; omega)⟩
          · rw [i_eq] at c_12
            have f_31 := A_Mlengths_at I_sMlengths (a0.toNatClampNeg)
            have f_32 := i_natm a0
            have k_33 : (8 : Int32).toInt = 8 := by decide
            unfold Mod_append_j70
            refine So.ite (fun c_34 => ?_) (fun c_34 => ?_)
            · rw [i_le] at c_34
              refine So.gd (i_in.mpr (by omega)) ?_
              have k_35 : (24 : Int32).toInt = 24 := by decide
              first | have f_36 := i_mull 24 a0 (24) (by decide) (by omega) (by omega) | have f_36 := i_mullm 24 a0 (24) (by decide)
              first | have f_37 := i_add (a := (24 * a0)) (b := (sMlengths (a0.toNatClampNeg))) (by omega) (by omega) | have f_37 := i_addm (24 * a0) (sMlengths (a0.toNatClampNeg))
              refine So.gd (i_in.mpr (by omega)) ?_
              refine So.lt2 fun sMlists_14 e_38 => ?_
              have f_39 := i_natm ((24 * a0) + (sMlengths (a0.toNatClampNeg)))
              have I_40 : A_Mlists sMlists_14 := by rw [e_38]; exact (A_Mlists_upd I_sMlists (by show (0 ≤ (a1 : Int32).toInt ∧ (a1 : Int32).toInt ≤ 63) ∨ (100 ≤ (a1 : Int32).toInt ∧ (a1 : Int32).toInt ≤ 115) ∨ (216 ≤ (a1 : Int32).toInt ∧ (a1 : Int32).toInt ≤ 343) ∨ (400 ≤ (a1 : Int32).toInt ∧ (a1 : Int32).toInt ≤ 487) ∨ (501 ≤ (a1 : Int32).toInt ∧ (a1 : Int32).toInt ≤ 516) ∨ (a1 : Int32).toInt = 520; omega))
              refine So.gd (i_in.mpr (by omega)) ?_
              refine So.gd (i_in.mpr (by omega)) ?_
              refine So.lt2 fun sMlengths_17 e_41 => ?_
              first | have f_42 := i_add (a := (sMlengths (a0.toNatClampNeg))) (b := 1) (by omega) (by omega) | have f_42 := i_addm (sMlengths (a0.toNatClampNeg)) 1
              have I_43 : A_Mlengths sMlengths_17 := by rw [e_41]; exact (A_Mlengths_upd I_sMlengths (by show 0 ≤ (((sMlengths (a0.toNatClampNeg)) + 1) : Int32).toInt ∧ (((sMlengths (a0.toNatClampNeg)) + 1) : Int32).toInt ≤ 24 ∧ ((a0.toNatClampNeg) < 16 → (((sMlengths (a0.toNatClampNeg)) + 1) : Int32).toInt ≤ 8); omega))
              refine So.gd (i_in.mpr (by omega)) ?_
              exact So.one ⟨I_4, I_40, I_43, (by show 0 ≤ (Mo_thrown sMo_5).toInt; omega), (by show (Mo_thrown sMo_5).toInt ≤ 2; omega), (by show (Mo_taped sMo_5).toInt = (Mo_taped sMo).toInt; omega)⟩
            · rw [i_le] at c_34
              exact So.one ⟨I_4, I_sMlists, I_sMlengths, (by show 0 ≤ (Mo_thrown sMo_5).toInt; omega), (by show (Mo_thrown sMo_5).toInt ≤ 2; omega), (by show (Mo_taped sMo_5).toInt = (Mo_taped sMo).toInt; omega)⟩
        · rw [i_le] at c_11
          unfold Mod_append_j62
          refine So.ite (fun c_44 => ?_) (fun c_44 => ?_)
          · rw [i_eq] at c_44
            have f_45 := A_Mlengths_at I_sMlengths (a0.toNatClampNeg)
            have f_46 := i_natm a0
            have k_47 : (24 : Int32).toInt = 24 := by decide
            refine So.lt2 fun sMo_10 e_48 => ?_
            have I_49 : I_Mo sMo_10 := by rw [e_48]; exact (I_Mo_set_thrown I_4)
            have k_50 : (2 : Int32).toInt = 2 := by decide
            have f_51 : (Mo_thrown sMo_10).toInt = (2 : Int32).toInt := by subst e_48; rfl
            have f_52 : (Mo_taped sMo_10).toInt = (Mo_taped sMo_5).toInt := by subst e_48; rfl
            unfold Mod_append_j70
            refine So.ite (fun c_53 => ?_) (fun c_53 => ?_)
            · rw [i_le] at c_53
              refine So.gd (i_in.mpr (by omega)) ?_
              first | have f_54 := i_mull 24 a0 (24) (by decide) (by omega) (by omega) | have f_54 := i_mullm 24 a0 (24) (by decide)
              first | have f_55 := i_add (a := (24 * a0)) (b := (sMlengths (a0.toNatClampNeg))) (by omega) (by omega) | have f_55 := i_addm (24 * a0) (sMlengths (a0.toNatClampNeg))
              refine So.gd (i_in.mpr (by omega)) ?_
              refine So.lt2 fun sMlists_14 e_56 => ?_
              have f_57 := i_natm ((24 * a0) + (sMlengths (a0.toNatClampNeg)))
              have I_58 : A_Mlists sMlists_14 := by rw [e_56]; exact (A_Mlists_upd I_sMlists (by show (0 ≤ (a1 : Int32).toInt ∧ (a1 : Int32).toInt ≤ 63) ∨ (100 ≤ (a1 : Int32).toInt ∧ (a1 : Int32).toInt ≤ 115) ∨ (216 ≤ (a1 : Int32).toInt ∧ (a1 : Int32).toInt ≤ 343) ∨ (400 ≤ (a1 : Int32).toInt ∧ (a1 : Int32).toInt ≤ 487) ∨ (501 ≤ (a1 : Int32).toInt ∧ (a1 : Int32).toInt ≤ 516) ∨ (a1 : Int32).toInt = 520; omega))
              refine So.gd (i_in.mpr (by omega)) ?_
              refine So.gd (i_in.mpr (by omega)) ?_
              refine So.lt2 fun sMlengths_17 e_59 => ?_
              first | have f_60 := i_add (a := (sMlengths (a0.toNatClampNeg))) (b := 1) (by omega) (by omega) | have f_60 := i_addm (sMlengths (a0.toNatClampNeg)) 1
              have I_61 : A_Mlengths sMlengths_17 := by rw [e_59]; exact (A_Mlengths_upd I_sMlengths (by show 0 ≤ (((sMlengths (a0.toNatClampNeg)) + 1) : Int32).toInt ∧ (((sMlengths (a0.toNatClampNeg)) + 1) : Int32).toInt ≤ 24 ∧ ((a0.toNatClampNeg) < 16 → (((sMlengths (a0.toNatClampNeg)) + 1) : Int32).toInt ≤ 8); omega))
              refine So.gd (i_in.mpr (by omega)) ?_
              exact So.one ⟨I_49, I_58, I_61, (by show 0 ≤ (Mo_thrown sMo_10).toInt; omega), (by show (Mo_thrown sMo_10).toInt ≤ 2; omega), (by show (Mo_taped sMo_10).toInt = (Mo_taped sMo).toInt; omega)⟩
            · rw [i_le] at c_53
              exact So.one ⟨I_49, I_sMlists, I_sMlengths, (by show 0 ≤ (Mo_thrown sMo_10).toInt; omega), (by show (Mo_thrown sMo_10).toInt ≤ 2; omega), (by show (Mo_taped sMo_10).toInt = (Mo_taped sMo).toInt; omega)⟩
          · rw [i_eq] at c_44
            have f_62 := A_Mlengths_at I_sMlengths (a0.toNatClampNeg)
            have f_63 := i_natm a0
            have k_64 : (24 : Int32).toInt = 24 := by decide
            unfold Mod_append_j70
            refine So.ite (fun c_65 => ?_) (fun c_65 => ?_)
            · rw [i_le] at c_65
              refine So.gd (i_in.mpr (by omega)) ?_
              first | have f_66 := i_mull 24 a0 (24) (by decide) (by omega) (by omega) | have f_66 := i_mullm 24 a0 (24) (by decide)
              first | have f_67 := i_add (a := (24 * a0)) (b := (sMlengths (a0.toNatClampNeg))) (by omega) (by omega) | have f_67 := i_addm (24 * a0) (sMlengths (a0.toNatClampNeg))
              refine So.gd (i_in.mpr (by omega)) ?_
              refine So.lt2 fun sMlists_14 e_68 => ?_
              have f_69 := i_natm ((24 * a0) + (sMlengths (a0.toNatClampNeg)))
              have I_70 : A_Mlists sMlists_14 := by rw [e_68]; exact (A_Mlists_upd I_sMlists (by show (0 ≤ (a1 : Int32).toInt ∧ (a1 : Int32).toInt ≤ 63) ∨ (100 ≤ (a1 : Int32).toInt ∧ (a1 : Int32).toInt ≤ 115) ∨ (216 ≤ (a1 : Int32).toInt ∧ (a1 : Int32).toInt ≤ 343) ∨ (400 ≤ (a1 : Int32).toInt ∧ (a1 : Int32).toInt ≤ 487) ∨ (501 ≤ (a1 : Int32).toInt ∧ (a1 : Int32).toInt ≤ 516) ∨ (a1 : Int32).toInt = 520; omega))
              refine So.gd (i_in.mpr (by omega)) ?_
              refine So.gd (i_in.mpr (by omega)) ?_
              refine So.lt2 fun sMlengths_17 e_71 => ?_
              first | have f_72 := i_add (a := (sMlengths (a0.toNatClampNeg))) (b := 1) (by omega) (by omega) | have f_72 := i_addm (sMlengths (a0.toNatClampNeg)) 1
              have I_73 : A_Mlengths sMlengths_17 := by rw [e_71]; exact (A_Mlengths_upd I_sMlengths (by show 0 ≤ (((sMlengths (a0.toNatClampNeg)) + 1) : Int32).toInt ∧ (((sMlengths (a0.toNatClampNeg)) + 1) : Int32).toInt ≤ 24 ∧ ((a0.toNatClampNeg) < 16 → (((sMlengths (a0.toNatClampNeg)) + 1) : Int32).toInt ≤ 8); omega))
              refine So.gd (i_in.mpr (by omega)) ?_
              exact So.one ⟨I_4, I_70, I_73, (by show 0 ≤ (Mo_thrown sMo_5).toInt; omega), (by show (Mo_thrown sMo_5).toInt ≤ 2; omega), (by show (Mo_taped sMo_5).toInt = (Mo_taped sMo).toInt; omega)⟩
            · rw [i_le] at c_65
              exact So.one ⟨I_4, I_sMlists, I_sMlengths, (by show 0 ≤ (Mo_thrown sMo_5).toInt; omega), (by show (Mo_thrown sMo_5).toInt ≤ 2; omega), (by show (Mo_taped sMo_5).toInt = (Mo_taped sMo).toInt; omega)⟩
      · rw [i_eq] at c_10
        unfold Mod_append_j70
        refine So.ite (fun c_74 => ?_) (fun c_74 => ?_)
        · rw [i_le] at c_74
          refine So.gd (i_in.mpr (by omega)) ?_
          have k_75 : (24 : Int32).toInt = 24 := by decide
          first | have f_76 := i_mull 24 a0 (24) (by decide) (by omega) (by omega) | have f_76 := i_mullm 24 a0 (24) (by decide)
          have f_77 := A_Mlengths_at I_sMlengths (a0.toNatClampNeg)
          have f_78 := i_natm a0
          first | have f_79 := i_add (a := (24 * a0)) (b := (sMlengths (a0.toNatClampNeg))) (by omega) (by omega) | have f_79 := i_addm (24 * a0) (sMlengths (a0.toNatClampNeg))
          refine So.gd (i_in.mpr (by omega)) ?_
          refine So.lt2 fun sMlists_14 e_80 => ?_
          have f_81 := i_natm ((24 * a0) + (sMlengths (a0.toNatClampNeg)))
          have I_82 : A_Mlists sMlists_14 := by rw [e_80]; exact (A_Mlists_upd I_sMlists (by show (0 ≤ (a1 : Int32).toInt ∧ (a1 : Int32).toInt ≤ 63) ∨ (100 ≤ (a1 : Int32).toInt ∧ (a1 : Int32).toInt ≤ 115) ∨ (216 ≤ (a1 : Int32).toInt ∧ (a1 : Int32).toInt ≤ 343) ∨ (400 ≤ (a1 : Int32).toInt ∧ (a1 : Int32).toInt ≤ 487) ∨ (501 ≤ (a1 : Int32).toInt ∧ (a1 : Int32).toInt ≤ 516) ∨ (a1 : Int32).toInt = 520; omega))
          refine So.gd (i_in.mpr (by omega)) ?_
          refine So.gd (i_in.mpr (by omega)) ?_
          refine So.lt2 fun sMlengths_17 e_83 => ?_
          first | have f_84 := i_add (a := (sMlengths (a0.toNatClampNeg))) (b := 1) (by omega) (by omega) | have f_84 := i_addm (sMlengths (a0.toNatClampNeg)) 1
          have I_85 : A_Mlengths sMlengths_17 := by rw [e_83]; exact (A_Mlengths_upd I_sMlengths (by show 0 ≤ (((sMlengths (a0.toNatClampNeg)) + 1) : Int32).toInt ∧ (((sMlengths (a0.toNatClampNeg)) + 1) : Int32).toInt ≤ 24 ∧ ((a0.toNatClampNeg) < 16 → (((sMlengths (a0.toNatClampNeg)) + 1) : Int32).toInt ≤ 8); omega))
          refine So.gd (i_in.mpr (by omega)) ?_
          exact So.one ⟨I_4, I_82, I_85, (by show 0 ≤ (Mo_thrown sMo_5).toInt; omega), (by show (Mo_thrown sMo_5).toInt ≤ 2; omega), (by show (Mo_taped sMo_5).toInt = (Mo_taped sMo).toInt; omega)⟩
        · rw [i_le] at c_74
          exact So.one ⟨I_4, I_sMlists, I_sMlengths, (by show 0 ≤ (Mo_thrown sMo_5).toInt; omega), (by show (Mo_thrown sMo_5).toInt ≤ 2; omega), (by show (Mo_taped sMo_5).toInt = (Mo_taped sMo).toInt; omega)⟩
    · rw [i_le] at c_8
      have k_86 : (0 : Int32).toInt = 0 := by decide
      unfold Mod_append_j37
      refine So.ite (fun c_87 => ?_) (fun c_87 => ?_)
      · rw [i_eq] at c_87
        have k_88 : (16 : Int32).toInt = 16 := by decide
        refine So.gd (i_in.mpr (by omega)) ?_
        refine So.ite (fun c_89 => ?_) (fun c_89 => ?_)
        · rw [i_le] at c_89
          unfold Mod_append_j62
          refine So.ite (fun c_90 => ?_) (fun c_90 => ?_)
          · rw [i_eq] at c_90
            have f_91 := A_Mlengths_at I_sMlengths ((16 : Int32).toNatClampNeg)
            have f_92 := i_natm (16 : Int32)
            have k_93 : (8 : Int32).toInt = 8 := by decide
            refine So.lt2 fun sMo_10 e_94 => ?_
            have I_95 : I_Mo sMo_10 := by rw [e_94]; exact (I_Mo_set_thrown I_4)
            have k_96 : (2 : Int32).toInt = 2 := by decide
            have f_97 : (Mo_thrown sMo_10).toInt = (2 : Int32).toInt := by subst e_94; rfl
            have f_98 : (Mo_taped sMo_10).toInt = (Mo_taped sMo_5).toInt := by subst e_94; rfl
            unfold Mod_append_j70
            refine So.ite (fun c_99 => ?_) (fun c_99 => ?_)
            · rw [i_le] at c_99
              refine So.gd (i_in.mpr (by omega)) ?_
              have k_100 : ((24 * 16) : Int32).toInt = 384 := by decide
              first | have f_101 := i_add (a := ((24 * 16) : Int32)) (b := (sMlengths ((16 : Int32).toNatClampNeg))) (by omega) (by omega) | have f_101 := i_addm ((24 * 16) : Int32) (sMlengths ((16 : Int32).toNatClampNeg))
              refine So.gd (i_in.mpr (by omega)) ?_
              refine So.lt2 fun sMlists_14 e_102 => ?_
              have f_103 := i_natm ((24 * 16) + (sMlengths ((16 : Int32).toNatClampNeg)))
              have I_104 : A_Mlists sMlists_14 := by rw [e_102]; exact (A_Mlists_upd I_sMlists (by show (0 ≤ (a1 : Int32).toInt ∧ (a1 : Int32).toInt ≤ 63) ∨ (100 ≤ (a1 : Int32).toInt ∧ (a1 : Int32).toInt ≤ 115) ∨ (216 ≤ (a1 : Int32).toInt ∧ (a1 : Int32).toInt ≤ 343) ∨ (400 ≤ (a1 : Int32).toInt ∧ (a1 : Int32).toInt ≤ 487) ∨ (501 ≤ (a1 : Int32).toInt ∧ (a1 : Int32).toInt ≤ 516) ∨ (a1 : Int32).toInt = 520; omega))
              refine So.gd (i_in.mpr (by omega)) ?_
              refine So.gd (i_in.mpr (by omega)) ?_
              refine So.lt2 fun sMlengths_17 e_105 => ?_
              first | have f_106 := i_add (a := (sMlengths ((16 : Int32).toNatClampNeg))) (b := 1) (by omega) (by omega) | have f_106 := i_addm (sMlengths ((16 : Int32).toNatClampNeg)) 1
              have I_107 : A_Mlengths sMlengths_17 := by rw [e_105]; exact (A_Mlengths_upd I_sMlengths (by show 0 ≤ (((sMlengths ((16 : Int32).toNatClampNeg)) + 1) : Int32).toInt ∧ (((sMlengths ((16 : Int32).toNatClampNeg)) + 1) : Int32).toInt ≤ 24 ∧ (((16 : Int32).toNatClampNeg) < 16 → (((sMlengths ((16 : Int32).toNatClampNeg)) + 1) : Int32).toInt ≤ 8); omega))
              refine So.gd (i_in.mpr (by omega)) ?_
              exact So.one ⟨I_95, I_104, I_107, (by show 0 ≤ (Mo_thrown sMo_10).toInt; omega), (by show (Mo_thrown sMo_10).toInt ≤ 2; omega), (by show (Mo_taped sMo_10).toInt = (Mo_taped sMo).toInt; omega)⟩
            · rw [i_le] at c_99
              exact So.one ⟨I_95, I_sMlists, I_sMlengths, (by show 0 ≤ (Mo_thrown sMo_10).toInt; omega), (by show (Mo_thrown sMo_10).toInt ≤ 2; omega), (by show (Mo_taped sMo_10).toInt = (Mo_taped sMo).toInt; omega)⟩
          · rw [i_eq] at c_90
            have f_108 := A_Mlengths_at I_sMlengths ((16 : Int32).toNatClampNeg)
            have f_109 := i_natm (16 : Int32)
            have k_110 : (8 : Int32).toInt = 8 := by decide
            unfold Mod_append_j70
            refine So.ite (fun c_111 => ?_) (fun c_111 => ?_)
            · rw [i_le] at c_111
              refine So.gd (i_in.mpr (by omega)) ?_
              have k_112 : ((24 * 16) : Int32).toInt = 384 := by decide
              first | have f_113 := i_add (a := ((24 * 16) : Int32)) (b := (sMlengths ((16 : Int32).toNatClampNeg))) (by omega) (by omega) | have f_113 := i_addm ((24 * 16) : Int32) (sMlengths ((16 : Int32).toNatClampNeg))
              refine So.gd (i_in.mpr (by omega)) ?_
              refine So.lt2 fun sMlists_14 e_114 => ?_
              have f_115 := i_natm ((24 * 16) + (sMlengths ((16 : Int32).toNatClampNeg)))
              have I_116 : A_Mlists sMlists_14 := by rw [e_114]; exact (A_Mlists_upd I_sMlists (by show (0 ≤ (a1 : Int32).toInt ∧ (a1 : Int32).toInt ≤ 63) ∨ (100 ≤ (a1 : Int32).toInt ∧ (a1 : Int32).toInt ≤ 115) ∨ (216 ≤ (a1 : Int32).toInt ∧ (a1 : Int32).toInt ≤ 343) ∨ (400 ≤ (a1 : Int32).toInt ∧ (a1 : Int32).toInt ≤ 487) ∨ (501 ≤ (a1 : Int32).toInt ∧ (a1 : Int32).toInt ≤ 516) ∨ (a1 : Int32).toInt = 520; omega))
              refine So.gd (i_in.mpr (by omega)) ?_
              refine So.gd (i_in.mpr (by omega)) ?_
              refine So.lt2 fun sMlengths_17 e_117 => ?_
              first | have f_118 := i_add (a := (sMlengths ((16 : Int32).toNatClampNeg))) (b := 1) (by omega) (by omega) | have f_118 := i_addm (sMlengths ((16 : Int32).toNatClampNeg)) 1
              have I_119 : A_Mlengths sMlengths_17 := by rw [e_117]; exact (A_Mlengths_upd I_sMlengths (by show 0 ≤ (((sMlengths ((16 : Int32).toNatClampNeg)) + 1) : Int32).toInt ∧ (((sMlengths ((16 : Int32).toNatClampNeg)) + 1) : Int32).toInt ≤ 24 ∧ (((16 : Int32).toNatClampNeg) < 16 → (((sMlengths ((16 : Int32).toNatClampNeg)) + 1) : Int32).toInt ≤ 8); omega))
              refine So.gd (i_in.mpr (by omega)) ?_
              exact So.one ⟨I_4, I_116, I_119, (by show 0 ≤ (Mo_thrown sMo_5).toInt; omega), (by show (Mo_thrown sMo_5).toInt ≤ 2; omega), (by show (Mo_taped sMo_5).toInt = (Mo_taped sMo).toInt; omega)⟩
            · rw [i_le] at c_111
              exact So.one ⟨I_4, I_sMlists, I_sMlengths, (by show 0 ≤ (Mo_thrown sMo_5).toInt; omega), (by show (Mo_thrown sMo_5).toInt ≤ 2; omega), (by show (Mo_taped sMo_5).toInt = (Mo_taped sMo).toInt; omega)⟩
        · rw [i_le] at c_89
          unfold Mod_append_j62
          refine So.ite (fun c_120 => ?_) (fun c_120 => ?_)
          · rw [i_eq] at c_120
            have f_121 := A_Mlengths_at I_sMlengths ((16 : Int32).toNatClampNeg)
            have f_122 := i_natm (16 : Int32)
            have k_123 : (24 : Int32).toInt = 24 := by decide
            refine So.lt2 fun sMo_10 e_124 => ?_
            have I_125 : I_Mo sMo_10 := by rw [e_124]; exact (I_Mo_set_thrown I_4)
            have k_126 : (2 : Int32).toInt = 2 := by decide
            have f_127 : (Mo_thrown sMo_10).toInt = (2 : Int32).toInt := by subst e_124; rfl
            have f_128 : (Mo_taped sMo_10).toInt = (Mo_taped sMo_5).toInt := by subst e_124; rfl
            unfold Mod_append_j70
            refine So.ite (fun c_129 => ?_) (fun c_129 => ?_)
            · rw [i_le] at c_129
              refine So.gd (i_in.mpr (by omega)) ?_
              have k_130 : ((24 * 16) : Int32).toInt = 384 := by decide
              first | have f_131 := i_add (a := ((24 * 16) : Int32)) (b := (sMlengths ((16 : Int32).toNatClampNeg))) (by omega) (by omega) | have f_131 := i_addm ((24 * 16) : Int32) (sMlengths ((16 : Int32).toNatClampNeg))
              refine So.gd (i_in.mpr (by omega)) ?_
              refine So.lt2 fun sMlists_14 e_132 => ?_
              have f_133 := i_natm ((24 * 16) + (sMlengths ((16 : Int32).toNatClampNeg)))
              have I_134 : A_Mlists sMlists_14 := by rw [e_132]; exact (A_Mlists_upd I_sMlists (by show (0 ≤ (a1 : Int32).toInt ∧ (a1 : Int32).toInt ≤ 63) ∨ (100 ≤ (a1 : Int32).toInt ∧ (a1 : Int32).toInt ≤ 115) ∨ (216 ≤ (a1 : Int32).toInt ∧ (a1 : Int32).toInt ≤ 343) ∨ (400 ≤ (a1 : Int32).toInt ∧ (a1 : Int32).toInt ≤ 487) ∨ (501 ≤ (a1 : Int32).toInt ∧ (a1 : Int32).toInt ≤ 516) ∨ (a1 : Int32).toInt = 520; omega))
              refine So.gd (i_in.mpr (by omega)) ?_
              refine So.gd (i_in.mpr (by omega)) ?_
              refine So.lt2 fun sMlengths_17 e_135 => ?_
              first | have f_136 := i_add (a := (sMlengths ((16 : Int32).toNatClampNeg))) (b := 1) (by omega) (by omega) | have f_136 := i_addm (sMlengths ((16 : Int32).toNatClampNeg)) 1
              have I_137 : A_Mlengths sMlengths_17 := by rw [e_135]; exact (A_Mlengths_upd I_sMlengths (by show 0 ≤ (((sMlengths ((16 : Int32).toNatClampNeg)) + 1) : Int32).toInt ∧ (((sMlengths ((16 : Int32).toNatClampNeg)) + 1) : Int32).toInt ≤ 24 ∧ (((16 : Int32).toNatClampNeg) < 16 → (((sMlengths ((16 : Int32).toNatClampNeg)) + 1) : Int32).toInt ≤ 8); omega))
              refine So.gd (i_in.mpr (by omega)) ?_
              exact So.one ⟨I_125, I_134, I_137, (by show 0 ≤ (Mo_thrown sMo_10).toInt; omega), (by show (Mo_thrown sMo_10).toInt ≤ 2; omega), (by show (Mo_taped sMo_10).toInt = (Mo_taped sMo).toInt; omega)⟩
            · rw [i_le] at c_129
              exact So.one ⟨I_125, I_sMlists, I_sMlengths, (by show 0 ≤ (Mo_thrown sMo_10).toInt; omega), (by show (Mo_thrown sMo_10).toInt ≤ 2; omega), (by show (Mo_taped sMo_10).toInt = (Mo_taped sMo).toInt; omega)⟩
          · rw [i_eq] at c_120
            have f_138 := A_Mlengths_at I_sMlengths ((16 : Int32).toNatClampNeg)
            have f_139 := i_natm (16 : Int32)
            have k_140 : (24 : Int32).toInt = 24 := by decide
            unfold Mod_append_j70
            refine So.ite (fun c_141 => ?_) (fun c_141 => ?_)
            · rw [i_le] at c_141
              refine So.gd (i_in.mpr (by omega)) ?_
              have k_142 : ((24 * 16) : Int32).toInt = 384 := by decide
              first | have f_143 := i_add (a := ((24 * 16) : Int32)) (b := (sMlengths ((16 : Int32).toNatClampNeg))) (by omega) (by omega) | have f_143 := i_addm ((24 * 16) : Int32) (sMlengths ((16 : Int32).toNatClampNeg))
              refine So.gd (i_in.mpr (by omega)) ?_
              refine So.lt2 fun sMlists_14 e_144 => ?_
              have f_145 := i_natm ((24 * 16) + (sMlengths ((16 : Int32).toNatClampNeg)))
              have I_146 : A_Mlists sMlists_14 := by rw [e_144]; exact (A_Mlists_upd I_sMlists (by show (0 ≤ (a1 : Int32).toInt ∧ (a1 : Int32).toInt ≤ 63) ∨ (100 ≤ (a1 : Int32).toInt ∧ (a1 : Int32).toInt ≤ 115) ∨ (216 ≤ (a1 : Int32).toInt ∧ (a1 : Int32).toInt ≤ 343) ∨ (400 ≤ (a1 : Int32).toInt ∧ (a1 : Int32).toInt ≤ 487) ∨ (501 ≤ (a1 : Int32).toInt ∧ (a1 : Int32).toInt ≤ 516) ∨ (a1 : Int32).toInt = 520; omega))
              refine So.gd (i_in.mpr (by omega)) ?_
              refine So.gd (i_in.mpr (by omega)) ?_
              refine So.lt2 fun sMlengths_17 e_147 => ?_
              first | have f_148 := i_add (a := (sMlengths ((16 : Int32).toNatClampNeg))) (b := 1) (by omega) (by omega) | have f_148 := i_addm (sMlengths ((16 : Int32).toNatClampNeg)) 1
              have I_149 : A_Mlengths sMlengths_17 := by rw [e_147]; exact (A_Mlengths_upd I_sMlengths (by show 0 ≤ (((sMlengths ((16 : Int32).toNatClampNeg)) + 1) : Int32).toInt ∧ (((sMlengths ((16 : Int32).toNatClampNeg)) + 1) : Int32).toInt ≤ 24 ∧ (((16 : Int32).toNatClampNeg) < 16 → (((sMlengths ((16 : Int32).toNatClampNeg)) + 1) : Int32).toInt ≤ 8); omega))
              refine So.gd (i_in.mpr (by omega)) ?_
              exact So.one ⟨I_4, I_146, I_149, (by show 0 ≤ (Mo_thrown sMo_5).toInt; omega), (by show (Mo_thrown sMo_5).toInt ≤ 2; omega), (by show (Mo_taped sMo_5).toInt = (Mo_taped sMo).toInt; omega)⟩
            · rw [i_le] at c_141
              exact So.one ⟨I_4, I_sMlists, I_sMlengths, (by show 0 ≤ (Mo_thrown sMo_5).toInt; omega), (by show (Mo_thrown sMo_5).toInt ≤ 2; omega), (by show (Mo_taped sMo_5).toInt = (Mo_taped sMo).toInt; omega)⟩
      · rw [i_eq] at c_87
        unfold Mod_append_j70
        refine So.ite (fun c_150 => ?_) (fun c_150 => ?_)
        · rw [i_le] at c_150
          have k_151 : (16 : Int32).toInt = 16 := by decide
          refine So.gd (i_in.mpr (by omega)) ?_
          have k_152 : ((24 * 16) : Int32).toInt = 384 := by decide
          have f_153 := A_Mlengths_at I_sMlengths ((16 : Int32).toNatClampNeg)
          have f_154 := i_natm (16 : Int32)
          first | have f_155 := i_add (a := ((24 * 16) : Int32)) (b := (sMlengths ((16 : Int32).toNatClampNeg))) (by omega) (by omega) | have f_155 := i_addm ((24 * 16) : Int32) (sMlengths ((16 : Int32).toNatClampNeg))
          refine So.gd (i_in.mpr (by omega)) ?_
          refine So.lt2 fun sMlists_14 e_156 => ?_
          have f_157 := i_natm ((24 * 16) + (sMlengths ((16 : Int32).toNatClampNeg)))
          have I_158 : A_Mlists sMlists_14 := by rw [e_156]; exact (A_Mlists_upd I_sMlists (by show (0 ≤ (a1 : Int32).toInt ∧ (a1 : Int32).toInt ≤ 63) ∨ (100 ≤ (a1 : Int32).toInt ∧ (a1 : Int32).toInt ≤ 115) ∨ (216 ≤ (a1 : Int32).toInt ∧ (a1 : Int32).toInt ≤ 343) ∨ (400 ≤ (a1 : Int32).toInt ∧ (a1 : Int32).toInt ≤ 487) ∨ (501 ≤ (a1 : Int32).toInt ∧ (a1 : Int32).toInt ≤ 516) ∨ (a1 : Int32).toInt = 520; omega))
          refine So.gd (i_in.mpr (by omega)) ?_
          refine So.gd (i_in.mpr (by omega)) ?_
          refine So.lt2 fun sMlengths_17 e_159 => ?_
          first | have f_160 := i_add (a := (sMlengths ((16 : Int32).toNatClampNeg))) (b := 1) (by omega) (by omega) | have f_160 := i_addm (sMlengths ((16 : Int32).toNatClampNeg)) 1
          have I_161 : A_Mlengths sMlengths_17 := by rw [e_159]; exact (A_Mlengths_upd I_sMlengths (by show 0 ≤ (((sMlengths ((16 : Int32).toNatClampNeg)) + 1) : Int32).toInt ∧ (((sMlengths ((16 : Int32).toNatClampNeg)) + 1) : Int32).toInt ≤ 24 ∧ (((16 : Int32).toNatClampNeg) < 16 → (((sMlengths ((16 : Int32).toNatClampNeg)) + 1) : Int32).toInt ≤ 8); omega))
          refine So.gd (i_in.mpr (by omega)) ?_
          exact So.one ⟨I_4, I_158, I_161, (by show 0 ≤ (Mo_thrown sMo_5).toInt; omega), (by show (Mo_thrown sMo_5).toInt ≤ 2; omega), (by show (Mo_taped sMo_5).toInt = (Mo_taped sMo).toInt; omega)⟩
        · rw [i_le] at c_150
          exact So.one ⟨I_4, I_sMlists, I_sMlengths, (by show 0 ≤ (Mo_thrown sMo_5).toInt; omega), (by show (Mo_thrown sMo_5).toInt ≤ 2; omega), (by show (Mo_taped sMo_5).toInt = (Mo_taped sMo).toInt; omega)⟩
  · rw [i_lt] at c_1
    have k_162 : ((-1) : Int32).toInt = -1 := by decide
    refine So.ite (fun c_163 => ?_) (fun c_163 => ?_)
    · rw [i_lt] at c_163
      have k_164 : (15 : Int32).toInt = 15 := by decide
      unfold Mod_append_j19
      unfold Mod_append_j24
      refine So.lt2 fun sMo_5 e_165 => ?_
      have I_166 : I_Mo sMo_5 := by rw [e_165]; exact (I_Mo_set_thrown I_sMo)
      have k_167 : (1 : Int32).toInt = 1 := by decide
      have f_168 : (Mo_thrown sMo_5).toInt = (1 : Int32).toInt := by subst e_165; rfl
      have f_169 : (Mo_taped sMo_5).toInt = (Mo_taped sMo).toInt := by subst e_165; rfl
      refine So.ite (fun c_170 => ?_) (fun c_170 => ?_)
      · rw [i_le] at c_170
        have k_171 : (0 : Int32).toInt = 0 := by decide
        unfold Mod_append_j37
        refine So.ite (fun c_172 => ?_) (fun c_172 => ?_)
        · rw [i_eq] at c_172
          refine So.gd (i_in.mpr (by omega)) ?_
          refine So.ite (fun c_173 => ?_) (fun c_173 => ?_)
          · rw [i_le] at c_173
            unfold Mod_append_j62
            refine So.ite (fun c_174 => ?_) (fun c_174 => ?_)
            · rw [i_eq] at c_174
              have f_175 := A_Mlengths_at I_sMlengths (a0.toNatClampNeg)
              have f_176 := i_natm a0
              have k_177 : (8 : Int32).toInt = 8 := by decide
              refine So.lt2 fun sMo_10 e_178 => ?_
              have I_179 : I_Mo sMo_10 := by rw [e_178]; exact (I_Mo_set_thrown I_166)
              have k_180 : (2 : Int32).toInt = 2 := by decide
              have f_181 : (Mo_thrown sMo_10).toInt = (2 : Int32).toInt := by subst e_178; rfl
              have f_182 : (Mo_taped sMo_10).toInt = (Mo_taped sMo_5).toInt := by subst e_178; rfl
              unfold Mod_append_j70
              refine So.ite (fun c_183 => ?_) (fun c_183 => ?_)
              · rw [i_le] at c_183
                refine So.gd (i_in.mpr (by omega)) ?_
                have k_184 : (24 : Int32).toInt = 24 := by decide
                first | have f_185 := i_mull 24 a0 (24) (by decide) (by omega) (by omega) | have f_185 := i_mullm 24 a0 (24) (by decide)
                first | have f_186 := i_add (a := (24 * a0)) (b := (sMlengths (a0.toNatClampNeg))) (by omega) (by omega) | have f_186 := i_addm (24 * a0) (sMlengths (a0.toNatClampNeg))
                refine So.gd (i_in.mpr (by omega)) ?_
                refine So.lt2 fun sMlists_14 e_187 => ?_
                have f_188 := i_natm ((24 * a0) + (sMlengths (a0.toNatClampNeg)))
                have I_189 : A_Mlists sMlists_14 := by rw [e_187]; exact (A_Mlists_upd I_sMlists (by show (0 ≤ (a1 : Int32).toInt ∧ (a1 : Int32).toInt ≤ 63) ∨ (100 ≤ (a1 : Int32).toInt ∧ (a1 : Int32).toInt ≤ 115) ∨ (216 ≤ (a1 : Int32).toInt ∧ (a1 : Int32).toInt ≤ 343) ∨ (400 ≤ (a1 : Int32).toInt ∧ (a1 : Int32).toInt ≤ 487) ∨ (501 ≤ (a1 : Int32).toInt ∧ (a1 : Int32).toInt ≤ 516) ∨ (a1 : Int32).toInt = 520; omega))
                refine So.gd (i_in.mpr (by omega)) ?_
                refine So.gd (i_in.mpr (by omega)) ?_
                refine So.lt2 fun sMlengths_17 e_190 => ?_
                first | have f_191 := i_add (a := (sMlengths (a0.toNatClampNeg))) (b := 1) (by omega) (by omega) | have f_191 := i_addm (sMlengths (a0.toNatClampNeg)) 1
                have I_192 : A_Mlengths sMlengths_17 := by rw [e_190]; exact (A_Mlengths_upd I_sMlengths (by show 0 ≤ (((sMlengths (a0.toNatClampNeg)) + 1) : Int32).toInt ∧ (((sMlengths (a0.toNatClampNeg)) + 1) : Int32).toInt ≤ 24 ∧ ((a0.toNatClampNeg) < 16 → (((sMlengths (a0.toNatClampNeg)) + 1) : Int32).toInt ≤ 8); omega))
                refine So.gd (i_in.mpr (by omega)) ?_
                exact So.one ⟨I_179, I_189, I_192, (by show 0 ≤ (Mo_thrown sMo_10).toInt; omega), (by show (Mo_thrown sMo_10).toInt ≤ 2; omega), (by show (Mo_taped sMo_10).toInt = (Mo_taped sMo).toInt; omega)⟩
              · rw [i_le] at c_183
                exact So.one ⟨I_179, I_sMlists, I_sMlengths, (by show 0 ≤ (Mo_thrown sMo_10).toInt; omega), (by show (Mo_thrown sMo_10).toInt ≤ 2; omega), (by show (Mo_taped sMo_10).toInt = (Mo_taped sMo).toInt; omega)⟩
            · rw [i_eq] at c_174
              have f_193 := A_Mlengths_at I_sMlengths (a0.toNatClampNeg)
              have f_194 := i_natm a0
              have k_195 : (8 : Int32).toInt = 8 := by decide
              unfold Mod_append_j70
              refine So.ite (fun c_196 => ?_) (fun c_196 => ?_)
              · rw [i_le] at c_196
                refine So.gd (i_in.mpr (by omega)) ?_
                have k_197 : (24 : Int32).toInt = 24 := by decide
                first | have f_198 := i_mull 24 a0 (24) (by decide) (by omega) (by omega) | have f_198 := i_mullm 24 a0 (24) (by decide)
                first | have f_199 := i_add (a := (24 * a0)) (b := (sMlengths (a0.toNatClampNeg))) (by omega) (by omega) | have f_199 := i_addm (24 * a0) (sMlengths (a0.toNatClampNeg))
                refine So.gd (i_in.mpr (by omega)) ?_
                refine So.lt2 fun sMlists_14 e_200 => ?_
                have f_201 := i_natm ((24 * a0) + (sMlengths (a0.toNatClampNeg)))
                have I_202 : A_Mlists sMlists_14 := by rw [e_200]; exact (A_Mlists_upd I_sMlists (by show (0 ≤ (a1 : Int32).toInt ∧ (a1 : Int32).toInt ≤ 63) ∨ (100 ≤ (a1 : Int32).toInt ∧ (a1 : Int32).toInt ≤ 115) ∨ (216 ≤ (a1 : Int32).toInt ∧ (a1 : Int32).toInt ≤ 343) ∨ (400 ≤ (a1 : Int32).toInt ∧ (a1 : Int32).toInt ≤ 487) ∨ (501 ≤ (a1 : Int32).toInt ∧ (a1 : Int32).toInt ≤ 516) ∨ (a1 : Int32).toInt = 520; omega))
                refine So.gd (i_in.mpr (by omega)) ?_
                refine So.gd (i_in.mpr (by omega)) ?_
                refine So.lt2 fun sMlengths_17 e_203 => ?_
                first | have f_204 := i_add (a := (sMlengths (a0.toNatClampNeg))) (b := 1) (by omega) (by omega) | have f_204 := i_addm (sMlengths (a0.toNatClampNeg)) 1
                have I_205 : A_Mlengths sMlengths_17 := by rw [e_203]; exact (A_Mlengths_upd I_sMlengths (by show 0 ≤ (((sMlengths (a0.toNatClampNeg)) + 1) : Int32).toInt ∧ (((sMlengths (a0.toNatClampNeg)) + 1) : Int32).toInt ≤ 24 ∧ ((a0.toNatClampNeg) < 16 → (((sMlengths (a0.toNatClampNeg)) + 1) : Int32).toInt ≤ 8); omega))
                refine So.gd (i_in.mpr (by omega)) ?_
                exact So.one ⟨I_166, I_202, I_205, (by show 0 ≤ (Mo_thrown sMo_5).toInt; omega), (by show (Mo_thrown sMo_5).toInt ≤ 2; omega), (by show (Mo_taped sMo_5).toInt = (Mo_taped sMo).toInt; omega)⟩
              · rw [i_le] at c_196
                exact So.one ⟨I_166, I_sMlists, I_sMlengths, (by show 0 ≤ (Mo_thrown sMo_5).toInt; omega), (by show (Mo_thrown sMo_5).toInt ≤ 2; omega), (by show (Mo_taped sMo_5).toInt = (Mo_taped sMo).toInt; omega)⟩
          · rw [i_le] at c_173
            unfold Mod_append_j62
            refine So.ite (fun c_206 => ?_) (fun c_206 => ?_)
            · rw [i_eq] at c_206
              have f_207 := A_Mlengths_at I_sMlengths (a0.toNatClampNeg)
              have f_208 := i_natm a0
              have k_209 : (24 : Int32).toInt = 24 := by decide
              refine So.lt2 fun sMo_10 e_210 => ?_
              have I_211 : I_Mo sMo_10 := by rw [e_210]; exact (I_Mo_set_thrown I_166)
              have k_212 : (2 : Int32).toInt = 2 := by decide
              have f_213 : (Mo_thrown sMo_10).toInt = (2 : Int32).toInt := by subst e_210; rfl
              have f_214 : (Mo_taped sMo_10).toInt = (Mo_taped sMo_5).toInt := by subst e_210; rfl
              unfold Mod_append_j70
              refine So.ite (fun c_215 => ?_) (fun c_215 => ?_)
              · rw [i_le] at c_215
                refine So.gd (i_in.mpr (by omega)) ?_
                first | have f_216 := i_mull 24 a0 (24) (by decide) (by omega) (by omega) | have f_216 := i_mullm 24 a0 (24) (by decide)
                first | have f_217 := i_add (a := (24 * a0)) (b := (sMlengths (a0.toNatClampNeg))) (by omega) (by omega) | have f_217 := i_addm (24 * a0) (sMlengths (a0.toNatClampNeg))
                refine So.gd (i_in.mpr (by omega)) ?_
                refine So.lt2 fun sMlists_14 e_218 => ?_
                have f_219 := i_natm ((24 * a0) + (sMlengths (a0.toNatClampNeg)))
                have I_220 : A_Mlists sMlists_14 := by rw [e_218]; exact (A_Mlists_upd I_sMlists (by show (0 ≤ (a1 : Int32).toInt ∧ (a1 : Int32).toInt ≤ 63) ∨ (100 ≤ (a1 : Int32).toInt ∧ (a1 : Int32).toInt ≤ 115) ∨ (216 ≤ (a1 : Int32).toInt ∧ (a1 : Int32).toInt ≤ 343) ∨ (400 ≤ (a1 : Int32).toInt ∧ (a1 : Int32).toInt ≤ 487) ∨ (501 ≤ (a1 : Int32).toInt ∧ (a1 : Int32).toInt ≤ 516) ∨ (a1 : Int32).toInt = 520; omega))
                refine So.gd (i_in.mpr (by omega)) ?_
                refine So.gd (i_in.mpr (by omega)) ?_
                refine So.lt2 fun sMlengths_17 e_221 => ?_
                first | have f_222 := i_add (a := (sMlengths (a0.toNatClampNeg))) (b := 1) (by omega) (by omega) | have f_222 := i_addm (sMlengths (a0.toNatClampNeg)) 1
                have I_223 : A_Mlengths sMlengths_17 := by rw [e_221]; exact (A_Mlengths_upd I_sMlengths (by show 0 ≤ (((sMlengths (a0.toNatClampNeg)) + 1) : Int32).toInt ∧ (((sMlengths (a0.toNatClampNeg)) + 1) : Int32).toInt ≤ 24 ∧ ((a0.toNatClampNeg) < 16 → (((sMlengths (a0.toNatClampNeg)) + 1) : Int32).toInt ≤ 8); omega))
                refine So.gd (i_in.mpr (by omega)) ?_
                exact So.one ⟨I_211, I_220, I_223, (by show 0 ≤ (Mo_thrown sMo_10).toInt; omega), (by show (Mo_thrown sMo_10).toInt ≤ 2; omega), (by show (Mo_taped sMo_10).toInt = (Mo_taped sMo).toInt; omega)⟩
              · rw [i_le] at c_215
                exact So.one ⟨I_211, I_sMlists, I_sMlengths, (by show 0 ≤ (Mo_thrown sMo_10).toInt; omega), (by show (Mo_thrown sMo_10).toInt ≤ 2; omega), (by show (Mo_taped sMo_10).toInt = (Mo_taped sMo).toInt; omega)⟩
            · rw [i_eq] at c_206
              have f_224 := A_Mlengths_at I_sMlengths (a0.toNatClampNeg)
              have f_225 := i_natm a0
              have k_226 : (24 : Int32).toInt = 24 := by decide
              unfold Mod_append_j70
              refine So.ite (fun c_227 => ?_) (fun c_227 => ?_)
              · rw [i_le] at c_227
                refine So.gd (i_in.mpr (by omega)) ?_
                first | have f_228 := i_mull 24 a0 (24) (by decide) (by omega) (by omega) | have f_228 := i_mullm 24 a0 (24) (by decide)
                first | have f_229 := i_add (a := (24 * a0)) (b := (sMlengths (a0.toNatClampNeg))) (by omega) (by omega) | have f_229 := i_addm (24 * a0) (sMlengths (a0.toNatClampNeg))
                refine So.gd (i_in.mpr (by omega)) ?_
                refine So.lt2 fun sMlists_14 e_230 => ?_
                have f_231 := i_natm ((24 * a0) + (sMlengths (a0.toNatClampNeg)))
                have I_232 : A_Mlists sMlists_14 := by rw [e_230]; exact (A_Mlists_upd I_sMlists (by show (0 ≤ (a1 : Int32).toInt ∧ (a1 : Int32).toInt ≤ 63) ∨ (100 ≤ (a1 : Int32).toInt ∧ (a1 : Int32).toInt ≤ 115) ∨ (216 ≤ (a1 : Int32).toInt ∧ (a1 : Int32).toInt ≤ 343) ∨ (400 ≤ (a1 : Int32).toInt ∧ (a1 : Int32).toInt ≤ 487) ∨ (501 ≤ (a1 : Int32).toInt ∧ (a1 : Int32).toInt ≤ 516) ∨ (a1 : Int32).toInt = 520; omega))
                refine So.gd (i_in.mpr (by omega)) ?_
                refine So.gd (i_in.mpr (by omega)) ?_
                refine So.lt2 fun sMlengths_17 e_233 => ?_
                first | have f_234 := i_add (a := (sMlengths (a0.toNatClampNeg))) (b := 1) (by omega) (by omega) | have f_234 := i_addm (sMlengths (a0.toNatClampNeg)) 1
                have I_235 : A_Mlengths sMlengths_17 := by rw [e_233]; exact (A_Mlengths_upd I_sMlengths (by show 0 ≤ (((sMlengths (a0.toNatClampNeg)) + 1) : Int32).toInt ∧ (((sMlengths (a0.toNatClampNeg)) + 1) : Int32).toInt ≤ 24 ∧ ((a0.toNatClampNeg) < 16 → (((sMlengths (a0.toNatClampNeg)) + 1) : Int32).toInt ≤ 8); omega))
                refine So.gd (i_in.mpr (by omega)) ?_
                exact So.one ⟨I_166, I_232, I_235, (by show 0 ≤ (Mo_thrown sMo_5).toInt; omega), (by show (Mo_thrown sMo_5).toInt ≤ 2; omega), (by show (Mo_taped sMo_5).toInt = (Mo_taped sMo).toInt; omega)⟩
              · rw [i_le] at c_227
                exact So.one ⟨I_166, I_sMlists, I_sMlengths, (by show 0 ≤ (Mo_thrown sMo_5).toInt; omega), (by show (Mo_thrown sMo_5).toInt ≤ 2; omega), (by show (Mo_taped sMo_5).toInt = (Mo_taped sMo).toInt; omega)⟩
        · rw [i_eq] at c_172
          unfold Mod_append_j70
          refine So.ite (fun c_236 => ?_) (fun c_236 => ?_)
          · rw [i_le] at c_236
            refine So.gd (i_in.mpr (by omega)) ?_
            have k_237 : (24 : Int32).toInt = 24 := by decide
            first | have f_238 := i_mull 24 a0 (24) (by decide) (by omega) (by omega) | have f_238 := i_mullm 24 a0 (24) (by decide)
            have f_239 := A_Mlengths_at I_sMlengths (a0.toNatClampNeg)
            have f_240 := i_natm a0
            first | have f_241 := i_add (a := (24 * a0)) (b := (sMlengths (a0.toNatClampNeg))) (by omega) (by omega) | have f_241 := i_addm (24 * a0) (sMlengths (a0.toNatClampNeg))
            refine So.gd (i_in.mpr (by omega)) ?_
            refine So.lt2 fun sMlists_14 e_242 => ?_
            have f_243 := i_natm ((24 * a0) + (sMlengths (a0.toNatClampNeg)))
            have I_244 : A_Mlists sMlists_14 := by rw [e_242]; exact (A_Mlists_upd I_sMlists (by show (0 ≤ (a1 : Int32).toInt ∧ (a1 : Int32).toInt ≤ 63) ∨ (100 ≤ (a1 : Int32).toInt ∧ (a1 : Int32).toInt ≤ 115) ∨ (216 ≤ (a1 : Int32).toInt ∧ (a1 : Int32).toInt ≤ 343) ∨ (400 ≤ (a1 : Int32).toInt ∧ (a1 : Int32).toInt ≤ 487) ∨ (501 ≤ (a1 : Int32).toInt ∧ (a1 : Int32).toInt ≤ 516) ∨ (a1 : Int32).toInt = 520; omega))
            refine So.gd (i_in.mpr (by omega)) ?_
            refine So.gd (i_in.mpr (by omega)) ?_
            refine So.lt2 fun sMlengths_17 e_245 => ?_
            first | have f_246 := i_add (a := (sMlengths (a0.toNatClampNeg))) (b := 1) (by omega) (by omega) | have f_246 := i_addm (sMlengths (a0.toNatClampNeg)) 1
            have I_247 : A_Mlengths sMlengths_17 := by rw [e_245]; exact (A_Mlengths_upd I_sMlengths (by show 0 ≤ (((sMlengths (a0.toNatClampNeg)) + 1) : Int32).toInt ∧ (((sMlengths (a0.toNatClampNeg)) + 1) : Int32).toInt ≤ 24 ∧ ((a0.toNatClampNeg) < 16 → (((sMlengths (a0.toNatClampNeg)) + 1) : Int32).toInt ≤ 8); omega))
            refine So.gd (i_in.mpr (by omega)) ?_
            exact So.one ⟨I_166, I_244, I_247, (by show 0 ≤ (Mo_thrown sMo_5).toInt; omega), (by show (Mo_thrown sMo_5).toInt ≤ 2; omega), (by show (Mo_taped sMo_5).toInt = (Mo_taped sMo).toInt; omega)⟩
          · rw [i_le] at c_236
            exact So.one ⟨I_166, I_sMlists, I_sMlengths, (by show 0 ≤ (Mo_thrown sMo_5).toInt; omega), (by show (Mo_thrown sMo_5).toInt ≤ 2; omega), (by show (Mo_taped sMo_5).toInt = (Mo_taped sMo).toInt; omega)⟩
      · rw [i_le] at c_170
        have k_248 : (0 : Int32).toInt = 0 := by decide
        unfold Mod_append_j37
        refine So.ite (fun c_249 => ?_) (fun c_249 => ?_)
        · rw [i_eq] at c_249
          have k_250 : (16 : Int32).toInt = 16 := by decide
          refine So.gd (i_in.mpr (by omega)) ?_
          refine So.ite (fun c_251 => ?_) (fun c_251 => ?_)
          · rw [i_le] at c_251
            unfold Mod_append_j62
            refine So.ite (fun c_252 => ?_) (fun c_252 => ?_)
            · rw [i_eq] at c_252
              have f_253 := A_Mlengths_at I_sMlengths ((16 : Int32).toNatClampNeg)
              have f_254 := i_natm (16 : Int32)
              have k_255 : (8 : Int32).toInt = 8 := by decide
              refine So.lt2 fun sMo_10 e_256 => ?_
              have I_257 : I_Mo sMo_10 := by rw [e_256]; exact (I_Mo_set_thrown I_166)
              have k_258 : (2 : Int32).toInt = 2 := by decide
              have f_259 : (Mo_thrown sMo_10).toInt = (2 : Int32).toInt := by subst e_256; rfl
              have f_260 : (Mo_taped sMo_10).toInt = (Mo_taped sMo_5).toInt := by subst e_256; rfl
              unfold Mod_append_j70
              refine So.ite (fun c_261 => ?_) (fun c_261 => ?_)
              · rw [i_le] at c_261
                refine So.gd (i_in.mpr (by omega)) ?_
                have k_262 : ((24 * 16) : Int32).toInt = 384 := by decide
                first | have f_263 := i_add (a := ((24 * 16) : Int32)) (b := (sMlengths ((16 : Int32).toNatClampNeg))) (by omega) (by omega) | have f_263 := i_addm ((24 * 16) : Int32) (sMlengths ((16 : Int32).toNatClampNeg))
                refine So.gd (i_in.mpr (by omega)) ?_
                refine So.lt2 fun sMlists_14 e_264 => ?_
                have f_265 := i_natm ((24 * 16) + (sMlengths ((16 : Int32).toNatClampNeg)))
                have I_266 : A_Mlists sMlists_14 := by rw [e_264]; exact (A_Mlists_upd I_sMlists (by show (0 ≤ (a1 : Int32).toInt ∧ (a1 : Int32).toInt ≤ 63) ∨ (100 ≤ (a1 : Int32).toInt ∧ (a1 : Int32).toInt ≤ 115) ∨ (216 ≤ (a1 : Int32).toInt ∧ (a1 : Int32).toInt ≤ 343) ∨ (400 ≤ (a1 : Int32).toInt ∧ (a1 : Int32).toInt ≤ 487) ∨ (501 ≤ (a1 : Int32).toInt ∧ (a1 : Int32).toInt ≤ 516) ∨ (a1 : Int32).toInt = 520; omega))
                refine So.gd (i_in.mpr (by omega)) ?_
                refine So.gd (i_in.mpr (by omega)) ?_
                refine So.lt2 fun sMlengths_17 e_267 => ?_
                first | have f_268 := i_add (a := (sMlengths ((16 : Int32).toNatClampNeg))) (b := 1) (by omega) (by omega) | have f_268 := i_addm (sMlengths ((16 : Int32).toNatClampNeg)) 1
                have I_269 : A_Mlengths sMlengths_17 := by rw [e_267]; exact (A_Mlengths_upd I_sMlengths (by show 0 ≤ (((sMlengths ((16 : Int32).toNatClampNeg)) + 1) : Int32).toInt ∧ (((sMlengths ((16 : Int32).toNatClampNeg)) + 1) : Int32).toInt ≤ 24 ∧ (((16 : Int32).toNatClampNeg) < 16 → (((sMlengths ((16 : Int32).toNatClampNeg)) + 1) : Int32).toInt ≤ 8); omega))
                refine So.gd (i_in.mpr (by omega)) ?_
                exact So.one ⟨I_257, I_266, I_269, (by show 0 ≤ (Mo_thrown sMo_10).toInt; omega), (by show (Mo_thrown sMo_10).toInt ≤ 2; omega), (by show (Mo_taped sMo_10).toInt = (Mo_taped sMo).toInt; omega)⟩
              · rw [i_le] at c_261
                exact So.one ⟨I_257, I_sMlists, I_sMlengths, (by show 0 ≤ (Mo_thrown sMo_10).toInt; omega), (by show (Mo_thrown sMo_10).toInt ≤ 2; omega), (by show (Mo_taped sMo_10).toInt = (Mo_taped sMo).toInt; omega)⟩
            · rw [i_eq] at c_252
              have f_270 := A_Mlengths_at I_sMlengths ((16 : Int32).toNatClampNeg)
              have f_271 := i_natm (16 : Int32)
              have k_272 : (8 : Int32).toInt = 8 := by decide
              unfold Mod_append_j70
              refine So.ite (fun c_273 => ?_) (fun c_273 => ?_)
              · rw [i_le] at c_273
                refine So.gd (i_in.mpr (by omega)) ?_
                have k_274 : ((24 * 16) : Int32).toInt = 384 := by decide
                first | have f_275 := i_add (a := ((24 * 16) : Int32)) (b := (sMlengths ((16 : Int32).toNatClampNeg))) (by omega) (by omega) | have f_275 := i_addm ((24 * 16) : Int32) (sMlengths ((16 : Int32).toNatClampNeg))
                refine So.gd (i_in.mpr (by omega)) ?_
                refine So.lt2 fun sMlists_14 e_276 => ?_
                have f_277 := i_natm ((24 * 16) + (sMlengths ((16 : Int32).toNatClampNeg)))
                have I_278 : A_Mlists sMlists_14 := by rw [e_276]; exact (A_Mlists_upd I_sMlists (by show (0 ≤ (a1 : Int32).toInt ∧ (a1 : Int32).toInt ≤ 63) ∨ (100 ≤ (a1 : Int32).toInt ∧ (a1 : Int32).toInt ≤ 115) ∨ (216 ≤ (a1 : Int32).toInt ∧ (a1 : Int32).toInt ≤ 343) ∨ (400 ≤ (a1 : Int32).toInt ∧ (a1 : Int32).toInt ≤ 487) ∨ (501 ≤ (a1 : Int32).toInt ∧ (a1 : Int32).toInt ≤ 516) ∨ (a1 : Int32).toInt = 520; omega))
                refine So.gd (i_in.mpr (by omega)) ?_
                refine So.gd (i_in.mpr (by omega)) ?_
                refine So.lt2 fun sMlengths_17 e_279 => ?_
                first | have f_280 := i_add (a := (sMlengths ((16 : Int32).toNatClampNeg))) (b := 1) (by omega) (by omega) | have f_280 := i_addm (sMlengths ((16 : Int32).toNatClampNeg)) 1
                have I_281 : A_Mlengths sMlengths_17 := by rw [e_279]; exact (A_Mlengths_upd I_sMlengths (by show 0 ≤ (((sMlengths ((16 : Int32).toNatClampNeg)) + 1) : Int32).toInt ∧ (((sMlengths ((16 : Int32).toNatClampNeg)) + 1) : Int32).toInt ≤ 24 ∧ (((16 : Int32).toNatClampNeg) < 16 → (((sMlengths ((16 : Int32).toNatClampNeg)) + 1) : Int32).toInt ≤ 8); omega))
                refine So.gd (i_in.mpr (by omega)) ?_
                exact So.one ⟨I_166, I_278, I_281, (by show 0 ≤ (Mo_thrown sMo_5).toInt; omega), (by show (Mo_thrown sMo_5).toInt ≤ 2; omega), (by show (Mo_taped sMo_5).toInt = (Mo_taped sMo).toInt; omega)⟩
              · rw [i_le] at c_273
                exact So.one ⟨I_166, I_sMlists, I_sMlengths, (by show 0 ≤ (Mo_thrown sMo_5).toInt; omega), (by show (Mo_thrown sMo_5).toInt ≤ 2; omega), (by show (Mo_taped sMo_5).toInt = (Mo_taped sMo).toInt; omega)⟩
          · rw [i_le] at c_251
            unfold Mod_append_j62
            refine So.ite (fun c_282 => ?_) (fun c_282 => ?_)
            · rw [i_eq] at c_282
              have f_283 := A_Mlengths_at I_sMlengths ((16 : Int32).toNatClampNeg)
              have f_284 := i_natm (16 : Int32)
              have k_285 : (24 : Int32).toInt = 24 := by decide
              refine So.lt2 fun sMo_10 e_286 => ?_
              have I_287 : I_Mo sMo_10 := by rw [e_286]; exact (I_Mo_set_thrown I_166)
              have k_288 : (2 : Int32).toInt = 2 := by decide
              have f_289 : (Mo_thrown sMo_10).toInt = (2 : Int32).toInt := by subst e_286; rfl
              have f_290 : (Mo_taped sMo_10).toInt = (Mo_taped sMo_5).toInt := by subst e_286; rfl
              unfold Mod_append_j70
              refine So.ite (fun c_291 => ?_) (fun c_291 => ?_)
              · rw [i_le] at c_291
                refine So.gd (i_in.mpr (by omega)) ?_
                have k_292 : ((24 * 16) : Int32).toInt = 384 := by decide
                first | have f_293 := i_add (a := ((24 * 16) : Int32)) (b := (sMlengths ((16 : Int32).toNatClampNeg))) (by omega) (by omega) | have f_293 := i_addm ((24 * 16) : Int32) (sMlengths ((16 : Int32).toNatClampNeg))
                refine So.gd (i_in.mpr (by omega)) ?_
                refine So.lt2 fun sMlists_14 e_294 => ?_
                have f_295 := i_natm ((24 * 16) + (sMlengths ((16 : Int32).toNatClampNeg)))
                have I_296 : A_Mlists sMlists_14 := by rw [e_294]; exact (A_Mlists_upd I_sMlists (by show (0 ≤ (a1 : Int32).toInt ∧ (a1 : Int32).toInt ≤ 63) ∨ (100 ≤ (a1 : Int32).toInt ∧ (a1 : Int32).toInt ≤ 115) ∨ (216 ≤ (a1 : Int32).toInt ∧ (a1 : Int32).toInt ≤ 343) ∨ (400 ≤ (a1 : Int32).toInt ∧ (a1 : Int32).toInt ≤ 487) ∨ (501 ≤ (a1 : Int32).toInt ∧ (a1 : Int32).toInt ≤ 516) ∨ (a1 : Int32).toInt = 520; omega))
                refine So.gd (i_in.mpr (by omega)) ?_
                refine So.gd (i_in.mpr (by omega)) ?_
                refine So.lt2 fun sMlengths_17 e_297 => ?_
                first | have f_298 := i_add (a := (sMlengths ((16 : Int32).toNatClampNeg))) (b := 1) (by omega) (by omega) | have f_298 := i_addm (sMlengths ((16 : Int32).toNatClampNeg)) 1
                have I_299 : A_Mlengths sMlengths_17 := by rw [e_297]; exact (A_Mlengths_upd I_sMlengths (by show 0 ≤ (((sMlengths ((16 : Int32).toNatClampNeg)) + 1) : Int32).toInt ∧ (((sMlengths ((16 : Int32).toNatClampNeg)) + 1) : Int32).toInt ≤ 24 ∧ (((16 : Int32).toNatClampNeg) < 16 → (((sMlengths ((16 : Int32).toNatClampNeg)) + 1) : Int32).toInt ≤ 8); omega))
                refine So.gd (i_in.mpr (by omega)) ?_
                exact So.one ⟨I_287, I_296, I_299, (by show 0 ≤ (Mo_thrown sMo_10).toInt; omega), (by show (Mo_thrown sMo_10).toInt ≤ 2; omega), (by show (Mo_taped sMo_10).toInt = (Mo_taped sMo).toInt; omega)⟩
              · rw [i_le] at c_291
                exact So.one ⟨I_287, I_sMlists, I_sMlengths, (by show 0 ≤ (Mo_thrown sMo_10).toInt; omega), (by show (Mo_thrown sMo_10).toInt ≤ 2; omega), (by show (Mo_taped sMo_10).toInt = (Mo_taped sMo).toInt; omega)⟩
            · rw [i_eq] at c_282
              have f_300 := A_Mlengths_at I_sMlengths ((16 : Int32).toNatClampNeg)
              have f_301 := i_natm (16 : Int32)
              have k_302 : (24 : Int32).toInt = 24 := by decide
              unfold Mod_append_j70
              refine So.ite (fun c_303 => ?_) (fun c_303 => ?_)
              · rw [i_le] at c_303
                refine So.gd (i_in.mpr (by omega)) ?_
                have k_304 : ((24 * 16) : Int32).toInt = 384 := by decide
                first | have f_305 := i_add (a := ((24 * 16) : Int32)) (b := (sMlengths ((16 : Int32).toNatClampNeg))) (by omega) (by omega) | have f_305 := i_addm ((24 * 16) : Int32) (sMlengths ((16 : Int32).toNatClampNeg))
                refine So.gd (i_in.mpr (by omega)) ?_
                refine So.lt2 fun sMlists_14 e_306 => ?_
                have f_307 := i_natm ((24 * 16) + (sMlengths ((16 : Int32).toNatClampNeg)))
                have I_308 : A_Mlists sMlists_14 := by rw [e_306]; exact (A_Mlists_upd I_sMlists (by show (0 ≤ (a1 : Int32).toInt ∧ (a1 : Int32).toInt ≤ 63) ∨ (100 ≤ (a1 : Int32).toInt ∧ (a1 : Int32).toInt ≤ 115) ∨ (216 ≤ (a1 : Int32).toInt ∧ (a1 : Int32).toInt ≤ 343) ∨ (400 ≤ (a1 : Int32).toInt ∧ (a1 : Int32).toInt ≤ 487) ∨ (501 ≤ (a1 : Int32).toInt ∧ (a1 : Int32).toInt ≤ 516) ∨ (a1 : Int32).toInt = 520; omega))
                refine So.gd (i_in.mpr (by omega)) ?_
                refine So.gd (i_in.mpr (by omega)) ?_
                refine So.lt2 fun sMlengths_17 e_309 => ?_
                first | have f_310 := i_add (a := (sMlengths ((16 : Int32).toNatClampNeg))) (b := 1) (by omega) (by omega) | have f_310 := i_addm (sMlengths ((16 : Int32).toNatClampNeg)) 1
                have I_311 : A_Mlengths sMlengths_17 := by rw [e_309]; exact (A_Mlengths_upd I_sMlengths (by show 0 ≤ (((sMlengths ((16 : Int32).toNatClampNeg)) + 1) : Int32).toInt ∧ (((sMlengths ((16 : Int32).toNatClampNeg)) + 1) : Int32).toInt ≤ 24 ∧ (((16 : Int32).toNatClampNeg) < 16 → (((sMlengths ((16 : Int32).toNatClampNeg)) + 1) : Int32).toInt ≤ 8); omega))
                refine So.gd (i_in.mpr (by omega)) ?_
                exact So.one ⟨I_166, I_308, I_311, (by show 0 ≤ (Mo_thrown sMo_5).toInt; omega), (by show (Mo_thrown sMo_5).toInt ≤ 2; omega), (by show (Mo_taped sMo_5).toInt = (Mo_taped sMo).toInt; omega)⟩
              · rw [i_le] at c_303
                exact So.one ⟨I_166, I_sMlists, I_sMlengths, (by show 0 ≤ (Mo_thrown sMo_5).toInt; omega), (by show (Mo_thrown sMo_5).toInt ≤ 2; omega), (by show (Mo_taped sMo_5).toInt = (Mo_taped sMo).toInt; omega)⟩
        · rw [i_eq] at c_249
          unfold Mod_append_j70
          refine So.ite (fun c_312 => ?_) (fun c_312 => ?_)
          · rw [i_le] at c_312
            have k_313 : (16 : Int32).toInt = 16 := by decide
            refine So.gd (i_in.mpr (by omega)) ?_
            have k_314 : ((24 * 16) : Int32).toInt = 384 := by decide
            have f_315 := A_Mlengths_at I_sMlengths ((16 : Int32).toNatClampNeg)
            have f_316 := i_natm (16 : Int32)
            first | have f_317 := i_add (a := ((24 * 16) : Int32)) (b := (sMlengths ((16 : Int32).toNatClampNeg))) (by omega) (by omega) | have f_317 := i_addm ((24 * 16) : Int32) (sMlengths ((16 : Int32).toNatClampNeg))
            refine So.gd (i_in.mpr (by omega)) ?_
            refine So.lt2 fun sMlists_14 e_318 => ?_
            have f_319 := i_natm ((24 * 16) + (sMlengths ((16 : Int32).toNatClampNeg)))
            have I_320 : A_Mlists sMlists_14 := by rw [e_318]; exact (A_Mlists_upd I_sMlists (by show (0 ≤ (a1 : Int32).toInt ∧ (a1 : Int32).toInt ≤ 63) ∨ (100 ≤ (a1 : Int32).toInt ∧ (a1 : Int32).toInt ≤ 115) ∨ (216 ≤ (a1 : Int32).toInt ∧ (a1 : Int32).toInt ≤ 343) ∨ (400 ≤ (a1 : Int32).toInt ∧ (a1 : Int32).toInt ≤ 487) ∨ (501 ≤ (a1 : Int32).toInt ∧ (a1 : Int32).toInt ≤ 516) ∨ (a1 : Int32).toInt = 520; omega))
            refine So.gd (i_in.mpr (by omega)) ?_
            refine So.gd (i_in.mpr (by omega)) ?_
            refine So.lt2 fun sMlengths_17 e_321 => ?_
            first | have f_322 := i_add (a := (sMlengths ((16 : Int32).toNatClampNeg))) (b := 1) (by omega) (by omega) | have f_322 := i_addm (sMlengths ((16 : Int32).toNatClampNeg)) 1
            have I_323 : A_Mlengths sMlengths_17 := by rw [e_321]; exact (A_Mlengths_upd I_sMlengths (by show 0 ≤ (((sMlengths ((16 : Int32).toNatClampNeg)) + 1) : Int32).toInt ∧ (((sMlengths ((16 : Int32).toNatClampNeg)) + 1) : Int32).toInt ≤ 24 ∧ (((16 : Int32).toNatClampNeg) < 16 → (((sMlengths ((16 : Int32).toNatClampNeg)) + 1) : Int32).toInt ≤ 8); omega))
            refine So.gd (i_in.mpr (by omega)) ?_
            exact So.one ⟨I_166, I_320, I_323, (by show 0 ≤ (Mo_thrown sMo_5).toInt; omega), (by show (Mo_thrown sMo_5).toInt ≤ 2; omega), (by show (Mo_taped sMo_5).toInt = (Mo_taped sMo).toInt; omega)⟩
          · rw [i_le] at c_312
            exact So.one ⟨I_166, I_sMlists, I_sMlengths, (by show 0 ≤ (Mo_thrown sMo_5).toInt; omega), (by show (Mo_thrown sMo_5).toInt ≤ 2; omega), (by show (Mo_taped sMo_5).toInt = (Mo_taped sMo).toInt; omega)⟩
    · rw [i_lt] at c_163
      have k_324 : (15 : Int32).toInt = 15 := by decide
      refine So.bd (t_Mod_isDescriptor ) fun q1 h_325 => ?_
      have p_326 := h_325
      refine So.ite (fun c_327 => ?_) (fun c_327 => ?_)
      · rw [i_eq] at c_327
        have k_328 : (0 : Int32).toInt = 0 := by decide
        unfold Mod_append_j19
        unfold Mod_append_j24
        refine So.lt2 fun sMo_5 e_329 => ?_
        have I_330 : I_Mo sMo_5 := by rw [e_329]; exact (I_Mo_set_thrown I_sMo)
        have k_331 : (1 : Int32).toInt = 1 := by decide
        have f_332 : (Mo_thrown sMo_5).toInt = (1 : Int32).toInt := by subst e_329; rfl
        have f_333 : (Mo_taped sMo_5).toInt = (Mo_taped sMo).toInt := by subst e_329; rfl
        refine So.ite (fun c_334 => ?_) (fun c_334 => ?_)
        · rw [i_le] at c_334
          unfold Mod_append_j37
          refine So.ite (fun c_335 => ?_) (fun c_335 => ?_)
          · rw [i_eq] at c_335
            refine So.gd (i_in.mpr (by omega)) ?_
            refine So.ite (fun c_336 => ?_) (fun c_336 => ?_)
            · rw [i_le] at c_336
              unfold Mod_append_j62
              refine So.ite (fun c_337 => ?_) (fun c_337 => ?_)
              · rw [i_eq] at c_337
                have f_338 := A_Mlengths_at I_sMlengths (a0.toNatClampNeg)
                have f_339 := i_natm a0
                have k_340 : (8 : Int32).toInt = 8 := by decide
                refine So.lt2 fun sMo_10 e_341 => ?_
                have I_342 : I_Mo sMo_10 := by rw [e_341]; exact (I_Mo_set_thrown I_330)
                have k_343 : (2 : Int32).toInt = 2 := by decide
                have f_344 : (Mo_thrown sMo_10).toInt = (2 : Int32).toInt := by subst e_341; rfl
                have f_345 : (Mo_taped sMo_10).toInt = (Mo_taped sMo_5).toInt := by subst e_341; rfl
                unfold Mod_append_j70
                refine So.ite (fun c_346 => ?_) (fun c_346 => ?_)
                · rw [i_le] at c_346
                  refine So.gd (i_in.mpr (by omega)) ?_
                  have k_347 : (24 : Int32).toInt = 24 := by decide
                  first | have f_348 := i_mull 24 a0 (24) (by decide) (by omega) (by omega) | have f_348 := i_mullm 24 a0 (24) (by decide)
                  first | have f_349 := i_add (a := (24 * a0)) (b := (sMlengths (a0.toNatClampNeg))) (by omega) (by omega) | have f_349 := i_addm (24 * a0) (sMlengths (a0.toNatClampNeg))
                  refine So.gd (i_in.mpr (by omega)) ?_
                  refine So.lt2 fun sMlists_14 e_350 => ?_
                  have f_351 := i_natm ((24 * a0) + (sMlengths (a0.toNatClampNeg)))
                  have I_352 : A_Mlists sMlists_14 := by rw [e_350]; exact (A_Mlists_upd I_sMlists (by show (0 ≤ (a1 : Int32).toInt ∧ (a1 : Int32).toInt ≤ 63) ∨ (100 ≤ (a1 : Int32).toInt ∧ (a1 : Int32).toInt ≤ 115) ∨ (216 ≤ (a1 : Int32).toInt ∧ (a1 : Int32).toInt ≤ 343) ∨ (400 ≤ (a1 : Int32).toInt ∧ (a1 : Int32).toInt ≤ 487) ∨ (501 ≤ (a1 : Int32).toInt ∧ (a1 : Int32).toInt ≤ 516) ∨ (a1 : Int32).toInt = 520; omega))
                  refine So.gd (i_in.mpr (by omega)) ?_
                  refine So.gd (i_in.mpr (by omega)) ?_
                  refine So.lt2 fun sMlengths_17 e_353 => ?_
                  first | have f_354 := i_add (a := (sMlengths (a0.toNatClampNeg))) (b := 1) (by omega) (by omega) | have f_354 := i_addm (sMlengths (a0.toNatClampNeg)) 1
                  have I_355 : A_Mlengths sMlengths_17 := by rw [e_353]; exact (A_Mlengths_upd I_sMlengths (by show 0 ≤ (((sMlengths (a0.toNatClampNeg)) + 1) : Int32).toInt ∧ (((sMlengths (a0.toNatClampNeg)) + 1) : Int32).toInt ≤ 24 ∧ ((a0.toNatClampNeg) < 16 → (((sMlengths (a0.toNatClampNeg)) + 1) : Int32).toInt ≤ 8); omega))
                  refine So.gd (i_in.mpr (by omega)) ?_
                  exact So.one ⟨I_342, I_352, I_355, (by show 0 ≤ (Mo_thrown sMo_10).toInt; omega), (by show (Mo_thrown sMo_10).toInt ≤ 2; omega), (by show (Mo_taped sMo_10).toInt = (Mo_taped sMo).toInt; omega)⟩
                · rw [i_le] at c_346
                  exact So.one ⟨I_342, I_sMlists, I_sMlengths, (by show 0 ≤ (Mo_thrown sMo_10).toInt; omega), (by show (Mo_thrown sMo_10).toInt ≤ 2; omega), (by show (Mo_taped sMo_10).toInt = (Mo_taped sMo).toInt; omega)⟩
              · rw [i_eq] at c_337
                have f_356 := A_Mlengths_at I_sMlengths (a0.toNatClampNeg)
                have f_357 := i_natm a0
                have k_358 : (8 : Int32).toInt = 8 := by decide
                unfold Mod_append_j70
                refine So.ite (fun c_359 => ?_) (fun c_359 => ?_)
                · rw [i_le] at c_359
                  refine So.gd (i_in.mpr (by omega)) ?_
                  have k_360 : (24 : Int32).toInt = 24 := by decide
                  first | have f_361 := i_mull 24 a0 (24) (by decide) (by omega) (by omega) | have f_361 := i_mullm 24 a0 (24) (by decide)
                  first | have f_362 := i_add (a := (24 * a0)) (b := (sMlengths (a0.toNatClampNeg))) (by omega) (by omega) | have f_362 := i_addm (24 * a0) (sMlengths (a0.toNatClampNeg))
                  refine So.gd (i_in.mpr (by omega)) ?_
                  refine So.lt2 fun sMlists_14 e_363 => ?_
                  have f_364 := i_natm ((24 * a0) + (sMlengths (a0.toNatClampNeg)))
                  have I_365 : A_Mlists sMlists_14 := by rw [e_363]; exact (A_Mlists_upd I_sMlists (by show (0 ≤ (a1 : Int32).toInt ∧ (a1 : Int32).toInt ≤ 63) ∨ (100 ≤ (a1 : Int32).toInt ∧ (a1 : Int32).toInt ≤ 115) ∨ (216 ≤ (a1 : Int32).toInt ∧ (a1 : Int32).toInt ≤ 343) ∨ (400 ≤ (a1 : Int32).toInt ∧ (a1 : Int32).toInt ≤ 487) ∨ (501 ≤ (a1 : Int32).toInt ∧ (a1 : Int32).toInt ≤ 516) ∨ (a1 : Int32).toInt = 520; omega))
                  refine So.gd (i_in.mpr (by omega)) ?_
                  refine So.gd (i_in.mpr (by omega)) ?_
                  refine So.lt2 fun sMlengths_17 e_366 => ?_
                  first | have f_367 := i_add (a := (sMlengths (a0.toNatClampNeg))) (b := 1) (by omega) (by omega) | have f_367 := i_addm (sMlengths (a0.toNatClampNeg)) 1
                  have I_368 : A_Mlengths sMlengths_17 := by rw [e_366]; exact (A_Mlengths_upd I_sMlengths (by show 0 ≤ (((sMlengths (a0.toNatClampNeg)) + 1) : Int32).toInt ∧ (((sMlengths (a0.toNatClampNeg)) + 1) : Int32).toInt ≤ 24 ∧ ((a0.toNatClampNeg) < 16 → (((sMlengths (a0.toNatClampNeg)) + 1) : Int32).toInt ≤ 8); omega))
                  refine So.gd (i_in.mpr (by omega)) ?_
                  exact So.one ⟨I_330, I_365, I_368, (by show 0 ≤ (Mo_thrown sMo_5).toInt; omega), (by show (Mo_thrown sMo_5).toInt ≤ 2; omega), (by show (Mo_taped sMo_5).toInt = (Mo_taped sMo).toInt; omega)⟩
                · rw [i_le] at c_359
                  exact So.one ⟨I_330, I_sMlists, I_sMlengths, (by show 0 ≤ (Mo_thrown sMo_5).toInt; omega), (by show (Mo_thrown sMo_5).toInt ≤ 2; omega), (by show (Mo_taped sMo_5).toInt = (Mo_taped sMo).toInt; omega)⟩
            · rw [i_le] at c_336
              unfold Mod_append_j62
              refine So.ite (fun c_369 => ?_) (fun c_369 => ?_)
              · rw [i_eq] at c_369
                have f_370 := A_Mlengths_at I_sMlengths (a0.toNatClampNeg)
                have f_371 := i_natm a0
                have k_372 : (24 : Int32).toInt = 24 := by decide
                refine So.lt2 fun sMo_10 e_373 => ?_
                have I_374 : I_Mo sMo_10 := by rw [e_373]; exact (I_Mo_set_thrown I_330)
                have k_375 : (2 : Int32).toInt = 2 := by decide
                have f_376 : (Mo_thrown sMo_10).toInt = (2 : Int32).toInt := by subst e_373; rfl
                have f_377 : (Mo_taped sMo_10).toInt = (Mo_taped sMo_5).toInt := by subst e_373; rfl
                unfold Mod_append_j70
                refine So.ite (fun c_378 => ?_) (fun c_378 => ?_)
                · rw [i_le] at c_378
                  refine So.gd (i_in.mpr (by omega)) ?_
                  first | have f_379 := i_mull 24 a0 (24) (by decide) (by omega) (by omega) | have f_379 := i_mullm 24 a0 (24) (by decide)
                  first | have f_380 := i_add (a := (24 * a0)) (b := (sMlengths (a0.toNatClampNeg))) (by omega) (by omega) | have f_380 := i_addm (24 * a0) (sMlengths (a0.toNatClampNeg))
                  refine So.gd (i_in.mpr (by omega)) ?_
                  refine So.lt2 fun sMlists_14 e_381 => ?_
                  have f_382 := i_natm ((24 * a0) + (sMlengths (a0.toNatClampNeg)))
                  have I_383 : A_Mlists sMlists_14 := by rw [e_381]; exact (A_Mlists_upd I_sMlists (by show (0 ≤ (a1 : Int32).toInt ∧ (a1 : Int32).toInt ≤ 63) ∨ (100 ≤ (a1 : Int32).toInt ∧ (a1 : Int32).toInt ≤ 115) ∨ (216 ≤ (a1 : Int32).toInt ∧ (a1 : Int32).toInt ≤ 343) ∨ (400 ≤ (a1 : Int32).toInt ∧ (a1 : Int32).toInt ≤ 487) ∨ (501 ≤ (a1 : Int32).toInt ∧ (a1 : Int32).toInt ≤ 516) ∨ (a1 : Int32).toInt = 520; omega))
                  refine So.gd (i_in.mpr (by omega)) ?_
                  refine So.gd (i_in.mpr (by omega)) ?_
                  refine So.lt2 fun sMlengths_17 e_384 => ?_
                  first | have f_385 := i_add (a := (sMlengths (a0.toNatClampNeg))) (b := 1) (by omega) (by omega) | have f_385 := i_addm (sMlengths (a0.toNatClampNeg)) 1
                  have I_386 : A_Mlengths sMlengths_17 := by rw [e_384]; exact (A_Mlengths_upd I_sMlengths (by show 0 ≤ (((sMlengths (a0.toNatClampNeg)) + 1) : Int32).toInt ∧ (((sMlengths (a0.toNatClampNeg)) + 1) : Int32).toInt ≤ 24 ∧ ((a0.toNatClampNeg) < 16 → (((sMlengths (a0.toNatClampNeg)) + 1) : Int32).toInt ≤ 8); omega))
                  refine So.gd (i_in.mpr (by omega)) ?_
                  exact So.one ⟨I_374, I_383, I_386, (by show 0 ≤ (Mo_thrown sMo_10).toInt; omega), (by show (Mo_thrown sMo_10).toInt ≤ 2; omega), (by show (Mo_taped sMo_10).toInt = (Mo_taped sMo).toInt; omega)⟩
                · rw [i_le] at c_378
                  exact So.one ⟨I_374, I_sMlists, I_sMlengths, (by show 0 ≤ (Mo_thrown sMo_10).toInt; omega), (by show (Mo_thrown sMo_10).toInt ≤ 2; omega), (by show (Mo_taped sMo_10).toInt = (Mo_taped sMo).toInt; omega)⟩
              · rw [i_eq] at c_369
                have f_387 := A_Mlengths_at I_sMlengths (a0.toNatClampNeg)
                have f_388 := i_natm a0
                have k_389 : (24 : Int32).toInt = 24 := by decide
                unfold Mod_append_j70
                refine So.ite (fun c_390 => ?_) (fun c_390 => ?_)
                · rw [i_le] at c_390
                  refine So.gd (i_in.mpr (by omega)) ?_
                  first | have f_391 := i_mull 24 a0 (24) (by decide) (by omega) (by omega) | have f_391 := i_mullm 24 a0 (24) (by decide)
                  first | have f_392 := i_add (a := (24 * a0)) (b := (sMlengths (a0.toNatClampNeg))) (by omega) (by omega) | have f_392 := i_addm (24 * a0) (sMlengths (a0.toNatClampNeg))
                  refine So.gd (i_in.mpr (by omega)) ?_
                  refine So.lt2 fun sMlists_14 e_393 => ?_
                  have f_394 := i_natm ((24 * a0) + (sMlengths (a0.toNatClampNeg)))
                  have I_395 : A_Mlists sMlists_14 := by rw [e_393]; exact (A_Mlists_upd I_sMlists (by show (0 ≤ (a1 : Int32).toInt ∧ (a1 : Int32).toInt ≤ 63) ∨ (100 ≤ (a1 : Int32).toInt ∧ (a1 : Int32).toInt ≤ 115) ∨ (216 ≤ (a1 : Int32).toInt ∧ (a1 : Int32).toInt ≤ 343) ∨ (400 ≤ (a1 : Int32).toInt ∧ (a1 : Int32).toInt ≤ 487) ∨ (501 ≤ (a1 : Int32).toInt ∧ (a1 : Int32).toInt ≤ 516) ∨ (a1 : Int32).toInt = 520; omega))
                  refine So.gd (i_in.mpr (by omega)) ?_
                  refine So.gd (i_in.mpr (by omega)) ?_
                  refine So.lt2 fun sMlengths_17 e_396 => ?_
                  first | have f_397 := i_add (a := (sMlengths (a0.toNatClampNeg))) (b := 1) (by omega) (by omega) | have f_397 := i_addm (sMlengths (a0.toNatClampNeg)) 1
                  have I_398 : A_Mlengths sMlengths_17 := by rw [e_396]; exact (A_Mlengths_upd I_sMlengths (by show 0 ≤ (((sMlengths (a0.toNatClampNeg)) + 1) : Int32).toInt ∧ (((sMlengths (a0.toNatClampNeg)) + 1) : Int32).toInt ≤ 24 ∧ ((a0.toNatClampNeg) < 16 → (((sMlengths (a0.toNatClampNeg)) + 1) : Int32).toInt ≤ 8); omega))
                  refine So.gd (i_in.mpr (by omega)) ?_
                  exact So.one ⟨I_330, I_395, I_398, (by show 0 ≤ (Mo_thrown sMo_5).toInt; omega), (by show (Mo_thrown sMo_5).toInt ≤ 2; omega), (by show (Mo_taped sMo_5).toInt = (Mo_taped sMo).toInt; omega)⟩
                · rw [i_le] at c_390
                  exact So.one ⟨I_330, I_sMlists, I_sMlengths, (by show 0 ≤ (Mo_thrown sMo_5).toInt; omega), (by show (Mo_thrown sMo_5).toInt ≤ 2; omega), (by show (Mo_taped sMo_5).toInt = (Mo_taped sMo).toInt; omega)⟩
          · rw [i_eq] at c_335
            unfold Mod_append_j70
            refine So.ite (fun c_399 => ?_) (fun c_399 => ?_)
            · rw [i_le] at c_399
              refine So.gd (i_in.mpr (by omega)) ?_
              have k_400 : (24 : Int32).toInt = 24 := by decide
              first | have f_401 := i_mull 24 a0 (24) (by decide) (by omega) (by omega) | have f_401 := i_mullm 24 a0 (24) (by decide)
              have f_402 := A_Mlengths_at I_sMlengths (a0.toNatClampNeg)
              have f_403 := i_natm a0
              first | have f_404 := i_add (a := (24 * a0)) (b := (sMlengths (a0.toNatClampNeg))) (by omega) (by omega) | have f_404 := i_addm (24 * a0) (sMlengths (a0.toNatClampNeg))
              refine So.gd (i_in.mpr (by omega)) ?_
              refine So.lt2 fun sMlists_14 e_405 => ?_
              have f_406 := i_natm ((24 * a0) + (sMlengths (a0.toNatClampNeg)))
              have I_407 : A_Mlists sMlists_14 := by rw [e_405]; exact (A_Mlists_upd I_sMlists (by show (0 ≤ (a1 : Int32).toInt ∧ (a1 : Int32).toInt ≤ 63) ∨ (100 ≤ (a1 : Int32).toInt ∧ (a1 : Int32).toInt ≤ 115) ∨ (216 ≤ (a1 : Int32).toInt ∧ (a1 : Int32).toInt ≤ 343) ∨ (400 ≤ (a1 : Int32).toInt ∧ (a1 : Int32).toInt ≤ 487) ∨ (501 ≤ (a1 : Int32).toInt ∧ (a1 : Int32).toInt ≤ 516) ∨ (a1 : Int32).toInt = 520; omega))
              refine So.gd (i_in.mpr (by omega)) ?_
              refine So.gd (i_in.mpr (by omega)) ?_
              refine So.lt2 fun sMlengths_17 e_408 => ?_
              first | have f_409 := i_add (a := (sMlengths (a0.toNatClampNeg))) (b := 1) (by omega) (by omega) | have f_409 := i_addm (sMlengths (a0.toNatClampNeg)) 1
              have I_410 : A_Mlengths sMlengths_17 := by rw [e_408]; exact (A_Mlengths_upd I_sMlengths (by show 0 ≤ (((sMlengths (a0.toNatClampNeg)) + 1) : Int32).toInt ∧ (((sMlengths (a0.toNatClampNeg)) + 1) : Int32).toInt ≤ 24 ∧ ((a0.toNatClampNeg) < 16 → (((sMlengths (a0.toNatClampNeg)) + 1) : Int32).toInt ≤ 8); omega))
              refine So.gd (i_in.mpr (by omega)) ?_
              exact So.one ⟨I_330, I_407, I_410, (by show 0 ≤ (Mo_thrown sMo_5).toInt; omega), (by show (Mo_thrown sMo_5).toInt ≤ 2; omega), (by show (Mo_taped sMo_5).toInt = (Mo_taped sMo).toInt; omega)⟩
            · rw [i_le] at c_399
              exact So.one ⟨I_330, I_sMlists, I_sMlengths, (by show 0 ≤ (Mo_thrown sMo_5).toInt; omega), (by show (Mo_thrown sMo_5).toInt ≤ 2; omega), (by show (Mo_taped sMo_5).toInt = (Mo_taped sMo).toInt; omega)⟩
        · rw [i_le] at c_334
          unfold Mod_append_j37
          refine So.ite (fun c_411 => ?_) (fun c_411 => ?_)
          · rw [i_eq] at c_411
            have k_412 : (16 : Int32).toInt = 16 := by decide
            refine So.gd (i_in.mpr (by omega)) ?_
            refine So.ite (fun c_413 => ?_) (fun c_413 => ?_)
            · rw [i_le] at c_413
              unfold Mod_append_j62
              refine So.ite (fun c_414 => ?_) (fun c_414 => ?_)
              · rw [i_eq] at c_414
                have f_415 := A_Mlengths_at I_sMlengths ((16 : Int32).toNatClampNeg)
                have f_416 := i_natm (16 : Int32)
                have k_417 : (8 : Int32).toInt = 8 := by decide
                refine So.lt2 fun sMo_10 e_418 => ?_
                have I_419 : I_Mo sMo_10 := by rw [e_418]; exact (I_Mo_set_thrown I_330)
                have k_420 : (2 : Int32).toInt = 2 := by decide
                have f_421 : (Mo_thrown sMo_10).toInt = (2 : Int32).toInt := by subst e_418; rfl
                have f_422 : (Mo_taped sMo_10).toInt = (Mo_taped sMo_5).toInt := by subst e_418; rfl
                unfold Mod_append_j70
                refine So.ite (fun c_423 => ?_) (fun c_423 => ?_)
                · rw [i_le] at c_423
                  refine So.gd (i_in.mpr (by omega)) ?_
                  have k_424 : ((24 * 16) : Int32).toInt = 384 := by decide
                  first | have f_425 := i_add (a := ((24 * 16) : Int32)) (b := (sMlengths ((16 : Int32).toNatClampNeg))) (by omega) (by omega) | have f_425 := i_addm ((24 * 16) : Int32) (sMlengths ((16 : Int32).toNatClampNeg))
                  refine So.gd (i_in.mpr (by omega)) ?_
                  refine So.lt2 fun sMlists_14 e_426 => ?_
                  have f_427 := i_natm ((24 * 16) + (sMlengths ((16 : Int32).toNatClampNeg)))
                  have I_428 : A_Mlists sMlists_14 := by rw [e_426]; exact (A_Mlists_upd I_sMlists (by show (0 ≤ (a1 : Int32).toInt ∧ (a1 : Int32).toInt ≤ 63) ∨ (100 ≤ (a1 : Int32).toInt ∧ (a1 : Int32).toInt ≤ 115) ∨ (216 ≤ (a1 : Int32).toInt ∧ (a1 : Int32).toInt ≤ 343) ∨ (400 ≤ (a1 : Int32).toInt ∧ (a1 : Int32).toInt ≤ 487) ∨ (501 ≤ (a1 : Int32).toInt ∧ (a1 : Int32).toInt ≤ 516) ∨ (a1 : Int32).toInt = 520; omega))
                  refine So.gd (i_in.mpr (by omega)) ?_
                  refine So.gd (i_in.mpr (by omega)) ?_
                  refine So.lt2 fun sMlengths_17 e_429 => ?_
                  first | have f_430 := i_add (a := (sMlengths ((16 : Int32).toNatClampNeg))) (b := 1) (by omega) (by omega) | have f_430 := i_addm (sMlengths ((16 : Int32).toNatClampNeg)) 1
                  have I_431 : A_Mlengths sMlengths_17 := by rw [e_429]; exact (A_Mlengths_upd I_sMlengths (by show 0 ≤ (((sMlengths ((16 : Int32).toNatClampNeg)) + 1) : Int32).toInt ∧ (((sMlengths ((16 : Int32).toNatClampNeg)) + 1) : Int32).toInt ≤ 24 ∧ (((16 : Int32).toNatClampNeg) < 16 → (((sMlengths ((16 : Int32).toNatClampNeg)) + 1) : Int32).toInt ≤ 8); omega))
                  refine So.gd (i_in.mpr (by omega)) ?_
                  exact So.one ⟨I_419, I_428, I_431, (by show 0 ≤ (Mo_thrown sMo_10).toInt; omega), (by show (Mo_thrown sMo_10).toInt ≤ 2; omega), (by show (Mo_taped sMo_10).toInt = (Mo_taped sMo).toInt; omega)⟩
                · rw [i_le] at c_423
                  exact So.one ⟨I_419, I_sMlists, I_sMlengths, (by show 0 ≤ (Mo_thrown sMo_10).toInt; omega), (by show (Mo_thrown sMo_10).toInt ≤ 2; omega), (by show (Mo_taped sMo_10).toInt = (Mo_taped sMo).toInt; omega)⟩
              · rw [i_eq] at c_414
                have f_432 := A_Mlengths_at I_sMlengths ((16 : Int32).toNatClampNeg)
                have f_433 := i_natm (16 : Int32)
                have k_434 : (8 : Int32).toInt = 8 := by decide
                unfold Mod_append_j70
                refine So.ite (fun c_435 => ?_) (fun c_435 => ?_)
                · rw [i_le] at c_435
                  refine So.gd (i_in.mpr (by omega)) ?_
                  have k_436 : ((24 * 16) : Int32).toInt = 384 := by decide
                  first | have f_437 := i_add (a := ((24 * 16) : Int32)) (b := (sMlengths ((16 : Int32).toNatClampNeg))) (by omega) (by omega) | have f_437 := i_addm ((24 * 16) : Int32) (sMlengths ((16 : Int32).toNatClampNeg))
                  refine So.gd (i_in.mpr (by omega)) ?_
                  refine So.lt2 fun sMlists_14 e_438 => ?_
                  have f_439 := i_natm ((24 * 16) + (sMlengths ((16 : Int32).toNatClampNeg)))
                  have I_440 : A_Mlists sMlists_14 := by rw [e_438]; exact (A_Mlists_upd I_sMlists (by show (0 ≤ (a1 : Int32).toInt ∧ (a1 : Int32).toInt ≤ 63) ∨ (100 ≤ (a1 : Int32).toInt ∧ (a1 : Int32).toInt ≤ 115) ∨ (216 ≤ (a1 : Int32).toInt ∧ (a1 : Int32).toInt ≤ 343) ∨ (400 ≤ (a1 : Int32).toInt ∧ (a1 : Int32).toInt ≤ 487) ∨ (501 ≤ (a1 : Int32).toInt ∧ (a1 : Int32).toInt ≤ 516) ∨ (a1 : Int32).toInt = 520; omega))
                  refine So.gd (i_in.mpr (by omega)) ?_
                  refine So.gd (i_in.mpr (by omega)) ?_
                  refine So.lt2 fun sMlengths_17 e_441 => ?_
                  first | have f_442 := i_add (a := (sMlengths ((16 : Int32).toNatClampNeg))) (b := 1) (by omega) (by omega) | have f_442 := i_addm (sMlengths ((16 : Int32).toNatClampNeg)) 1
                  have I_443 : A_Mlengths sMlengths_17 := by rw [e_441]; exact (A_Mlengths_upd I_sMlengths (by show 0 ≤ (((sMlengths ((16 : Int32).toNatClampNeg)) + 1) : Int32).toInt ∧ (((sMlengths ((16 : Int32).toNatClampNeg)) + 1) : Int32).toInt ≤ 24 ∧ (((16 : Int32).toNatClampNeg) < 16 → (((sMlengths ((16 : Int32).toNatClampNeg)) + 1) : Int32).toInt ≤ 8); omega))
                  refine So.gd (i_in.mpr (by omega)) ?_
                  exact So.one ⟨I_330, I_440, I_443, (by show 0 ≤ (Mo_thrown sMo_5).toInt; omega), (by show (Mo_thrown sMo_5).toInt ≤ 2; omega), (by show (Mo_taped sMo_5).toInt = (Mo_taped sMo).toInt; omega)⟩
                · rw [i_le] at c_435
                  exact So.one ⟨I_330, I_sMlists, I_sMlengths, (by show 0 ≤ (Mo_thrown sMo_5).toInt; omega), (by show (Mo_thrown sMo_5).toInt ≤ 2; omega), (by show (Mo_taped sMo_5).toInt = (Mo_taped sMo).toInt; omega)⟩
            · rw [i_le] at c_413
              unfold Mod_append_j62
              refine So.ite (fun c_444 => ?_) (fun c_444 => ?_)
              · rw [i_eq] at c_444
                have f_445 := A_Mlengths_at I_sMlengths ((16 : Int32).toNatClampNeg)
                have f_446 := i_natm (16 : Int32)
                have k_447 : (24 : Int32).toInt = 24 := by decide
                refine So.lt2 fun sMo_10 e_448 => ?_
                have I_449 : I_Mo sMo_10 := by rw [e_448]; exact (I_Mo_set_thrown I_330)
                have k_450 : (2 : Int32).toInt = 2 := by decide
                have f_451 : (Mo_thrown sMo_10).toInt = (2 : Int32).toInt := by subst e_448; rfl
                have f_452 : (Mo_taped sMo_10).toInt = (Mo_taped sMo_5).toInt := by subst e_448; rfl
                unfold Mod_append_j70
                refine So.ite (fun c_453 => ?_) (fun c_453 => ?_)
                · rw [i_le] at c_453
                  refine So.gd (i_in.mpr (by omega)) ?_
                  have k_454 : ((24 * 16) : Int32).toInt = 384 := by decide
                  first | have f_455 := i_add (a := ((24 * 16) : Int32)) (b := (sMlengths ((16 : Int32).toNatClampNeg))) (by omega) (by omega) | have f_455 := i_addm ((24 * 16) : Int32) (sMlengths ((16 : Int32).toNatClampNeg))
                  refine So.gd (i_in.mpr (by omega)) ?_
                  refine So.lt2 fun sMlists_14 e_456 => ?_
                  have f_457 := i_natm ((24 * 16) + (sMlengths ((16 : Int32).toNatClampNeg)))
                  have I_458 : A_Mlists sMlists_14 := by rw [e_456]; exact (A_Mlists_upd I_sMlists (by show (0 ≤ (a1 : Int32).toInt ∧ (a1 : Int32).toInt ≤ 63) ∨ (100 ≤ (a1 : Int32).toInt ∧ (a1 : Int32).toInt ≤ 115) ∨ (216 ≤ (a1 : Int32).toInt ∧ (a1 : Int32).toInt ≤ 343) ∨ (400 ≤ (a1 : Int32).toInt ∧ (a1 : Int32).toInt ≤ 487) ∨ (501 ≤ (a1 : Int32).toInt ∧ (a1 : Int32).toInt ≤ 516) ∨ (a1 : Int32).toInt = 520; omega))
                  refine So.gd (i_in.mpr (by omega)) ?_
                  refine So.gd (i_in.mpr (by omega)) ?_
                  refine So.lt2 fun sMlengths_17 e_459 => ?_
                  first | have f_460 := i_add (a := (sMlengths ((16 : Int32).toNatClampNeg))) (b := 1) (by omega) (by omega) | have f_460 := i_addm (sMlengths ((16 : Int32).toNatClampNeg)) 1
                  have I_461 : A_Mlengths sMlengths_17 := by rw [e_459]; exact (A_Mlengths_upd I_sMlengths (by show 0 ≤ (((sMlengths ((16 : Int32).toNatClampNeg)) + 1) : Int32).toInt ∧ (((sMlengths ((16 : Int32).toNatClampNeg)) + 1) : Int32).toInt ≤ 24 ∧ (((16 : Int32).toNatClampNeg) < 16 → (((sMlengths ((16 : Int32).toNatClampNeg)) + 1) : Int32).toInt ≤ 8); omega))
                  refine So.gd (i_in.mpr (by omega)) ?_
                  exact So.one ⟨I_449, I_458, I_461, (by show 0 ≤ (Mo_thrown sMo_10).toInt; omega), (by show (Mo_thrown sMo_10).toInt ≤ 2; omega), (by show (Mo_taped sMo_10).toInt = (Mo_taped sMo).toInt; omega)⟩
                · rw [i_le] at c_453
                  exact So.one ⟨I_449, I_sMlists, I_sMlengths, (by show 0 ≤ (Mo_thrown sMo_10).toInt; omega), (by show (Mo_thrown sMo_10).toInt ≤ 2; omega), (by show (Mo_taped sMo_10).toInt = (Mo_taped sMo).toInt; omega)⟩
              · rw [i_eq] at c_444
                have f_462 := A_Mlengths_at I_sMlengths ((16 : Int32).toNatClampNeg)
                have f_463 := i_natm (16 : Int32)
                have k_464 : (24 : Int32).toInt = 24 := by decide
                unfold Mod_append_j70
                refine So.ite (fun c_465 => ?_) (fun c_465 => ?_)
                · rw [i_le] at c_465
                  refine So.gd (i_in.mpr (by omega)) ?_
                  have k_466 : ((24 * 16) : Int32).toInt = 384 := by decide
                  first | have f_467 := i_add (a := ((24 * 16) : Int32)) (b := (sMlengths ((16 : Int32).toNatClampNeg))) (by omega) (by omega) | have f_467 := i_addm ((24 * 16) : Int32) (sMlengths ((16 : Int32).toNatClampNeg))
                  refine So.gd (i_in.mpr (by omega)) ?_
                  refine So.lt2 fun sMlists_14 e_468 => ?_
                  have f_469 := i_natm ((24 * 16) + (sMlengths ((16 : Int32).toNatClampNeg)))
                  have I_470 : A_Mlists sMlists_14 := by rw [e_468]; exact (A_Mlists_upd I_sMlists (by show (0 ≤ (a1 : Int32).toInt ∧ (a1 : Int32).toInt ≤ 63) ∨ (100 ≤ (a1 : Int32).toInt ∧ (a1 : Int32).toInt ≤ 115) ∨ (216 ≤ (a1 : Int32).toInt ∧ (a1 : Int32).toInt ≤ 343) ∨ (400 ≤ (a1 : Int32).toInt ∧ (a1 : Int32).toInt ≤ 487) ∨ (501 ≤ (a1 : Int32).toInt ∧ (a1 : Int32).toInt ≤ 516) ∨ (a1 : Int32).toInt = 520; omega))
                  refine So.gd (i_in.mpr (by omega)) ?_
                  refine So.gd (i_in.mpr (by omega)) ?_
                  refine So.lt2 fun sMlengths_17 e_471 => ?_
                  first | have f_472 := i_add (a := (sMlengths ((16 : Int32).toNatClampNeg))) (b := 1) (by omega) (by omega) | have f_472 := i_addm (sMlengths ((16 : Int32).toNatClampNeg)) 1
                  have I_473 : A_Mlengths sMlengths_17 := by rw [e_471]; exact (A_Mlengths_upd I_sMlengths (by show 0 ≤ (((sMlengths ((16 : Int32).toNatClampNeg)) + 1) : Int32).toInt ∧ (((sMlengths ((16 : Int32).toNatClampNeg)) + 1) : Int32).toInt ≤ 24 ∧ (((16 : Int32).toNatClampNeg) < 16 → (((sMlengths ((16 : Int32).toNatClampNeg)) + 1) : Int32).toInt ≤ 8); omega))
                  refine So.gd (i_in.mpr (by omega)) ?_
                  exact So.one ⟨I_330, I_470, I_473, (by show 0 ≤ (Mo_thrown sMo_5).toInt; omega), (by show (Mo_thrown sMo_5).toInt ≤ 2; omega), (by show (Mo_taped sMo_5).toInt = (Mo_taped sMo).toInt; omega)⟩
                · rw [i_le] at c_465
                  exact So.one ⟨I_330, I_sMlists, I_sMlengths, (by show 0 ≤ (Mo_thrown sMo_5).toInt; omega), (by show (Mo_thrown sMo_5).toInt ≤ 2; omega), (by show (Mo_taped sMo_5).toInt = (Mo_taped sMo).toInt; omega)⟩
          · rw [i_eq] at c_411
            unfold Mod_append_j70
            refine So.ite (fun c_474 => ?_) (fun c_474 => ?_)
            · rw [i_le] at c_474
              have k_475 : (16 : Int32).toInt = 16 := by decide
              refine So.gd (i_in.mpr (by omega)) ?_
              have k_476 : ((24 * 16) : Int32).toInt = 384 := by decide
              have f_477 := A_Mlengths_at I_sMlengths ((16 : Int32).toNatClampNeg)
              have f_478 := i_natm (16 : Int32)
              first | have f_479 := i_add (a := ((24 * 16) : Int32)) (b := (sMlengths ((16 : Int32).toNatClampNeg))) (by omega) (by omega) | have f_479 := i_addm ((24 * 16) : Int32) (sMlengths ((16 : Int32).toNatClampNeg))
              refine So.gd (i_in.mpr (by omega)) ?_
              refine So.lt2 fun sMlists_14 e_480 => ?_
              have f_481 := i_natm ((24 * 16) + (sMlengths ((16 : Int32).toNatClampNeg)))
              have I_482 : A_Mlists sMlists_14 := by rw [e_480]; exact (A_Mlists_upd I_sMlists (by show (0 ≤ (a1 : Int32).toInt ∧ (a1 : Int32).toInt ≤ 63) ∨ (100 ≤ (a1 : Int32).toInt ∧ (a1 : Int32).toInt ≤ 115) ∨ (216 ≤ (a1 : Int32).toInt ∧ (a1 : Int32).toInt ≤ 343) ∨ (400 ≤ (a1 : Int32).toInt ∧ (a1 : Int32).toInt ≤ 487) ∨ (501 ≤ (a1 : Int32).toInt ∧ (a1 : Int32).toInt ≤ 516) ∨ (a1 : Int32).toInt = 520; omega))
              refine So.gd (i_in.mpr (by omega)) ?_
              refine So.gd (i_in.mpr (by omega)) ?_
              refine So.lt2 fun sMlengths_17 e_483 => ?_
              first | have f_484 := i_add (a := (sMlengths ((16 : Int32).toNatClampNeg))) (b := 1) (by omega) (by omega) | have f_484 := i_addm (sMlengths ((16 : Int32).toNatClampNeg)) 1
              have I_485 : A_Mlengths sMlengths_17 := by rw [e_483]; exact (A_Mlengths_upd I_sMlengths (by show 0 ≤ (((sMlengths ((16 : Int32).toNatClampNeg)) + 1) : Int32).toInt ∧ (((sMlengths ((16 : Int32).toNatClampNeg)) + 1) : Int32).toInt ≤ 24 ∧ (((16 : Int32).toNatClampNeg) < 16 → (((sMlengths ((16 : Int32).toNatClampNeg)) + 1) : Int32).toInt ≤ 8); omega))
              refine So.gd (i_in.mpr (by omega)) ?_
              exact So.one ⟨I_330, I_482, I_485, (by show 0 ≤ (Mo_thrown sMo_5).toInt; omega), (by show (Mo_thrown sMo_5).toInt ≤ 2; omega), (by show (Mo_taped sMo_5).toInt = (Mo_taped sMo).toInt; omega)⟩
            · rw [i_le] at c_474
              exact So.one ⟨I_330, I_sMlists, I_sMlengths, (by show 0 ≤ (Mo_thrown sMo_5).toInt; omega), (by show (Mo_thrown sMo_5).toInt ≤ 2; omega), (by show (Mo_taped sMo_5).toInt = (Mo_taped sMo).toInt; omega)⟩
      · rw [i_eq] at c_327
        have k_486 : (0 : Int32).toInt = 0 := by decide
        unfold Mod_append_j24
        refine So.lt2 fun sMo_5 e_487 => ?_
        have I_488 : I_Mo sMo_5 := by rw [e_487]; exact (I_Mo_set_thrown I_sMo)
        have f_489 : (Mo_thrown sMo_5).toInt = (0 : Int32).toInt := by subst e_487; rfl
        have f_490 : (Mo_taped sMo_5).toInt = (Mo_taped sMo).toInt := by subst e_487; rfl
        refine So.ite (fun c_491 => ?_) (fun c_491 => ?_)
        · rw [i_le] at c_491
          unfold Mod_append_j37
          refine So.ite (fun c_492 => ?_) (fun c_492 => ?_)
          · rw [i_eq] at c_492
            refine So.gd (i_in.mpr (by omega)) ?_
            refine So.ite (fun c_493 => ?_) (fun c_493 => ?_)
            · rw [i_le] at c_493
              unfold Mod_append_j62
              refine So.ite (fun c_494 => ?_) (fun c_494 => ?_)
              · rw [i_eq] at c_494
                have f_495 := A_Mlengths_at I_sMlengths (a0.toNatClampNeg)
                have f_496 := i_natm a0
                have k_497 : (8 : Int32).toInt = 8 := by decide
                refine So.lt2 fun sMo_10 e_498 => ?_
                have I_499 : I_Mo sMo_10 := by rw [e_498]; exact (I_Mo_set_thrown I_488)
                have k_500 : (2 : Int32).toInt = 2 := by decide
                have f_501 : (Mo_thrown sMo_10).toInt = (2 : Int32).toInt := by subst e_498; rfl
                have f_502 : (Mo_taped sMo_10).toInt = (Mo_taped sMo_5).toInt := by subst e_498; rfl
                unfold Mod_append_j70
                refine So.ite (fun c_503 => ?_) (fun c_503 => ?_)
                · rw [i_le] at c_503
                  refine So.gd (i_in.mpr (by omega)) ?_
                  have k_504 : (24 : Int32).toInt = 24 := by decide
                  first | have f_505 := i_mull 24 a0 (24) (by decide) (by omega) (by omega) | have f_505 := i_mullm 24 a0 (24) (by decide)
                  first | have f_506 := i_add (a := (24 * a0)) (b := (sMlengths (a0.toNatClampNeg))) (by omega) (by omega) | have f_506 := i_addm (24 * a0) (sMlengths (a0.toNatClampNeg))
                  refine So.gd (i_in.mpr (by omega)) ?_
                  refine So.lt2 fun sMlists_14 e_507 => ?_
                  have f_508 := i_natm ((24 * a0) + (sMlengths (a0.toNatClampNeg)))
                  have I_509 : A_Mlists sMlists_14 := by rw [e_507]; exact (A_Mlists_upd I_sMlists (by show (0 ≤ (a1 : Int32).toInt ∧ (a1 : Int32).toInt ≤ 63) ∨ (100 ≤ (a1 : Int32).toInt ∧ (a1 : Int32).toInt ≤ 115) ∨ (216 ≤ (a1 : Int32).toInt ∧ (a1 : Int32).toInt ≤ 343) ∨ (400 ≤ (a1 : Int32).toInt ∧ (a1 : Int32).toInt ≤ 487) ∨ (501 ≤ (a1 : Int32).toInt ∧ (a1 : Int32).toInt ≤ 516) ∨ (a1 : Int32).toInt = 520; omega))
                  refine So.gd (i_in.mpr (by omega)) ?_
                  refine So.gd (i_in.mpr (by omega)) ?_
                  refine So.lt2 fun sMlengths_17 e_510 => ?_
                  have k_511 : (1 : Int32).toInt = 1 := by decide
                  first | have f_512 := i_add (a := (sMlengths (a0.toNatClampNeg))) (b := 1) (by omega) (by omega) | have f_512 := i_addm (sMlengths (a0.toNatClampNeg)) 1
                  have I_513 : A_Mlengths sMlengths_17 := by rw [e_510]; exact (A_Mlengths_upd I_sMlengths (by show 0 ≤ (((sMlengths (a0.toNatClampNeg)) + 1) : Int32).toInt ∧ (((sMlengths (a0.toNatClampNeg)) + 1) : Int32).toInt ≤ 24 ∧ ((a0.toNatClampNeg) < 16 → (((sMlengths (a0.toNatClampNeg)) + 1) : Int32).toInt ≤ 8); omega))
                  refine So.gd (i_in.mpr (by omega)) ?_
                  exact So.one ⟨I_499, I_509, I_513, (by show 0 ≤ (Mo_thrown sMo_10).toInt; omega), (by show (Mo_thrown sMo_10).toInt ≤ 2; omega), (by show (Mo_taped sMo_10).toInt = (Mo_taped sMo).toInt; omega)⟩
                · rw [i_le] at c_503
                  exact So.one ⟨I_499, I_sMlists, I_sMlengths, (by show 0 ≤ (Mo_thrown sMo_10).toInt; omega), (by show (Mo_thrown sMo_10).toInt ≤ 2; omega), (by show (Mo_taped sMo_10).toInt = (Mo_taped sMo).toInt; omega)⟩
              · rw [i_eq] at c_494
                have f_514 := A_Mlengths_at I_sMlengths (a0.toNatClampNeg)
                have f_515 := i_natm a0
                have k_516 : (8 : Int32).toInt = 8 := by decide
                unfold Mod_append_j70
                refine So.ite (fun c_517 => ?_) (fun c_517 => ?_)
                · rw [i_le] at c_517
                  refine So.gd (i_in.mpr (by omega)) ?_
                  have k_518 : (24 : Int32).toInt = 24 := by decide
                  first | have f_519 := i_mull 24 a0 (24) (by decide) (by omega) (by omega) | have f_519 := i_mullm 24 a0 (24) (by decide)
                  first | have f_520 := i_add (a := (24 * a0)) (b := (sMlengths (a0.toNatClampNeg))) (by omega) (by omega) | have f_520 := i_addm (24 * a0) (sMlengths (a0.toNatClampNeg))
                  refine So.gd (i_in.mpr (by omega)) ?_
                  refine So.lt2 fun sMlists_14 e_521 => ?_
                  have f_522 := i_natm ((24 * a0) + (sMlengths (a0.toNatClampNeg)))
                  have I_523 : A_Mlists sMlists_14 := by rw [e_521]; exact (A_Mlists_upd I_sMlists (by show (0 ≤ (a1 : Int32).toInt ∧ (a1 : Int32).toInt ≤ 63) ∨ (100 ≤ (a1 : Int32).toInt ∧ (a1 : Int32).toInt ≤ 115) ∨ (216 ≤ (a1 : Int32).toInt ∧ (a1 : Int32).toInt ≤ 343) ∨ (400 ≤ (a1 : Int32).toInt ∧ (a1 : Int32).toInt ≤ 487) ∨ (501 ≤ (a1 : Int32).toInt ∧ (a1 : Int32).toInt ≤ 516) ∨ (a1 : Int32).toInt = 520; omega))
                  refine So.gd (i_in.mpr (by omega)) ?_
                  refine So.gd (i_in.mpr (by omega)) ?_
                  refine So.lt2 fun sMlengths_17 e_524 => ?_
                  have k_525 : (1 : Int32).toInt = 1 := by decide
                  first | have f_526 := i_add (a := (sMlengths (a0.toNatClampNeg))) (b := 1) (by omega) (by omega) | have f_526 := i_addm (sMlengths (a0.toNatClampNeg)) 1
                  have I_527 : A_Mlengths sMlengths_17 := by rw [e_524]; exact (A_Mlengths_upd I_sMlengths (by show 0 ≤ (((sMlengths (a0.toNatClampNeg)) + 1) : Int32).toInt ∧ (((sMlengths (a0.toNatClampNeg)) + 1) : Int32).toInt ≤ 24 ∧ ((a0.toNatClampNeg) < 16 → (((sMlengths (a0.toNatClampNeg)) + 1) : Int32).toInt ≤ 8); omega))
                  refine So.gd (i_in.mpr (by omega)) ?_
                  exact So.one ⟨I_488, I_523, I_527, (by show 0 ≤ (Mo_thrown sMo_5).toInt; omega), (by show (Mo_thrown sMo_5).toInt ≤ 2; omega), (by show (Mo_taped sMo_5).toInt = (Mo_taped sMo).toInt; omega)⟩
                · rw [i_le] at c_517
                  exact So.one ⟨I_488, I_sMlists, I_sMlengths, (by show 0 ≤ (Mo_thrown sMo_5).toInt; omega), (by show (Mo_thrown sMo_5).toInt ≤ 2; omega), (by show (Mo_taped sMo_5).toInt = (Mo_taped sMo).toInt; omega)⟩
            · rw [i_le] at c_493
              unfold Mod_append_j62
              refine So.ite (fun c_528 => ?_) (fun c_528 => ?_)
              · rw [i_eq] at c_528
                have f_529 := A_Mlengths_at I_sMlengths (a0.toNatClampNeg)
                have f_530 := i_natm a0
                have k_531 : (24 : Int32).toInt = 24 := by decide
                refine So.lt2 fun sMo_10 e_532 => ?_
                have I_533 : I_Mo sMo_10 := by rw [e_532]; exact (I_Mo_set_thrown I_488)
                have k_534 : (2 : Int32).toInt = 2 := by decide
                have f_535 : (Mo_thrown sMo_10).toInt = (2 : Int32).toInt := by subst e_532; rfl
                have f_536 : (Mo_taped sMo_10).toInt = (Mo_taped sMo_5).toInt := by subst e_532; rfl
                unfold Mod_append_j70
                refine So.ite (fun c_537 => ?_) (fun c_537 => ?_)
                · rw [i_le] at c_537
                  refine So.gd (i_in.mpr (by omega)) ?_
                  first | have f_538 := i_mull 24 a0 (24) (by decide) (by omega) (by omega) | have f_538 := i_mullm 24 a0 (24) (by decide)
                  first | have f_539 := i_add (a := (24 * a0)) (b := (sMlengths (a0.toNatClampNeg))) (by omega) (by omega) | have f_539 := i_addm (24 * a0) (sMlengths (a0.toNatClampNeg))
                  refine So.gd (i_in.mpr (by omega)) ?_
                  refine So.lt2 fun sMlists_14 e_540 => ?_
                  have f_541 := i_natm ((24 * a0) + (sMlengths (a0.toNatClampNeg)))
                  have I_542 : A_Mlists sMlists_14 := by rw [e_540]; exact (A_Mlists_upd I_sMlists (by show (0 ≤ (a1 : Int32).toInt ∧ (a1 : Int32).toInt ≤ 63) ∨ (100 ≤ (a1 : Int32).toInt ∧ (a1 : Int32).toInt ≤ 115) ∨ (216 ≤ (a1 : Int32).toInt ∧ (a1 : Int32).toInt ≤ 343) ∨ (400 ≤ (a1 : Int32).toInt ∧ (a1 : Int32).toInt ≤ 487) ∨ (501 ≤ (a1 : Int32).toInt ∧ (a1 : Int32).toInt ≤ 516) ∨ (a1 : Int32).toInt = 520; omega))
                  refine So.gd (i_in.mpr (by omega)) ?_
                  refine So.gd (i_in.mpr (by omega)) ?_
                  refine So.lt2 fun sMlengths_17 e_543 => ?_
                  have k_544 : (1 : Int32).toInt = 1 := by decide
                  first | have f_545 := i_add (a := (sMlengths (a0.toNatClampNeg))) (b := 1) (by omega) (by omega) | have f_545 := i_addm (sMlengths (a0.toNatClampNeg)) 1
                  have I_546 : A_Mlengths sMlengths_17 := by rw [e_543]; exact (A_Mlengths_upd I_sMlengths (by show 0 ≤ (((sMlengths (a0.toNatClampNeg)) + 1) : Int32).toInt ∧ (((sMlengths (a0.toNatClampNeg)) + 1) : Int32).toInt ≤ 24 ∧ ((a0.toNatClampNeg) < 16 → (((sMlengths (a0.toNatClampNeg)) + 1) : Int32).toInt ≤ 8); omega))
                  refine So.gd (i_in.mpr (by omega)) ?_
                  exact So.one ⟨I_533, I_542, I_546, (by show 0 ≤ (Mo_thrown sMo_10).toInt; omega), (by show (Mo_thrown sMo_10).toInt ≤ 2; omega), (by show (Mo_taped sMo_10).toInt = (Mo_taped sMo).toInt; omega)⟩
                · rw [i_le] at c_537
                  exact So.one ⟨I_533, I_sMlists, I_sMlengths, (by show 0 ≤ (Mo_thrown sMo_10).toInt; omega), (by show (Mo_thrown sMo_10).toInt ≤ 2; omega), (by show (Mo_taped sMo_10).toInt = (Mo_taped sMo).toInt; omega)⟩
              · rw [i_eq] at c_528
                have f_547 := A_Mlengths_at I_sMlengths (a0.toNatClampNeg)
                have f_548 := i_natm a0
                have k_549 : (24 : Int32).toInt = 24 := by decide
                unfold Mod_append_j70
                refine So.ite (fun c_550 => ?_) (fun c_550 => ?_)
                · rw [i_le] at c_550
                  refine So.gd (i_in.mpr (by omega)) ?_
                  first | have f_551 := i_mull 24 a0 (24) (by decide) (by omega) (by omega) | have f_551 := i_mullm 24 a0 (24) (by decide)
                  first | have f_552 := i_add (a := (24 * a0)) (b := (sMlengths (a0.toNatClampNeg))) (by omega) (by omega) | have f_552 := i_addm (24 * a0) (sMlengths (a0.toNatClampNeg))
                  refine So.gd (i_in.mpr (by omega)) ?_
                  refine So.lt2 fun sMlists_14 e_553 => ?_
                  have f_554 := i_natm ((24 * a0) + (sMlengths (a0.toNatClampNeg)))
                  have I_555 : A_Mlists sMlists_14 := by rw [e_553]; exact (A_Mlists_upd I_sMlists (by show (0 ≤ (a1 : Int32).toInt ∧ (a1 : Int32).toInt ≤ 63) ∨ (100 ≤ (a1 : Int32).toInt ∧ (a1 : Int32).toInt ≤ 115) ∨ (216 ≤ (a1 : Int32).toInt ∧ (a1 : Int32).toInt ≤ 343) ∨ (400 ≤ (a1 : Int32).toInt ∧ (a1 : Int32).toInt ≤ 487) ∨ (501 ≤ (a1 : Int32).toInt ∧ (a1 : Int32).toInt ≤ 516) ∨ (a1 : Int32).toInt = 520; omega))
                  refine So.gd (i_in.mpr (by omega)) ?_
                  refine So.gd (i_in.mpr (by omega)) ?_
                  refine So.lt2 fun sMlengths_17 e_556 => ?_
                  have k_557 : (1 : Int32).toInt = 1 := by decide
                  first | have f_558 := i_add (a := (sMlengths (a0.toNatClampNeg))) (b := 1) (by omega) (by omega) | have f_558 := i_addm (sMlengths (a0.toNatClampNeg)) 1
                  have I_559 : A_Mlengths sMlengths_17 := by rw [e_556]; exact (A_Mlengths_upd I_sMlengths (by show 0 ≤ (((sMlengths (a0.toNatClampNeg)) + 1) : Int32).toInt ∧ (((sMlengths (a0.toNatClampNeg)) + 1) : Int32).toInt ≤ 24 ∧ ((a0.toNatClampNeg) < 16 → (((sMlengths (a0.toNatClampNeg)) + 1) : Int32).toInt ≤ 8); omega))
                  refine So.gd (i_in.mpr (by omega)) ?_
                  exact So.one ⟨I_488, I_555, I_559, (by show 0 ≤ (Mo_thrown sMo_5).toInt; omega), (by show (Mo_thrown sMo_5).toInt ≤ 2; omega), (by show (Mo_taped sMo_5).toInt = (Mo_taped sMo).toInt; omega)⟩
                · rw [i_le] at c_550
                  exact So.one ⟨I_488, I_sMlists, I_sMlengths, (by show 0 ≤ (Mo_thrown sMo_5).toInt; omega), (by show (Mo_thrown sMo_5).toInt ≤ 2; omega), (by show (Mo_taped sMo_5).toInt = (Mo_taped sMo).toInt; omega)⟩
          · rw [i_eq] at c_492
            unfold Mod_append_j70
            refine So.ite (fun c_560 => ?_) (fun c_560 => ?_)
            · rw [i_le] at c_560
              refine So.gd (i_in.mpr (by omega)) ?_
              have k_561 : (24 : Int32).toInt = 24 := by decide
              first | have f_562 := i_mull 24 a0 (24) (by decide) (by omega) (by omega) | have f_562 := i_mullm 24 a0 (24) (by decide)
              have f_563 := A_Mlengths_at I_sMlengths (a0.toNatClampNeg)
              have f_564 := i_natm a0
              first | have f_565 := i_add (a := (24 * a0)) (b := (sMlengths (a0.toNatClampNeg))) (by omega) (by omega) | have f_565 := i_addm (24 * a0) (sMlengths (a0.toNatClampNeg))
              refine So.gd (i_in.mpr (by omega)) ?_
              refine So.lt2 fun sMlists_14 e_566 => ?_
              have f_567 := i_natm ((24 * a0) + (sMlengths (a0.toNatClampNeg)))
              have I_568 : A_Mlists sMlists_14 := by rw [e_566]; exact (A_Mlists_upd I_sMlists (by show (0 ≤ (a1 : Int32).toInt ∧ (a1 : Int32).toInt ≤ 63) ∨ (100 ≤ (a1 : Int32).toInt ∧ (a1 : Int32).toInt ≤ 115) ∨ (216 ≤ (a1 : Int32).toInt ∧ (a1 : Int32).toInt ≤ 343) ∨ (400 ≤ (a1 : Int32).toInt ∧ (a1 : Int32).toInt ≤ 487) ∨ (501 ≤ (a1 : Int32).toInt ∧ (a1 : Int32).toInt ≤ 516) ∨ (a1 : Int32).toInt = 520; omega))
              refine So.gd (i_in.mpr (by omega)) ?_
              refine So.gd (i_in.mpr (by omega)) ?_
              refine So.lt2 fun sMlengths_17 e_569 => ?_
              have k_570 : (1 : Int32).toInt = 1 := by decide
              first | have f_571 := i_add (a := (sMlengths (a0.toNatClampNeg))) (b := 1) (by omega) (by omega) | have f_571 := i_addm (sMlengths (a0.toNatClampNeg)) 1
              have I_572 : A_Mlengths sMlengths_17 := by rw [e_569]; exact (A_Mlengths_upd I_sMlengths (by show 0 ≤ (((sMlengths (a0.toNatClampNeg)) + 1) : Int32).toInt ∧ (((sMlengths (a0.toNatClampNeg)) + 1) : Int32).toInt ≤ 24 ∧ ((a0.toNatClampNeg) < 16 → (((sMlengths (a0.toNatClampNeg)) + 1) : Int32).toInt ≤ 8); omega))
              refine So.gd (i_in.mpr (by omega)) ?_
              exact So.one ⟨I_488, I_568, I_572, (by show 0 ≤ (Mo_thrown sMo_5).toInt; omega), (by show (Mo_thrown sMo_5).toInt ≤ 2; omega), (by show (Mo_taped sMo_5).toInt = (Mo_taped sMo).toInt; omega)⟩
            · rw [i_le] at c_560
              exact So.one ⟨I_488, I_sMlists, I_sMlengths, (by show 0 ≤ (Mo_thrown sMo_5).toInt; omega), (by show (Mo_thrown sMo_5).toInt ≤ 2; omega), (by show (Mo_taped sMo_5).toInt = (Mo_taped sMo).toInt; omega)⟩
        · rw [i_le] at c_491
          unfold Mod_append_j37
          refine So.ite (fun c_573 => ?_) (fun c_573 => ?_)
          · rw [i_eq] at c_573
            have k_574 : (16 : Int32).toInt = 16 := by decide
            refine So.gd (i_in.mpr (by omega)) ?_
            refine So.ite (fun c_575 => ?_) (fun c_575 => ?_)
            · rw [i_le] at c_575
              unfold Mod_append_j62
              refine So.ite (fun c_576 => ?_) (fun c_576 => ?_)
              · rw [i_eq] at c_576
                have f_577 := A_Mlengths_at I_sMlengths ((16 : Int32).toNatClampNeg)
                have f_578 := i_natm (16 : Int32)
                have k_579 : (8 : Int32).toInt = 8 := by decide
                refine So.lt2 fun sMo_10 e_580 => ?_
                have I_581 : I_Mo sMo_10 := by rw [e_580]; exact (I_Mo_set_thrown I_488)
                have k_582 : (2 : Int32).toInt = 2 := by decide
                have f_583 : (Mo_thrown sMo_10).toInt = (2 : Int32).toInt := by subst e_580; rfl
                have f_584 : (Mo_taped sMo_10).toInt = (Mo_taped sMo_5).toInt := by subst e_580; rfl
                unfold Mod_append_j70
                refine So.ite (fun c_585 => ?_) (fun c_585 => ?_)
                · rw [i_le] at c_585
                  refine So.gd (i_in.mpr (by omega)) ?_
                  have k_586 : ((24 * 16) : Int32).toInt = 384 := by decide
                  first | have f_587 := i_add (a := ((24 * 16) : Int32)) (b := (sMlengths ((16 : Int32).toNatClampNeg))) (by omega) (by omega) | have f_587 := i_addm ((24 * 16) : Int32) (sMlengths ((16 : Int32).toNatClampNeg))
                  refine So.gd (i_in.mpr (by omega)) ?_
                  refine So.lt2 fun sMlists_14 e_588 => ?_
                  have f_589 := i_natm ((24 * 16) + (sMlengths ((16 : Int32).toNatClampNeg)))
                  have I_590 : A_Mlists sMlists_14 := by rw [e_588]; exact (A_Mlists_upd I_sMlists (by show (0 ≤ (a1 : Int32).toInt ∧ (a1 : Int32).toInt ≤ 63) ∨ (100 ≤ (a1 : Int32).toInt ∧ (a1 : Int32).toInt ≤ 115) ∨ (216 ≤ (a1 : Int32).toInt ∧ (a1 : Int32).toInt ≤ 343) ∨ (400 ≤ (a1 : Int32).toInt ∧ (a1 : Int32).toInt ≤ 487) ∨ (501 ≤ (a1 : Int32).toInt ∧ (a1 : Int32).toInt ≤ 516) ∨ (a1 : Int32).toInt = 520; omega))
                  refine So.gd (i_in.mpr (by omega)) ?_
                  refine So.gd (i_in.mpr (by omega)) ?_
                  refine So.lt2 fun sMlengths_17 e_591 => ?_
                  have k_592 : (1 : Int32).toInt = 1 := by decide
                  first | have f_593 := i_add (a := (sMlengths ((16 : Int32).toNatClampNeg))) (b := 1) (by omega) (by omega) | have f_593 := i_addm (sMlengths ((16 : Int32).toNatClampNeg)) 1
                  have I_594 : A_Mlengths sMlengths_17 := by rw [e_591]; exact (A_Mlengths_upd I_sMlengths (by show 0 ≤ (((sMlengths ((16 : Int32).toNatClampNeg)) + 1) : Int32).toInt ∧ (((sMlengths ((16 : Int32).toNatClampNeg)) + 1) : Int32).toInt ≤ 24 ∧ (((16 : Int32).toNatClampNeg) < 16 → (((sMlengths ((16 : Int32).toNatClampNeg)) + 1) : Int32).toInt ≤ 8); omega))
                  refine So.gd (i_in.mpr (by omega)) ?_
                  exact So.one ⟨I_581, I_590, I_594, (by show 0 ≤ (Mo_thrown sMo_10).toInt; omega), (by show (Mo_thrown sMo_10).toInt ≤ 2; omega), (by show (Mo_taped sMo_10).toInt = (Mo_taped sMo).toInt; omega)⟩
                · rw [i_le] at c_585
                  exact So.one ⟨I_581, I_sMlists, I_sMlengths, (by show 0 ≤ (Mo_thrown sMo_10).toInt; omega), (by show (Mo_thrown sMo_10).toInt ≤ 2; omega), (by show (Mo_taped sMo_10).toInt = (Mo_taped sMo).toInt; omega)⟩
              · rw [i_eq] at c_576
                have f_595 := A_Mlengths_at I_sMlengths ((16 : Int32).toNatClampNeg)
                have f_596 := i_natm (16 : Int32)
                have k_597 : (8 : Int32).toInt = 8 := by decide
                unfold Mod_append_j70
                refine So.ite (fun c_598 => ?_) (fun c_598 => ?_)
                · rw [i_le] at c_598
                  refine So.gd (i_in.mpr (by omega)) ?_
                  have k_599 : ((24 * 16) : Int32).toInt = 384 := by decide
                  first | have f_600 := i_add (a := ((24 * 16) : Int32)) (b := (sMlengths ((16 : Int32).toNatClampNeg))) (by omega) (by omega) | have f_600 := i_addm ((24 * 16) : Int32) (sMlengths ((16 : Int32).toNatClampNeg))
                  refine So.gd (i_in.mpr (by omega)) ?_
                  refine So.lt2 fun sMlists_14 e_601 => ?_
                  have f_602 := i_natm ((24 * 16) + (sMlengths ((16 : Int32).toNatClampNeg)))
                  have I_603 : A_Mlists sMlists_14 := by rw [e_601]; exact (A_Mlists_upd I_sMlists (by show (0 ≤ (a1 : Int32).toInt ∧ (a1 : Int32).toInt ≤ 63) ∨ (100 ≤ (a1 : Int32).toInt ∧ (a1 : Int32).toInt ≤ 115) ∨ (216 ≤ (a1 : Int32).toInt ∧ (a1 : Int32).toInt ≤ 343) ∨ (400 ≤ (a1 : Int32).toInt ∧ (a1 : Int32).toInt ≤ 487) ∨ (501 ≤ (a1 : Int32).toInt ∧ (a1 : Int32).toInt ≤ 516) ∨ (a1 : Int32).toInt = 520; omega))
                  refine So.gd (i_in.mpr (by omega)) ?_
                  refine So.gd (i_in.mpr (by omega)) ?_
                  refine So.lt2 fun sMlengths_17 e_604 => ?_
                  have k_605 : (1 : Int32).toInt = 1 := by decide
                  first | have f_606 := i_add (a := (sMlengths ((16 : Int32).toNatClampNeg))) (b := 1) (by omega) (by omega) | have f_606 := i_addm (sMlengths ((16 : Int32).toNatClampNeg)) 1
                  have I_607 : A_Mlengths sMlengths_17 := by rw [e_604]; exact (A_Mlengths_upd I_sMlengths (by show 0 ≤ (((sMlengths ((16 : Int32).toNatClampNeg)) + 1) : Int32).toInt ∧ (((sMlengths ((16 : Int32).toNatClampNeg)) + 1) : Int32).toInt ≤ 24 ∧ (((16 : Int32).toNatClampNeg) < 16 → (((sMlengths ((16 : Int32).toNatClampNeg)) + 1) : Int32).toInt ≤ 8); omega))
                  refine So.gd (i_in.mpr (by omega)) ?_
                  exact So.one ⟨I_488, I_603, I_607, (by show 0 ≤ (Mo_thrown sMo_5).toInt; omega), (by show (Mo_thrown sMo_5).toInt ≤ 2; omega), (by show (Mo_taped sMo_5).toInt = (Mo_taped sMo).toInt; omega)⟩
                · rw [i_le] at c_598
                  exact So.one ⟨I_488, I_sMlists, I_sMlengths, (by show 0 ≤ (Mo_thrown sMo_5).toInt; omega), (by show (Mo_thrown sMo_5).toInt ≤ 2; omega), (by show (Mo_taped sMo_5).toInt = (Mo_taped sMo).toInt; omega)⟩
            · rw [i_le] at c_575
              unfold Mod_append_j62
              refine So.ite (fun c_608 => ?_) (fun c_608 => ?_)
              · rw [i_eq] at c_608
                have f_609 := A_Mlengths_at I_sMlengths ((16 : Int32).toNatClampNeg)
                have f_610 := i_natm (16 : Int32)
                have k_611 : (24 : Int32).toInt = 24 := by decide
                refine So.lt2 fun sMo_10 e_612 => ?_
                have I_613 : I_Mo sMo_10 := by rw [e_612]; exact (I_Mo_set_thrown I_488)
                have k_614 : (2 : Int32).toInt = 2 := by decide
                have f_615 : (Mo_thrown sMo_10).toInt = (2 : Int32).toInt := by subst e_612; rfl
                have f_616 : (Mo_taped sMo_10).toInt = (Mo_taped sMo_5).toInt := by subst e_612; rfl
                unfold Mod_append_j70
                refine So.ite (fun c_617 => ?_) (fun c_617 => ?_)
                · rw [i_le] at c_617
                  refine So.gd (i_in.mpr (by omega)) ?_
                  have k_618 : ((24 * 16) : Int32).toInt = 384 := by decide
                  first | have f_619 := i_add (a := ((24 * 16) : Int32)) (b := (sMlengths ((16 : Int32).toNatClampNeg))) (by omega) (by omega) | have f_619 := i_addm ((24 * 16) : Int32) (sMlengths ((16 : Int32).toNatClampNeg))
                  refine So.gd (i_in.mpr (by omega)) ?_
                  refine So.lt2 fun sMlists_14 e_620 => ?_
                  have f_621 := i_natm ((24 * 16) + (sMlengths ((16 : Int32).toNatClampNeg)))
                  have I_622 : A_Mlists sMlists_14 := by rw [e_620]; exact (A_Mlists_upd I_sMlists (by show (0 ≤ (a1 : Int32).toInt ∧ (a1 : Int32).toInt ≤ 63) ∨ (100 ≤ (a1 : Int32).toInt ∧ (a1 : Int32).toInt ≤ 115) ∨ (216 ≤ (a1 : Int32).toInt ∧ (a1 : Int32).toInt ≤ 343) ∨ (400 ≤ (a1 : Int32).toInt ∧ (a1 : Int32).toInt ≤ 487) ∨ (501 ≤ (a1 : Int32).toInt ∧ (a1 : Int32).toInt ≤ 516) ∨ (a1 : Int32).toInt = 520; omega))
                  refine So.gd (i_in.mpr (by omega)) ?_
                  refine So.gd (i_in.mpr (by omega)) ?_
                  refine So.lt2 fun sMlengths_17 e_623 => ?_
                  have k_624 : (1 : Int32).toInt = 1 := by decide
                  first | have f_625 := i_add (a := (sMlengths ((16 : Int32).toNatClampNeg))) (b := 1) (by omega) (by omega) | have f_625 := i_addm (sMlengths ((16 : Int32).toNatClampNeg)) 1
                  have I_626 : A_Mlengths sMlengths_17 := by rw [e_623]; exact (A_Mlengths_upd I_sMlengths (by show 0 ≤ (((sMlengths ((16 : Int32).toNatClampNeg)) + 1) : Int32).toInt ∧ (((sMlengths ((16 : Int32).toNatClampNeg)) + 1) : Int32).toInt ≤ 24 ∧ (((16 : Int32).toNatClampNeg) < 16 → (((sMlengths ((16 : Int32).toNatClampNeg)) + 1) : Int32).toInt ≤ 8); omega))
                  refine So.gd (i_in.mpr (by omega)) ?_
                  exact So.one ⟨I_613, I_622, I_626, (by show 0 ≤ (Mo_thrown sMo_10).toInt; omega), (by show (Mo_thrown sMo_10).toInt ≤ 2; omega), (by show (Mo_taped sMo_10).toInt = (Mo_taped sMo).toInt; omega)⟩
                · rw [i_le] at c_617
                  exact So.one ⟨I_613, I_sMlists, I_sMlengths, (by show 0 ≤ (Mo_thrown sMo_10).toInt; omega), (by show (Mo_thrown sMo_10).toInt ≤ 2; omega), (by show (Mo_taped sMo_10).toInt = (Mo_taped sMo).toInt; omega)⟩
              · rw [i_eq] at c_608
                have f_627 := A_Mlengths_at I_sMlengths ((16 : Int32).toNatClampNeg)
                have f_628 := i_natm (16 : Int32)
                have k_629 : (24 : Int32).toInt = 24 := by decide
                unfold Mod_append_j70
                refine So.ite (fun c_630 => ?_) (fun c_630 => ?_)
                · rw [i_le] at c_630
                  refine So.gd (i_in.mpr (by omega)) ?_
                  have k_631 : ((24 * 16) : Int32).toInt = 384 := by decide
                  first | have f_632 := i_add (a := ((24 * 16) : Int32)) (b := (sMlengths ((16 : Int32).toNatClampNeg))) (by omega) (by omega) | have f_632 := i_addm ((24 * 16) : Int32) (sMlengths ((16 : Int32).toNatClampNeg))
                  refine So.gd (i_in.mpr (by omega)) ?_
                  refine So.lt2 fun sMlists_14 e_633 => ?_
                  have f_634 := i_natm ((24 * 16) + (sMlengths ((16 : Int32).toNatClampNeg)))
                  have I_635 : A_Mlists sMlists_14 := by rw [e_633]; exact (A_Mlists_upd I_sMlists (by show (0 ≤ (a1 : Int32).toInt ∧ (a1 : Int32).toInt ≤ 63) ∨ (100 ≤ (a1 : Int32).toInt ∧ (a1 : Int32).toInt ≤ 115) ∨ (216 ≤ (a1 : Int32).toInt ∧ (a1 : Int32).toInt ≤ 343) ∨ (400 ≤ (a1 : Int32).toInt ∧ (a1 : Int32).toInt ≤ 487) ∨ (501 ≤ (a1 : Int32).toInt ∧ (a1 : Int32).toInt ≤ 516) ∨ (a1 : Int32).toInt = 520; omega))
                  refine So.gd (i_in.mpr (by omega)) ?_
                  refine So.gd (i_in.mpr (by omega)) ?_
                  refine So.lt2 fun sMlengths_17 e_636 => ?_
                  have k_637 : (1 : Int32).toInt = 1 := by decide
                  first | have f_638 := i_add (a := (sMlengths ((16 : Int32).toNatClampNeg))) (b := 1) (by omega) (by omega) | have f_638 := i_addm (sMlengths ((16 : Int32).toNatClampNeg)) 1
                  have I_639 : A_Mlengths sMlengths_17 := by rw [e_636]; exact (A_Mlengths_upd I_sMlengths (by show 0 ≤ (((sMlengths ((16 : Int32).toNatClampNeg)) + 1) : Int32).toInt ∧ (((sMlengths ((16 : Int32).toNatClampNeg)) + 1) : Int32).toInt ≤ 24 ∧ (((16 : Int32).toNatClampNeg) < 16 → (((sMlengths ((16 : Int32).toNatClampNeg)) + 1) : Int32).toInt ≤ 8); omega))
                  refine So.gd (i_in.mpr (by omega)) ?_
                  exact So.one ⟨I_488, I_635, I_639, (by show 0 ≤ (Mo_thrown sMo_5).toInt; omega), (by show (Mo_thrown sMo_5).toInt ≤ 2; omega), (by show (Mo_taped sMo_5).toInt = (Mo_taped sMo).toInt; omega)⟩
                · rw [i_le] at c_630
                  exact So.one ⟨I_488, I_sMlists, I_sMlengths, (by show 0 ≤ (Mo_thrown sMo_5).toInt; omega), (by show (Mo_thrown sMo_5).toInt ≤ 2; omega), (by show (Mo_taped sMo_5).toInt = (Mo_taped sMo).toInt; omega)⟩
          · rw [i_eq] at c_573
            unfold Mod_append_j70
            refine So.ite (fun c_640 => ?_) (fun c_640 => ?_)
            · rw [i_le] at c_640
              have k_641 : (16 : Int32).toInt = 16 := by decide
              refine So.gd (i_in.mpr (by omega)) ?_
              have k_642 : ((24 * 16) : Int32).toInt = 384 := by decide
              have f_643 := A_Mlengths_at I_sMlengths ((16 : Int32).toNatClampNeg)
              have f_644 := i_natm (16 : Int32)
              first | have f_645 := i_add (a := ((24 * 16) : Int32)) (b := (sMlengths ((16 : Int32).toNatClampNeg))) (by omega) (by omega) | have f_645 := i_addm ((24 * 16) : Int32) (sMlengths ((16 : Int32).toNatClampNeg))
              refine So.gd (i_in.mpr (by omega)) ?_
              refine So.lt2 fun sMlists_14 e_646 => ?_
              have f_647 := i_natm ((24 * 16) + (sMlengths ((16 : Int32).toNatClampNeg)))
              have I_648 : A_Mlists sMlists_14 := by rw [e_646]; exact (A_Mlists_upd I_sMlists (by show (0 ≤ (a1 : Int32).toInt ∧ (a1 : Int32).toInt ≤ 63) ∨ (100 ≤ (a1 : Int32).toInt ∧ (a1 : Int32).toInt ≤ 115) ∨ (216 ≤ (a1 : Int32).toInt ∧ (a1 : Int32).toInt ≤ 343) ∨ (400 ≤ (a1 : Int32).toInt ∧ (a1 : Int32).toInt ≤ 487) ∨ (501 ≤ (a1 : Int32).toInt ∧ (a1 : Int32).toInt ≤ 516) ∨ (a1 : Int32).toInt = 520; omega))
              refine So.gd (i_in.mpr (by omega)) ?_
              refine So.gd (i_in.mpr (by omega)) ?_
              refine So.lt2 fun sMlengths_17 e_649 => ?_
              have k_650 : (1 : Int32).toInt = 1 := by decide
              first | have f_651 := i_add (a := (sMlengths ((16 : Int32).toNatClampNeg))) (b := 1) (by omega) (by omega) | have f_651 := i_addm (sMlengths ((16 : Int32).toNatClampNeg)) 1
              have I_652 : A_Mlengths sMlengths_17 := by rw [e_649]; exact (A_Mlengths_upd I_sMlengths (by show 0 ≤ (((sMlengths ((16 : Int32).toNatClampNeg)) + 1) : Int32).toInt ∧ (((sMlengths ((16 : Int32).toNatClampNeg)) + 1) : Int32).toInt ≤ 24 ∧ (((16 : Int32).toNatClampNeg) < 16 → (((sMlengths ((16 : Int32).toNatClampNeg)) + 1) : Int32).toInt ≤ 8); omega))
              refine So.gd (i_in.mpr (by omega)) ?_
              exact So.one ⟨I_488, I_648, I_652, (by show 0 ≤ (Mo_thrown sMo_5).toInt; omega), (by show (Mo_thrown sMo_5).toInt ≤ 2; omega), (by show (Mo_taped sMo_5).toInt = (Mo_taped sMo).toInt; omega)⟩
            · rw [i_le] at c_640
              exact So.one ⟨I_488, I_sMlists, I_sMlengths, (by show 0 ≤ (Mo_thrown sMo_5).toInt; omega), (by show (Mo_thrown sMo_5).toInt ≤ 2; omega), (by show (Mo_taped sMo_5).toInt = (Mo_taped sMo).toInt; omega)⟩
theorem t_Mod_clear {a0 : Int32} {sMo : S_Mo} {sMlengths : (Nat → Int32)} (I_sMo : I_Mo sMo) (I_sMlengths : A_Mlengths sMlengths) : So (Mod_clear a0 sMo sMlengths) (fun r => I_Mo r.1 ∧ A_Mlengths r.2 ∧ (((Mo_thrown r.1).toInt = 0 ∧ (-1 ≤ a0.toInt ∧ a0.toInt < 16)) ∨ ((Mo_thrown r.1).toInt = 1 ∧ ¬ (-1 ≤ a0.toInt ∧ a0.toInt < 16))) ∧ ((Mo_taped r.1).toInt = (Mo_taped sMo).toInt)) := by
  unfold Mod_clear
  refine So.ite (fun c_1 => ?_) (fun c_1 => ?_)
  · rw [i_lt] at c_1
    have k_2 : ((-1) : Int32).toInt = -1 := by decide
    unfold Mod_clear_j12
    unfold Mod_clear_j17
    refine So.lt2 fun sMo_3 e_3 => ?_
    have I_4 : I_Mo sMo_3 := by rw [e_3]; exact (I_Mo_set_thrown I_sMo)
    have k_5 : (1 : Int32).toInt = 1 := by decide
    have f_6 : (Mo_thrown sMo_3).toInt = (1 : Int32).toInt := by subst e_3; rfl
    have f_7 : (Mo_taped sMo_3).toInt = (Mo_taped sMo).toInt := by subst e_3; rfl
    refine So.ite (fun c_8 => ?_) (fun c_8 => ?_)
    · rw [i_eq] at c_8
      have k_9 : (0 : Int32).toInt = 0 := by decide
      refine So.ite (fun c_10 => ?_) (fun c_10 => ?_)
      · rw [i_le] at c_10
        refine So.gd (i_in.mpr (by omega)) ?_
        refine So.lt2 fun sMlengths_5 e_11 => ?_
        have f_12 := i_natm a0
        have I_13 : A_Mlengths sMlengths_5 := by rw [e_11]; exact (A_Mlengths_upd I_sMlengths (by show 0 ≤ (0 : Int32).toInt ∧ (0 : Int32).toInt ≤ 24 ∧ ((a0.toNatClampNeg) < 16 → (0 : Int32).toInt ≤ 8); omega))
        exact So.one ⟨I_4, I_13, (by show ((Mo_thrown sMo_3).toInt = 0 ∧ (-1 ≤ a0.toInt ∧ a0.toInt < 16)) ∨ ((Mo_thrown sMo_3).toInt = 1 ∧ ¬ (-1 ≤ a0.toInt ∧ a0.toInt < 16)); omega), (by show (Mo_taped sMo_3).toInt = (Mo_taped sMo).toInt; omega)⟩
      · rw [i_le] at c_10
        have k_14 : (16 : Int32).toInt = 16 := by decide
        refine So.gd (i_in.mpr (by omega)) ?_
        refine So.lt2 fun sMlengths_7 e_15 => ?_
        have f_16 := i_natm (16 : Int32)
        have I_17 : A_Mlengths sMlengths_7 := by rw [e_15]; exact (A_Mlengths_upd I_sMlengths (by show 0 ≤ (0 : Int32).toInt ∧ (0 : Int32).toInt ≤ 24 ∧ (((16 : Int32).toNatClampNeg) < 16 → (0 : Int32).toInt ≤ 8); omega))
        exact So.one ⟨I_4, I_17, (by show ((Mo_thrown sMo_3).toInt = 0 ∧ (-1 ≤ a0.toInt ∧ a0.toInt < 16)) ∨ ((Mo_thrown sMo_3).toInt = 1 ∧ ¬ (-1 ≤ a0.toInt ∧ a0.toInt < 16)); omega), (by show (Mo_taped sMo_3).toInt = (Mo_taped sMo).toInt; omega)⟩
    · rw [i_eq] at c_8
      have k_18 : (0 : Int32).toInt = 0 := by decide
      exact So.one ⟨I_4, I_sMlengths, (by show ((Mo_thrown sMo_3).toInt = 0 ∧ (-1 ≤ a0.toInt ∧ a0.toInt < 16)) ∨ ((Mo_thrown sMo_3).toInt = 1 ∧ ¬ (-1 ≤ a0.toInt ∧ a0.toInt < 16)); omega), (by show (Mo_taped sMo_3).toInt = (Mo_taped sMo).toInt; omega)⟩
  · rw [i_lt] at c_1
    have k_19 : ((-1) : Int32).toInt = -1 := by decide
    refine So.ite (fun c_20 => ?_) (fun c_20 => ?_)
    · rw [i_le] at c_20
      have k_21 : (15 : Int32).toInt = 15 := by decide
      unfold Mod_clear_j17
      refine So.lt2 fun sMo_3 e_22 => ?_
      have I_23 : I_Mo sMo_3 := by rw [e_22]; exact (I_Mo_set_thrown I_sMo)
      have k_24 : (0 : Int32).toInt = 0 := by decide
      have f_25 : (Mo_thrown sMo_3).toInt = (0 : Int32).toInt := by subst e_22; rfl
      have f_26 : (Mo_taped sMo_3).toInt = (Mo_taped sMo).toInt := by subst e_22; rfl
      refine So.ite (fun c_27 => ?_) (fun c_27 => ?_)
      · rw [i_eq] at c_27
        refine So.ite (fun c_28 => ?_) (fun c_28 => ?_)
        · rw [i_le] at c_28
          refine So.gd (i_in.mpr (by omega)) ?_
          refine So.lt2 fun sMlengths_5 e_29 => ?_
          have f_30 := i_natm a0
          have I_31 : A_Mlengths sMlengths_5 := by rw [e_29]; exact (A_Mlengths_upd I_sMlengths (by show 0 ≤ (0 : Int32).toInt ∧ (0 : Int32).toInt ≤ 24 ∧ ((a0.toNatClampNeg) < 16 → (0 : Int32).toInt ≤ 8); omega))
          exact So.one ⟨I_23, I_31, (by show ((Mo_thrown sMo_3).toInt = 0 ∧ (-1 ≤ a0.toInt ∧ a0.toInt < 16)) ∨ ((Mo_thrown sMo_3).toInt = 1 ∧ ¬ (-1 ≤ a0.toInt ∧ a0.toInt < 16)); omega), (by show (Mo_taped sMo_3).toInt = (Mo_taped sMo).toInt; omega)⟩
        · rw [i_le] at c_28
          have k_32 : (16 : Int32).toInt = 16 := by decide
          refine So.gd (i_in.mpr (by omega)) ?_
          refine So.lt2 fun sMlengths_7 e_33 => ?_
          have f_34 := i_natm (16 : Int32)
          have I_35 : A_Mlengths sMlengths_7 := by rw [e_33]; exact (A_Mlengths_upd I_sMlengths (by show 0 ≤ (0 : Int32).toInt ∧ (0 : Int32).toInt ≤ 24 ∧ (((16 : Int32).toNatClampNeg) < 16 → (0 : Int32).toInt ≤ 8); omega))
          exact So.one ⟨I_23, I_35, (by show ((Mo_thrown sMo_3).toInt = 0 ∧ (-1 ≤ a0.toInt ∧ a0.toInt < 16)) ∨ ((Mo_thrown sMo_3).toInt = 1 ∧ ¬ (-1 ≤ a0.toInt ∧ a0.toInt < 16)); omega), (by show (Mo_taped sMo_3).toInt = (Mo_taped sMo).toInt; omega)⟩
      · rw [i_eq] at c_27
        exact So.one ⟨I_23, I_sMlengths, (by show ((Mo_thrown sMo_3).toInt = 0 ∧ (-1 ≤ a0.toInt ∧ a0.toInt < 16)) ∨ ((Mo_thrown sMo_3).toInt = 1 ∧ ¬ (-1 ≤ a0.toInt ∧ a0.toInt < 16)); omega), (by show (Mo_taped sMo_3).toInt = (Mo_taped sMo).toInt; omega)⟩
    · rw [i_le] at c_20
      have k_36 : (15 : Int32).toInt = 15 := by decide
      unfold Mod_clear_j12
      unfold Mod_clear_j17
      refine So.lt2 fun sMo_3 e_37 => ?_
      have I_38 : I_Mo sMo_3 := by rw [e_37]; exact (I_Mo_set_thrown I_sMo)
      have k_39 : (1 : Int32).toInt = 1 := by decide
      have f_40 : (Mo_thrown sMo_3).toInt = (1 : Int32).toInt := by subst e_37; rfl
      have f_41 : (Mo_taped sMo_3).toInt = (Mo_taped sMo).toInt := by subst e_37; rfl
      refine So.ite (fun c_42 => ?_) (fun c_42 => ?_)
      · rw [i_eq] at c_42
        have k_43 : (0 : Int32).toInt = 0 := by decide
        refine So.ite (fun c_44 => ?_) (fun c_44 => ?_)
        · rw [i_le] at c_44
          refine So.gd (i_in.mpr (by omega)) ?_
          refine So.lt2 fun sMlengths_5 e_45 => ?_
          have f_46 := i_natm a0
          have I_47 : A_Mlengths sMlengths_5 := by rw [e_45]; exact (A_Mlengths_upd I_sMlengths (by show 0 ≤ (0 : Int32).toInt ∧ (0 : Int32).toInt ≤ 24 ∧ ((a0.toNatClampNeg) < 16 → (0 : Int32).toInt ≤ 8); omega))
          exact So.one ⟨I_38, I_47, (by show ((Mo_thrown sMo_3).toInt = 0 ∧ (-1 ≤ a0.toInt ∧ a0.toInt < 16)) ∨ ((Mo_thrown sMo_3).toInt = 1 ∧ ¬ (-1 ≤ a0.toInt ∧ a0.toInt < 16)); omega), (by show (Mo_taped sMo_3).toInt = (Mo_taped sMo).toInt; omega)⟩
        · rw [i_le] at c_44
          have k_48 : (16 : Int32).toInt = 16 := by decide
          refine So.gd (i_in.mpr (by omega)) ?_
          refine So.lt2 fun sMlengths_7 e_49 => ?_
          have f_50 := i_natm (16 : Int32)
          have I_51 : A_Mlengths sMlengths_7 := by rw [e_49]; exact (A_Mlengths_upd I_sMlengths (by show 0 ≤ (0 : Int32).toInt ∧ (0 : Int32).toInt ≤ 24 ∧ (((16 : Int32).toNatClampNeg) < 16 → (0 : Int32).toInt ≤ 8); omega))
          exact So.one ⟨I_38, I_51, (by show ((Mo_thrown sMo_3).toInt = 0 ∧ (-1 ≤ a0.toInt ∧ a0.toInt < 16)) ∨ ((Mo_thrown sMo_3).toInt = 1 ∧ ¬ (-1 ≤ a0.toInt ∧ a0.toInt < 16)); omega), (by show (Mo_taped sMo_3).toInt = (Mo_taped sMo).toInt; omega)⟩
      · rw [i_eq] at c_42
        have k_52 : (0 : Int32).toInt = 0 := by decide
        exact So.one ⟨I_38, I_sMlengths, (by show ((Mo_thrown sMo_3).toInt = 0 ∧ (-1 ≤ a0.toInt ∧ a0.toInt < 16)) ∨ ((Mo_thrown sMo_3).toInt = 1 ∧ ¬ (-1 ≤ a0.toInt ∧ a0.toInt < 16)); omega), (by show (Mo_taped sMo_3).toInt = (Mo_taped sMo).toInt; omega)⟩
theorem t_Mod_isSubset {a0 : Int32}  : So (Mod_isSubset a0) (fun r => ((r.toInt = 1 ∧ (0 ≤ a0.toInt ∧ a0.toInt < 8)) ∨ (r.toInt = 0 ∧ ¬ (0 ≤ a0.toInt ∧ a0.toInt < 8)))) := by
  unfold Mod_isSubset
  refine So.ite (fun c_1 => ?_) (fun c_1 => ?_)
  · rw [i_lt] at c_1
    have k_2 : (0 : Int32).toInt = 0 := by decide
    exact So.one (by show ((0 : Int32).toInt = 1 ∧ (0 ≤ a0.toInt ∧ a0.toInt < 8)) ∨ ((0 : Int32).toInt = 0 ∧ ¬ (0 ≤ a0.toInt ∧ a0.toInt < 8)); omega)
  · rw [i_lt] at c_1
    have k_3 : (0 : Int32).toInt = 0 := by decide
    refine So.ite (fun c_4 => ?_) (fun c_4 => ?_)
    · rw [i_le] at c_4
      have k_5 : (8 : Int32).toInt = 8 := by decide
      exact So.one (by show ((0 : Int32).toInt = 1 ∧ (0 ≤ a0.toInt ∧ a0.toInt < 8)) ∨ ((0 : Int32).toInt = 0 ∧ ¬ (0 ≤ a0.toInt ∧ a0.toInt < 8)); omega)
    · rw [i_le] at c_4
      have k_6 : (8 : Int32).toInt = 8 := by decide
      have k_7 : (1 : Int32).toInt = 1 := by decide
      exact So.one (by show ((1 : Int32).toInt = 1 ∧ (0 ≤ a0.toInt ∧ a0.toInt < 8)) ∨ ((1 : Int32).toInt = 0 ∧ ¬ (0 ≤ a0.toInt ∧ a0.toInt < 8)); omega)
theorem t_Mod_put {a0 : Int32} {a1 : Int32} {a2 : Int64} {sMo : S_Mo} {sMvalues : (Nat → Int64)} (I_sMo : I_Mo sMo) : So (Mod_put a0 a1 a2 sMo sMvalues) (fun r => I_Mo r.1 ∧ (((Mo_thrown r.1).toInt = 0 ∧ (0 ≤ a0.toInt ∧ a0.toInt < 8 ∧ 0 ≤ a1.toInt ∧ a1.toInt < 100)) ∨ ((Mo_thrown r.1).toInt = 1 ∧ ¬ (0 ≤ a0.toInt ∧ a0.toInt < 8 ∧ 0 ≤ a1.toInt ∧ a1.toInt < 100))) ∧ ((Mo_taped r.1).toInt = (Mo_taped sMo).toInt)) := by
  unfold Mod_put
  refine So.bd (t_Mod_isSubset ) fun q1 h_1 => ?_
  have p_2 := h_1
  refine So.ite (fun c_3 => ?_) (fun c_3 => ?_)
  · rw [i_eq] at c_3
    have k_4 : (0 : Int32).toInt = 0 := by decide
    unfold Mod_put_j22
    unfold Mod_put_j23
    refine So.lt2 fun sMo_5 e_5 => ?_
    have I_6 : I_Mo sMo_5 := by rw [e_5]; exact (I_Mo_set_thrown I_sMo)
    have k_7 : (1 : Int32).toInt = 1 := by decide
    have f_8 : (Mo_thrown sMo_5).toInt = (1 : Int32).toInt := by subst e_5; rfl
    have f_9 : (Mo_taped sMo_5).toInt = (Mo_taped sMo).toInt := by subst e_5; rfl
    refine So.ite (fun c_10 => ?_) (fun c_10 => ?_)
    · rw [i_eq] at c_10
      have k_11 : (100 : Int32).toInt = 100 := by decide
      first | have f_12 := i_mull 100 a0 (100) (by decide) (by omega) (by omega) | have f_12 := i_mullm 100 a0 (100) (by decide)
      first | have f_13 := i_add (a := (100 * a0)) (b := a1) (by omega) (by omega) | have f_13 := i_addm (100 * a0) a1
      refine So.gd (i_in.mpr (by omega)) ?_
      refine So.lt2 fun sMvalues_7 e_14 => ?_
      exact So.one ⟨I_6, (by show ((Mo_thrown sMo_5).toInt = 0 ∧ (0 ≤ a0.toInt ∧ a0.toInt < 8 ∧ 0 ≤ a1.toInt ∧ a1.toInt < 100)) ∨ ((Mo_thrown sMo_5).toInt = 1 ∧ ¬ (0 ≤ a0.toInt ∧ a0.toInt < 8 ∧ 0 ≤ a1.toInt ∧ a1.toInt < 100)); omega), (by show (Mo_taped sMo_5).toInt = (Mo_taped sMo).toInt; omega)⟩
    · rw [i_eq] at c_10
      exact So.one ⟨I_6, (by show ((Mo_thrown sMo_5).toInt = 0 ∧ (0 ≤ a0.toInt ∧ a0.toInt < 8 ∧ 0 ≤ a1.toInt ∧ a1.toInt < 100)) ∨ ((Mo_thrown sMo_5).toInt = 1 ∧ ¬ (0 ≤ a0.toInt ∧ a0.toInt < 8 ∧ 0 ≤ a1.toInt ∧ a1.toInt < 100)); omega), (by show (Mo_taped sMo_5).toInt = (Mo_taped sMo).toInt; omega)⟩
  · rw [i_eq] at c_3
    have k_15 : (0 : Int32).toInt = 0 := by decide
    refine So.ite (fun c_16 => ?_) (fun c_16 => ?_)
    · rw [i_lt] at c_16
      unfold Mod_put_j22
      unfold Mod_put_j23
      refine So.lt2 fun sMo_5 e_17 => ?_
      have I_18 : I_Mo sMo_5 := by rw [e_17]; exact (I_Mo_set_thrown I_sMo)
      have k_19 : (1 : Int32).toInt = 1 := by decide
      have f_20 : (Mo_thrown sMo_5).toInt = (1 : Int32).toInt := by subst e_17; rfl
      have f_21 : (Mo_taped sMo_5).toInt = (Mo_taped sMo).toInt := by subst e_17; rfl
      refine So.ite (fun c_22 => ?_) (fun c_22 => ?_)
      · rw [i_eq] at c_22
        have k_23 : (100 : Int32).toInt = 100 := by decide
        first | have f_24 := i_mull 100 a0 (100) (by decide) (by omega) (by omega) | have f_24 := i_mullm 100 a0 (100) (by decide)
        first | have f_25 := i_add (a := (100 * a0)) (b := a1) (by omega) (by omega) | have f_25 := i_addm (100 * a0) a1
        refine So.gd (i_in.mpr (by omega)) ?_
        refine So.lt2 fun sMvalues_7 e_26 => ?_
        exact So.one ⟨I_18, (by show ((Mo_thrown sMo_5).toInt = 0 ∧ (0 ≤ a0.toInt ∧ a0.toInt < 8 ∧ 0 ≤ a1.toInt ∧ a1.toInt < 100)) ∨ ((Mo_thrown sMo_5).toInt = 1 ∧ ¬ (0 ≤ a0.toInt ∧ a0.toInt < 8 ∧ 0 ≤ a1.toInt ∧ a1.toInt < 100)); omega), (by show (Mo_taped sMo_5).toInt = (Mo_taped sMo).toInt; omega)⟩
      · rw [i_eq] at c_22
        exact So.one ⟨I_18, (by show ((Mo_thrown sMo_5).toInt = 0 ∧ (0 ≤ a0.toInt ∧ a0.toInt < 8 ∧ 0 ≤ a1.toInt ∧ a1.toInt < 100)) ∨ ((Mo_thrown sMo_5).toInt = 1 ∧ ¬ (0 ≤ a0.toInt ∧ a0.toInt < 8 ∧ 0 ≤ a1.toInt ∧ a1.toInt < 100)); omega), (by show (Mo_taped sMo_5).toInt = (Mo_taped sMo).toInt; omega)⟩
    · rw [i_lt] at c_16
      refine So.ite (fun c_27 => ?_) (fun c_27 => ?_)
      · rw [i_le] at c_27
        have k_28 : (100 : Int32).toInt = 100 := by decide
        unfold Mod_put_j22
        unfold Mod_put_j23
        refine So.lt2 fun sMo_5 e_29 => ?_
        have I_30 : I_Mo sMo_5 := by rw [e_29]; exact (I_Mo_set_thrown I_sMo)
        have k_31 : (1 : Int32).toInt = 1 := by decide
        have f_32 : (Mo_thrown sMo_5).toInt = (1 : Int32).toInt := by subst e_29; rfl
        have f_33 : (Mo_taped sMo_5).toInt = (Mo_taped sMo).toInt := by subst e_29; rfl
        refine So.ite (fun c_34 => ?_) (fun c_34 => ?_)
        · rw [i_eq] at c_34
          first | have f_35 := i_mull 100 a0 (100) (by decide) (by omega) (by omega) | have f_35 := i_mullm 100 a0 (100) (by decide)
          first | have f_36 := i_add (a := (100 * a0)) (b := a1) (by omega) (by omega) | have f_36 := i_addm (100 * a0) a1
          refine So.gd (i_in.mpr (by omega)) ?_
          refine So.lt2 fun sMvalues_7 e_37 => ?_
          exact So.one ⟨I_30, (by show ((Mo_thrown sMo_5).toInt = 0 ∧ (0 ≤ a0.toInt ∧ a0.toInt < 8 ∧ 0 ≤ a1.toInt ∧ a1.toInt < 100)) ∨ ((Mo_thrown sMo_5).toInt = 1 ∧ ¬ (0 ≤ a0.toInt ∧ a0.toInt < 8 ∧ 0 ≤ a1.toInt ∧ a1.toInt < 100)); omega), (by show (Mo_taped sMo_5).toInt = (Mo_taped sMo).toInt; omega)⟩
        · rw [i_eq] at c_34
          exact So.one ⟨I_30, (by show ((Mo_thrown sMo_5).toInt = 0 ∧ (0 ≤ a0.toInt ∧ a0.toInt < 8 ∧ 0 ≤ a1.toInt ∧ a1.toInt < 100)) ∨ ((Mo_thrown sMo_5).toInt = 1 ∧ ¬ (0 ≤ a0.toInt ∧ a0.toInt < 8 ∧ 0 ≤ a1.toInt ∧ a1.toInt < 100)); omega), (by show (Mo_taped sMo_5).toInt = (Mo_taped sMo).toInt; omega)⟩
      · rw [i_le] at c_27
        have k_38 : (100 : Int32).toInt = 100 := by decide
        unfold Mod_put_j23
        refine So.lt2 fun sMo_5 e_39 => ?_
        have I_40 : I_Mo sMo_5 := by rw [e_39]; exact (I_Mo_set_thrown I_sMo)
        have f_41 : (Mo_thrown sMo_5).toInt = (0 : Int32).toInt := by subst e_39; rfl
        have f_42 : (Mo_taped sMo_5).toInt = (Mo_taped sMo).toInt := by subst e_39; rfl
        refine So.ite (fun c_43 => ?_) (fun c_43 => ?_)
        · rw [i_eq] at c_43
          first | have f_44 := i_mull 100 a0 (100) (by decide) (by omega) (by omega) | have f_44 := i_mullm 100 a0 (100) (by decide)
          first | have f_45 := i_add (a := (100 * a0)) (b := a1) (by omega) (by omega) | have f_45 := i_addm (100 * a0) a1
          refine So.gd (i_in.mpr (by omega)) ?_
          refine So.lt2 fun sMvalues_7 e_46 => ?_
          exact So.one ⟨I_40, (by show ((Mo_thrown sMo_5).toInt = 0 ∧ (0 ≤ a0.toInt ∧ a0.toInt < 8 ∧ 0 ≤ a1.toInt ∧ a1.toInt < 100)) ∨ ((Mo_thrown sMo_5).toInt = 1 ∧ ¬ (0 ≤ a0.toInt ∧ a0.toInt < 8 ∧ 0 ≤ a1.toInt ∧ a1.toInt < 100)); omega), (by show (Mo_taped sMo_5).toInt = (Mo_taped sMo).toInt; omega)⟩
        · rw [i_eq] at c_43
          exact So.one ⟨I_40, (by show ((Mo_thrown sMo_5).toInt = 0 ∧ (0 ≤ a0.toInt ∧ a0.toInt < 8 ∧ 0 ≤ a1.toInt ∧ a1.toInt < 100)) ∨ ((Mo_thrown sMo_5).toInt = 1 ∧ ¬ (0 ≤ a0.toInt ∧ a0.toInt < 8 ∧ 0 ≤ a1.toInt ∧ a1.toInt < 100)); omega), (by show (Mo_taped sMo_5).toInt = (Mo_taped sMo).toInt; omega)⟩
theorem t_Mod_get {sMvalues : (Nat → Int64)} {a0 : Int32} {a1 : Int32} {sMo : S_Mo} (I_sMo : I_Mo sMo) : So (Mod_get sMvalues a0 a1 sMo) (fun r => I_Mo r.2 ∧ ((Mo_taped r.2).toInt = (Mo_taped sMo).toInt)) := by
  unfold Mod_get
  refine So.bd (t_Mod_isSubset ) fun q1 h_1 => ?_
  have p_2 := h_1
  refine So.ite (fun c_3 => ?_) (fun c_3 => ?_)
  · rw [i_eq] at c_3
    have k_4 : (0 : Int32).toInt = 0 := by decide
    unfold Mod_get_j22
    unfold Mod_get_j23
    refine So.lt2 fun sMo_5 e_5 => ?_
    have I_6 : I_Mo sMo_5 := by rw [e_5]; exact (I_Mo_set_thrown I_sMo)
    have k_7 : (1 : Int32).toInt = 1 := by decide
    have f_8 : (Mo_thrown sMo_5).toInt = (1 : Int32).toInt := by subst e_5; rfl
    have f_9 : (Mo_taped sMo_5).toInt = (Mo_taped sMo).toInt := by subst e_5; rfl
    refine So.ite (fun c_10 => ?_) (fun c_10 => ?_)
    · rw [i_eq] at c_10
      have k_11 : (100 : Int32).toInt = 100 := by decide
      first | have f_12 := i_mull 100 a0 (100) (by decide) (by omega) (by omega) | have f_12 := i_mullm 100 a0 (100) (by decide)
      first | have f_13 := i_add (a := (100 * a0)) (b := a1) (by omega) (by omega) | have f_13 := i_addm (100 * a0) a1
      refine So.gd (i_in.mpr (by omega)) ?_
      exact So.one ⟨I_6, (by show (Mo_taped sMo_5).toInt = (Mo_taped sMo).toInt; omega)⟩
    · rw [i_eq] at c_10
      exact So.one ⟨I_6, (by show (Mo_taped sMo_5).toInt = (Mo_taped sMo).toInt; omega)⟩
  · rw [i_eq] at c_3
    have k_14 : (0 : Int32).toInt = 0 := by decide
    refine So.ite (fun c_15 => ?_) (fun c_15 => ?_)
    · rw [i_lt] at c_15
      unfold Mod_get_j22
      unfold Mod_get_j23
      refine So.lt2 fun sMo_5 e_16 => ?_
      have I_17 : I_Mo sMo_5 := by rw [e_16]; exact (I_Mo_set_thrown I_sMo)
      have k_18 : (1 : Int32).toInt = 1 := by decide
      have f_19 : (Mo_thrown sMo_5).toInt = (1 : Int32).toInt := by subst e_16; rfl
      have f_20 : (Mo_taped sMo_5).toInt = (Mo_taped sMo).toInt := by subst e_16; rfl
      refine So.ite (fun c_21 => ?_) (fun c_21 => ?_)
      · rw [i_eq] at c_21
        have k_22 : (100 : Int32).toInt = 100 := by decide
        first | have f_23 := i_mull 100 a0 (100) (by decide) (by omega) (by omega) | have f_23 := i_mullm 100 a0 (100) (by decide)
        first | have f_24 := i_add (a := (100 * a0)) (b := a1) (by omega) (by omega) | have f_24 := i_addm (100 * a0) a1
        refine So.gd (i_in.mpr (by omega)) ?_
        exact So.one ⟨I_17, (by show (Mo_taped sMo_5).toInt = (Mo_taped sMo).toInt; omega)⟩
      · rw [i_eq] at c_21
        exact So.one ⟨I_17, (by show (Mo_taped sMo_5).toInt = (Mo_taped sMo).toInt; omega)⟩
    · rw [i_lt] at c_15
      refine So.ite (fun c_25 => ?_) (fun c_25 => ?_)
      · rw [i_le] at c_25
        have k_26 : (100 : Int32).toInt = 100 := by decide
        unfold Mod_get_j22
        unfold Mod_get_j23
        refine So.lt2 fun sMo_5 e_27 => ?_
        have I_28 : I_Mo sMo_5 := by rw [e_27]; exact (I_Mo_set_thrown I_sMo)
        have k_29 : (1 : Int32).toInt = 1 := by decide
        have f_30 : (Mo_thrown sMo_5).toInt = (1 : Int32).toInt := by subst e_27; rfl
        have f_31 : (Mo_taped sMo_5).toInt = (Mo_taped sMo).toInt := by subst e_27; rfl
        refine So.ite (fun c_32 => ?_) (fun c_32 => ?_)
        · rw [i_eq] at c_32
          first | have f_33 := i_mull 100 a0 (100) (by decide) (by omega) (by omega) | have f_33 := i_mullm 100 a0 (100) (by decide)
          first | have f_34 := i_add (a := (100 * a0)) (b := a1) (by omega) (by omega) | have f_34 := i_addm (100 * a0) a1
          refine So.gd (i_in.mpr (by omega)) ?_
          exact So.one ⟨I_28, (by show (Mo_taped sMo_5).toInt = (Mo_taped sMo).toInt; omega)⟩
        · rw [i_eq] at c_32
          exact So.one ⟨I_28, (by show (Mo_taped sMo_5).toInt = (Mo_taped sMo).toInt; omega)⟩
      · rw [i_le] at c_25
        have k_35 : (100 : Int32).toInt = 100 := by decide
        unfold Mod_get_j23
        refine So.lt2 fun sMo_5 e_36 => ?_
        have I_37 : I_Mo sMo_5 := by rw [e_36]; exact (I_Mo_set_thrown I_sMo)
        have f_38 : (Mo_thrown sMo_5).toInt = (0 : Int32).toInt := by subst e_36; rfl
        have f_39 : (Mo_taped sMo_5).toInt = (Mo_taped sMo).toInt := by subst e_36; rfl
        refine So.ite (fun c_40 => ?_) (fun c_40 => ?_)
        · rw [i_eq] at c_40
          first | have f_41 := i_mull 100 a0 (100) (by decide) (by omega) (by omega) | have f_41 := i_mullm 100 a0 (100) (by decide)
          first | have f_42 := i_add (a := (100 * a0)) (b := a1) (by omega) (by omega) | have f_42 := i_addm (100 * a0) a1
          refine So.gd (i_in.mpr (by omega)) ?_
          exact So.one ⟨I_37, (by show (Mo_taped sMo_5).toInt = (Mo_taped sMo).toInt; omega)⟩
        · rw [i_eq] at c_40
          exact So.one ⟨I_37, (by show (Mo_taped sMo_5).toInt = (Mo_taped sMo).toInt; omega)⟩
theorem t_Mod_fault {a0 : Int32} {sMo : S_Mo} (I_sMo : I_Mo sMo) : So (Mod_fault a0 sMo) (fun r => I_Mo r.2 ∧ ((Mo_taped r.2).toInt = (Mo_taped sMo).toInt)) := by
  unfold Mod_fault
  refine So.lt2 fun sMo_1 e_1 => ?_
  have I_2 : I_Mo sMo_1 := by rw [e_1]; exact (I_Mo_set_thrown I_sMo)
  have k_3 : (0 : Int32).toInt = 0 := by decide
  have f_4 : (Mo_fault sMo_1).toInt = (Mo_fault sMo).toInt := by subst e_1; rfl
  have f_5 : (Mo_place sMo_1).toInt = (Mo_place sMo).toInt := by subst e_1; rfl
  have f_6 : (Mo_taped sMo_1).toInt = (Mo_taped sMo).toInt := by subst e_1; rfl
  refine So.ite (fun c_7 => ?_) (fun c_7 => ?_)
  · rw [i_eq] at c_7
    exact So.one ⟨I_2, (by show (Mo_taped sMo_1).toInt = (Mo_taped sMo).toInt; omega)⟩
  · rw [i_eq] at c_7
    refine So.ite (fun c_8 => ?_) (fun c_8 => ?_)
    · rw [i_eq] at c_8
      have k_9 : (1 : Int32).toInt = 1 := by decide
      exact So.one ⟨I_2, (by show (Mo_taped sMo_1).toInt = (Mo_taped sMo).toInt; omega)⟩
    · rw [i_eq] at c_8
      have k_10 : (1 : Int32).toInt = 1 := by decide
      exact So.one ⟨I_2, (by show (Mo_taped sMo_1).toInt = (Mo_taped sMo).toInt; omega)⟩
theorem t_Mod_packedAt {sMpacked : (Nat → Int64)} {a0 : Int32} {sMo : S_Mo} (I_sMo : I_Mo sMo) : So (Mod_packedAt sMpacked a0 sMo) (fun r => I_Mo r.2 ∧ ((Mo_taped r.2).toInt = (Mo_taped sMo).toInt)) := by
  unfold Mod_packedAt
  refine So.lt2 fun sMo_1 e_1 => ?_
  have I_2 : I_Mo sMo_1 := by rw [e_1]; exact (I_Mo_set_thrown I_sMo)
  have k_3 : (0 : Int32).toInt = 0 := by decide
  have f_4 : (Mo_taped sMo_1).toInt = (Mo_taped sMo).toInt := by subst e_1; rfl
  refine So.ite (fun c_5 => ?_) (fun c_5 => ?_)
  · rw [i_lt] at c_5
    exact So.one ⟨I_2, (by show (Mo_taped sMo_1).toInt = (Mo_taped sMo).toInt; omega)⟩
  · rw [i_lt] at c_5
    refine So.ite (fun c_6 => ?_) (fun c_6 => ?_)
    · rw [i_le] at c_6
      have k_7 : (63 : Int32).toInt = 63 := by decide
      refine So.gd (i_in.mpr (by omega)) ?_
      exact So.one ⟨I_2, (by show (Mo_taped sMo_1).toInt = (Mo_taped sMo).toInt; omega)⟩
    · rw [i_le] at c_6
      have k_8 : (63 : Int32).toInt = 63 := by decide
      exact So.one ⟨I_2, (by show (Mo_taped sMo_1).toInt = (Mo_taped sMo).toInt; omega)⟩
theorem t_Mod_group {sMcost : (Nat → Int64)} {sMends : (Nat → Int32)} {a0 : Int32} {sMo : S_Mo} (I_sMo : I_Mo sMo) : So (Mod_group sMcost sMends a0 sMo) (fun r => I_Mo r.2 ∧ ((Mo_taped r.2).toInt = (Mo_taped sMo).toInt)) := by
  unfold Mod_group
  refine So.lt2 fun sMo_1 e_1 => ?_
  have I_2 : I_Mo sMo_1 := by rw [e_1]; exact (I_Mo_set_thrown I_sMo)
  have k_3 : (0 : Int32).toInt = 0 := by decide
  have f_4 : (Mo_taped sMo_1).toInt = (Mo_taped sMo).toInt := by subst e_1; rfl
  have f_5 : (Mo_codes sMo_1).toInt = (Mo_codes sMo).toInt := by subst e_1; rfl
  have f_6 : (Mo_groups sMo_1).toInt = (Mo_groups sMo).toInt := by subst e_1; rfl
  refine So.ite (fun c_7 => ?_) (fun c_7 => ?_)
  · rw [i_le] at c_7
    have f_8 := I_Mo_codes I_2
    refine So.ite (fun c_9 => ?_) (fun c_9 => ?_)
    · rw [i_eq] at c_9
      have k_10 : ((-1) : Int32).toInt = -1 := by decide
      exact So.one ⟨I_2, (by show (Mo_taped sMo_1).toInt = (Mo_taped sMo).toInt; omega)⟩
    · rw [i_eq] at c_9
      have k_11 : ((-1) : Int32).toInt = -1 := by decide
      refine So.ite (fun c_12 => ?_) (fun c_12 => ?_)
      · rw [i_eq] at c_12
        have k_13 : ((-2) : Int32).toInt = -2 := by decide
        refine So.gd (i_in.mpr (by omega)) ?_
        exact So.one ⟨I_2, (by show (Mo_taped sMo_1).toInt = (Mo_taped sMo).toInt; omega)⟩
      · rw [i_eq] at c_12
        have k_14 : ((-2) : Int32).toInt = -2 := by decide
        refine So.ite (fun c_15 => ?_) (fun c_15 => ?_)
        · rw [i_lt] at c_15
          exact So.one ⟨I_2, (by show (Mo_taped sMo_1).toInt = (Mo_taped sMo).toInt; omega)⟩
        · rw [i_lt] at c_15
          refine So.ite (fun c_16 => ?_) (fun c_16 => ?_)
          · rw [i_le] at c_16
            have f_17 := I_Mo_groups I_2
            exact So.one ⟨I_2, (by show (Mo_taped sMo_1).toInt = (Mo_taped sMo).toInt; omega)⟩
          · rw [i_le] at c_16
            have f_18 := I_Mo_groups I_2
            refine So.gd (i_in.mpr (by omega)) ?_
            exact So.one ⟨I_2, (by show (Mo_taped sMo_1).toInt = (Mo_taped sMo).toInt; omega)⟩
  · rw [i_le] at c_7
    have f_19 := I_Mo_codes I_2
    exact So.one ⟨I_2, (by show (Mo_taped sMo_1).toInt = (Mo_taped sMo).toInt; omega)⟩
theorem t_Mod_inOrder {a0 : Int32} (g_0 : 0 ≤ a0.toInt) (g_1 : a0.toInt < 64) : So (Mod_inOrder a0) (fun r => (0 ≤ r.toInt) ∧ (r.toInt < 64)) := by
  unfold Mod_inOrder
  refine So.ite (fun c_1 => ?_) (fun c_1 => ?_)
  · rw [i_eq] at c_1
    have k_2 : (8 : Int32).toInt = 8 := by decide
    first | have f_3 := i_divk a0 8 8 (by decide) (by decide) (by omega) | have f_3 := i_diva a0 8 8 (by decide) (by decide)
    have k_4 : (2 : Int32).toInt = 2 := by decide
    first | have f_5 := i_divk (a0 / 8) 2 2 (by decide) (by decide) (by omega) | have f_5 := i_diva (a0 / 8) 2 2 (by decide) (by decide)
    first | have f_6 := i_mulr ((a0 / 8) / 2) 2 (2) (by decide) (by omega) (by omega) | have f_6 := i_mulrm ((a0 / 8) / 2) 2 (2) (by decide)
    first | have f_7 := i_sub (a := (a0 / 8)) (b := (((a0 / 8) / 2) * 2)) (by omega) (by omega) | have f_7 := i_subm (a0 / 8) (((a0 / 8) / 2) * 2)
    have k_8 : (0 : Int32).toInt = 0 := by decide
    exact So.one ⟨(by show 0 ≤ (a0 : Int32).toInt; omega), (by show (a0 : Int32).toInt < 64; omega)⟩
  · rw [i_eq] at c_1
    have k_9 : (8 : Int32).toInt = 8 := by decide
    first | have f_10 := i_divk a0 8 8 (by decide) (by decide) (by omega) | have f_10 := i_diva a0 8 8 (by decide) (by decide)
    have k_11 : (2 : Int32).toInt = 2 := by decide
    first | have f_12 := i_divk (a0 / 8) 2 2 (by decide) (by decide) (by omega) | have f_12 := i_diva (a0 / 8) 2 2 (by decide) (by decide)
    first | have f_13 := i_mulr ((a0 / 8) / 2) 2 (2) (by decide) (by omega) (by omega) | have f_13 := i_mulrm ((a0 / 8) / 2) 2 (2) (by decide)
    first | have f_14 := i_sub (a := (a0 / 8)) (b := (((a0 / 8) / 2) * 2)) (by omega) (by omega) | have f_14 := i_subm (a0 / 8) (((a0 / 8) / 2) * 2)
    have k_15 : (0 : Int32).toInt = 0 := by decide
    first | have f_16 := i_mull 8 (a0 / 8) (8) (by decide) (by omega) (by omega) | have f_16 := i_mullm 8 (a0 / 8) (8) (by decide)
    have k_17 : (7 : Int32).toInt = 7 := by decide
    first | have f_18 := i_add (a := (8 * (a0 / 8))) (b := 7) (by omega) (by omega) | have f_18 := i_addm (8 * (a0 / 8)) 7
    first | have f_19 := i_mulr (a0 / 8) 8 (8) (by decide) (by omega) (by omega) | have f_19 := i_mulrm (a0 / 8) 8 (8) (by decide)
    first | have f_20 := i_sub (a := a0) (b := ((a0 / 8) * 8)) (by omega) (by omega) | have f_20 := i_subm a0 ((a0 / 8) * 8)
    first | have f_21 := i_sub (a := ((8 * (a0 / 8)) + 7)) (b := (a0 - ((a0 / 8) * 8))) (by omega) (by omega) | have f_21 := i_subm ((8 * (a0 / 8)) + 7) (a0 - ((a0 / 8) * 8))
    exact So.one ⟨(by show 0 ≤ ((((8 * (a0 / 8)) + 7) - (a0 - ((a0 / 8) * 8))) : Int32).toInt; omega), (by show ((((8 * (a0 / 8)) + 7) - (a0 - ((a0 / 8) * 8))) : Int32).toInt < 64; omega)⟩
theorem t_Mod_point {a0 : Int32} {a1 : Int64} {sMo : S_Mo} {sMpoints : (Nat → Int64)} (I_sMo : I_Mo sMo) : So (Mod_point a0 a1 sMo sMpoints) (fun r => I_Mo r.1 ∧ (((Mo_thrown r.1).toInt = 1 ∧ ¬ (0 ≤ a0.toInt ∧ a0.toInt < 64)) ∨ ((Mo_thrown r.1).toInt = 2 ∧ (0 ≤ a0.toInt ∧ a0.toInt < 64) ∧ ¬ (a1.toInt = -9000000000000000000 ∨ (-2000000000 ≤ a1.toInt ∧ a1.toInt ≤ 2000000000))) ∨ ((Mo_thrown r.1).toInt = 0 ∧ (0 ≤ a0.toInt ∧ a0.toInt < 64) ∧ (a1.toInt = -9000000000000000000 ∨ (-2000000000 ≤ a1.toInt ∧ a1.toInt ≤ 2000000000)))) ∧ ((Mo_taped r.1).toInt = (Mo_taped sMo).toInt)) := by
  unfold Mod_point
  refine So.ite (fun c_1 => ?_) (fun c_1 => ?_)
  · rw [i_lt] at c_1
    have k_2 : (0 : Int32).toInt = 0 := by decide
    unfold Mod_point_j11
    unfold Mod_point_j44
    refine So.lt2 fun sMo_6 e_3 => ?_
    have I_4 : I_Mo sMo_6 := by rw [e_3]; exact (I_Mo_set_thrown I_sMo)
    have k_5 : (1 : Int32).toInt = 1 := by decide
    have f_6 : (Mo_thrown sMo_6).toInt = (1 : Int32).toInt := by subst e_3; rfl
    have f_7 : (Mo_taped sMo_6).toInt = (Mo_taped sMo).toInt := by subst e_3; rfl
    refine So.ite (fun c_8 => ?_) (fun c_8 => ?_)
    · rw [i_eq] at c_8
      refine So.gd (i_in.mpr (by omega)) ?_
      refine So.lt2 fun sMpoints_8 e_9 => ?_
      exact So.one ⟨I_4, (by show ((Mo_thrown sMo_6).toInt = 1 ∧ ¬ (0 ≤ a0.toInt ∧ a0.toInt < 64)) ∨ ((Mo_thrown sMo_6).toInt = 2 ∧ (0 ≤ a0.toInt ∧ a0.toInt < 64) ∧ ¬ (a1.toInt = -9000000000000000000 ∨ (-2000000000 ≤ a1.toInt ∧ a1.toInt ≤ 2000000000))) ∨ ((Mo_thrown sMo_6).toInt = 0 ∧ (0 ≤ a0.toInt ∧ a0.toInt < 64) ∧ (a1.toInt = -9000000000000000000 ∨ (-2000000000 ≤ a1.toInt ∧ a1.toInt ≤ 2000000000))); omega), (by show (Mo_taped sMo_6).toInt = (Mo_taped sMo).toInt; omega)⟩
    · rw [i_eq] at c_8
      exact So.one ⟨I_4, (by show ((Mo_thrown sMo_6).toInt = 1 ∧ ¬ (0 ≤ a0.toInt ∧ a0.toInt < 64)) ∨ ((Mo_thrown sMo_6).toInt = 2 ∧ (0 ≤ a0.toInt ∧ a0.toInt < 64) ∧ ¬ (a1.toInt = -9000000000000000000 ∨ (-2000000000 ≤ a1.toInt ∧ a1.toInt ≤ 2000000000))) ∨ ((Mo_thrown sMo_6).toInt = 0 ∧ (0 ≤ a0.toInt ∧ a0.toInt < 64) ∧ (a1.toInt = -9000000000000000000 ∨ (-2000000000 ≤ a1.toInt ∧ a1.toInt ≤ 2000000000))); omega), (by show (Mo_taped sMo_6).toInt = (Mo_taped sMo).toInt; omega)⟩
  · rw [i_lt] at c_1
    have k_10 : (0 : Int32).toInt = 0 := by decide
    refine So.ite (fun c_11 => ?_) (fun c_11 => ?_)
    · rw [i_le] at c_11
      have k_12 : (63 : Int32).toInt = 63 := by decide
      refine So.ite (fun c_13 => ?_) (fun c_13 => ?_)
      · rw [i64_eq] at c_13
        have k_14 : ((-9000000000000000000) : Int64).toInt = -9000000000000000000 := by decide
        unfold Mod_point_j43
        unfold Mod_point_j44
        refine So.lt2 fun sMo_6 e_15 => ?_
        have I_16 : I_Mo sMo_6 := by rw [e_15]; exact (I_Mo_set_thrown I_sMo)
        have f_17 : (Mo_thrown sMo_6).toInt = (0 : Int32).toInt := by subst e_15; rfl
        have f_18 : (Mo_taped sMo_6).toInt = (Mo_taped sMo).toInt := by subst e_15; rfl
        refine So.ite (fun c_19 => ?_) (fun c_19 => ?_)
        · rw [i_eq] at c_19
          refine So.gd (i_in.mpr (by omega)) ?_
          refine So.lt2 fun sMpoints_8 e_20 => ?_
          exact So.one ⟨I_16, (by show ((Mo_thrown sMo_6).toInt = 1 ∧ ¬ (0 ≤ a0.toInt ∧ a0.toInt < 64)) ∨ ((Mo_thrown sMo_6).toInt = 2 ∧ (0 ≤ a0.toInt ∧ a0.toInt < 64) ∧ ¬ (a1.toInt = -9000000000000000000 ∨ (-2000000000 ≤ a1.toInt ∧ a1.toInt ≤ 2000000000))) ∨ ((Mo_thrown sMo_6).toInt = 0 ∧ (0 ≤ a0.toInt ∧ a0.toInt < 64) ∧ (a1.toInt = -9000000000000000000 ∨ (-2000000000 ≤ a1.toInt ∧ a1.toInt ≤ 2000000000))); omega), (by show (Mo_taped sMo_6).toInt = (Mo_taped sMo).toInt; omega)⟩
        · rw [i_eq] at c_19
          exact So.one ⟨I_16, (by show ((Mo_thrown sMo_6).toInt = 1 ∧ ¬ (0 ≤ a0.toInt ∧ a0.toInt < 64)) ∨ ((Mo_thrown sMo_6).toInt = 2 ∧ (0 ≤ a0.toInt ∧ a0.toInt < 64) ∧ ¬ (a1.toInt = -9000000000000000000 ∨ (-2000000000 ≤ a1.toInt ∧ a1.toInt ≤ 2000000000))) ∨ ((Mo_thrown sMo_6).toInt = 0 ∧ (0 ≤ a0.toInt ∧ a0.toInt < 64) ∧ (a1.toInt = -9000000000000000000 ∨ (-2000000000 ≤ a1.toInt ∧ a1.toInt ≤ 2000000000))); omega), (by show (Mo_taped sMo_6).toInt = (Mo_taped sMo).toInt; omega)⟩
      · rw [i64_eq] at c_13
        have k_21 : ((-9000000000000000000) : Int64).toInt = -9000000000000000000 := by decide
        refine So.ite (fun c_22 => ?_) (fun c_22 => ?_)
        · rw [i64_lt] at c_22
          have k_23 : ((-2000000000) : Int64).toInt = -2000000000 := by decide
          unfold Mod_point_j39
          unfold Mod_point_j44
          refine So.lt2 fun sMo_6 e_24 => ?_
          have I_25 : I_Mo sMo_6 := by rw [e_24]; exact (I_Mo_set_thrown I_sMo)
          have k_26 : (2 : Int32).toInt = 2 := by decide
          have f_27 : (Mo_thrown sMo_6).toInt = (2 : Int32).toInt := by subst e_24; rfl
          have f_28 : (Mo_taped sMo_6).toInt = (Mo_taped sMo).toInt := by subst e_24; rfl
          refine So.ite (fun c_29 => ?_) (fun c_29 => ?_)
          · rw [i_eq] at c_29
            refine So.gd (i_in.mpr (by omega)) ?_
            refine So.lt2 fun sMpoints_8 e_30 => ?_
            exact So.one ⟨I_25, (by show ((Mo_thrown sMo_6).toInt = 1 ∧ ¬ (0 ≤ a0.toInt ∧ a0.toInt < 64)) ∨ ((Mo_thrown sMo_6).toInt = 2 ∧ (0 ≤ a0.toInt ∧ a0.toInt < 64) ∧ ¬ (a1.toInt = -9000000000000000000 ∨ (-2000000000 ≤ a1.toInt ∧ a1.toInt ≤ 2000000000))) ∨ ((Mo_thrown sMo_6).toInt = 0 ∧ (0 ≤ a0.toInt ∧ a0.toInt < 64) ∧ (a1.toInt = -9000000000000000000 ∨ (-2000000000 ≤ a1.toInt ∧ a1.toInt ≤ 2000000000))); omega), (by show (Mo_taped sMo_6).toInt = (Mo_taped sMo).toInt; omega)⟩
          · rw [i_eq] at c_29
            exact So.one ⟨I_25, (by show ((Mo_thrown sMo_6).toInt = 1 ∧ ¬ (0 ≤ a0.toInt ∧ a0.toInt < 64)) ∨ ((Mo_thrown sMo_6).toInt = 2 ∧ (0 ≤ a0.toInt ∧ a0.toInt < 64) ∧ ¬ (a1.toInt = -9000000000000000000 ∨ (-2000000000 ≤ a1.toInt ∧ a1.toInt ≤ 2000000000))) ∨ ((Mo_thrown sMo_6).toInt = 0 ∧ (0 ≤ a0.toInt ∧ a0.toInt < 64) ∧ (a1.toInt = -9000000000000000000 ∨ (-2000000000 ≤ a1.toInt ∧ a1.toInt ≤ 2000000000))); omega), (by show (Mo_taped sMo_6).toInt = (Mo_taped sMo).toInt; omega)⟩
        · rw [i64_lt] at c_22
          have k_31 : ((-2000000000) : Int64).toInt = -2000000000 := by decide
          refine So.ite (fun c_32 => ?_) (fun c_32 => ?_)
          · rw [i64_le] at c_32
            have k_33 : (2000000000 : Int64).toInt = 2000000000 := by decide
            unfold Mod_point_j43
            unfold Mod_point_j44
            refine So.lt2 fun sMo_6 e_34 => ?_
            have I_35 : I_Mo sMo_6 := by rw [e_34]; exact (I_Mo_set_thrown I_sMo)
            have f_36 : (Mo_thrown sMo_6).toInt = (0 : Int32).toInt := by subst e_34; rfl
            have f_37 : (Mo_taped sMo_6).toInt = (Mo_taped sMo).toInt := by subst e_34; rfl
            refine So.ite (fun c_38 => ?_) (fun c_38 => ?_)
            · rw [i_eq] at c_38
              refine So.gd (i_in.mpr (by omega)) ?_
              refine So.lt2 fun sMpoints_8 e_39 => ?_
              exact So.one ⟨I_35, (by show ((Mo_thrown sMo_6).toInt = 1 ∧ ¬ (0 ≤ a0.toInt ∧ a0.toInt < 64)) ∨ ((Mo_thrown sMo_6).toInt = 2 ∧ (0 ≤ a0.toInt ∧ a0.toInt < 64) ∧ ¬ (a1.toInt = -9000000000000000000 ∨ (-2000000000 ≤ a1.toInt ∧ a1.toInt ≤ 2000000000))) ∨ ((Mo_thrown sMo_6).toInt = 0 ∧ (0 ≤ a0.toInt ∧ a0.toInt < 64) ∧ (a1.toInt = -9000000000000000000 ∨ (-2000000000 ≤ a1.toInt ∧ a1.toInt ≤ 2000000000))); omega), (by show (Mo_taped sMo_6).toInt = (Mo_taped sMo).toInt; omega)⟩
            · rw [i_eq] at c_38
              exact So.one ⟨I_35, (by show ((Mo_thrown sMo_6).toInt = 1 ∧ ¬ (0 ≤ a0.toInt ∧ a0.toInt < 64)) ∨ ((Mo_thrown sMo_6).toInt = 2 ∧ (0 ≤ a0.toInt ∧ a0.toInt < 64) ∧ ¬ (a1.toInt = -9000000000000000000 ∨ (-2000000000 ≤ a1.toInt ∧ a1.toInt ≤ 2000000000))) ∨ ((Mo_thrown sMo_6).toInt = 0 ∧ (0 ≤ a0.toInt ∧ a0.toInt < 64) ∧ (a1.toInt = -9000000000000000000 ∨ (-2000000000 ≤ a1.toInt ∧ a1.toInt ≤ 2000000000))); omega), (by show (Mo_taped sMo_6).toInt = (Mo_taped sMo).toInt; omega)⟩
          · rw [i64_le] at c_32
            have k_40 : (2000000000 : Int64).toInt = 2000000000 := by decide
            unfold Mod_point_j39
            unfold Mod_point_j44
            refine So.lt2 fun sMo_6 e_41 => ?_
            have I_42 : I_Mo sMo_6 := by rw [e_41]; exact (I_Mo_set_thrown I_sMo)
            have k_43 : (2 : Int32).toInt = 2 := by decide
            have f_44 : (Mo_thrown sMo_6).toInt = (2 : Int32).toInt := by subst e_41; rfl
            have f_45 : (Mo_taped sMo_6).toInt = (Mo_taped sMo).toInt := by subst e_41; rfl
            refine So.ite (fun c_46 => ?_) (fun c_46 => ?_)
            · rw [i_eq] at c_46
              refine So.gd (i_in.mpr (by omega)) ?_
              refine So.lt2 fun sMpoints_8 e_47 => ?_
              exact So.one ⟨I_42, (by show ((Mo_thrown sMo_6).toInt = 1 ∧ ¬ (0 ≤ a0.toInt ∧ a0.toInt < 64)) ∨ ((Mo_thrown sMo_6).toInt = 2 ∧ (0 ≤ a0.toInt ∧ a0.toInt < 64) ∧ ¬ (a1.toInt = -9000000000000000000 ∨ (-2000000000 ≤ a1.toInt ∧ a1.toInt ≤ 2000000000))) ∨ ((Mo_thrown sMo_6).toInt = 0 ∧ (0 ≤ a0.toInt ∧ a0.toInt < 64) ∧ (a1.toInt = -9000000000000000000 ∨ (-2000000000 ≤ a1.toInt ∧ a1.toInt ≤ 2000000000))); omega), (by show (Mo_taped sMo_6).toInt = (Mo_taped sMo).toInt; omega)⟩
            · rw [i_eq] at c_46
              exact So.one ⟨I_42, (by show ((Mo_thrown sMo_6).toInt = 1 ∧ ¬ (0 ≤ a0.toInt ∧ a0.toInt < 64)) ∨ ((Mo_thrown sMo_6).toInt = 2 ∧ (0 ≤ a0.toInt ∧ a0.toInt < 64) ∧ ¬ (a1.toInt = -9000000000000000000 ∨ (-2000000000 ≤ a1.toInt ∧ a1.toInt ≤ 2000000000))) ∨ ((Mo_thrown sMo_6).toInt = 0 ∧ (0 ≤ a0.toInt ∧ a0.toInt < 64) ∧ (a1.toInt = -9000000000000000000 ∨ (-2000000000 ≤ a1.toInt ∧ a1.toInt ≤ 2000000000))); omega), (by show (Mo_taped sMo_6).toInt = (Mo_taped sMo).toInt; omega)⟩
    · rw [i_le] at c_11
      have k_48 : (63 : Int32).toInt = 63 := by decide
      unfold Mod_point_j11
      unfold Mod_point_j44
      refine So.lt2 fun sMo_6 e_49 => ?_
      have I_50 : I_Mo sMo_6 := by rw [e_49]; exact (I_Mo_set_thrown I_sMo)
      have k_51 : (1 : Int32).toInt = 1 := by decide
      have f_52 : (Mo_thrown sMo_6).toInt = (1 : Int32).toInt := by subst e_49; rfl
      have f_53 : (Mo_taped sMo_6).toInt = (Mo_taped sMo).toInt := by subst e_49; rfl
      refine So.ite (fun c_54 => ?_) (fun c_54 => ?_)
      · rw [i_eq] at c_54
        refine So.gd (i_in.mpr (by omega)) ?_
        refine So.lt2 fun sMpoints_8 e_55 => ?_
        exact So.one ⟨I_50, (by show ((Mo_thrown sMo_6).toInt = 1 ∧ ¬ (0 ≤ a0.toInt ∧ a0.toInt < 64)) ∨ ((Mo_thrown sMo_6).toInt = 2 ∧ (0 ≤ a0.toInt ∧ a0.toInt < 64) ∧ ¬ (a1.toInt = -9000000000000000000 ∨ (-2000000000 ≤ a1.toInt ∧ a1.toInt ≤ 2000000000))) ∨ ((Mo_thrown sMo_6).toInt = 0 ∧ (0 ≤ a0.toInt ∧ a0.toInt < 64) ∧ (a1.toInt = -9000000000000000000 ∨ (-2000000000 ≤ a1.toInt ∧ a1.toInt ≤ 2000000000))); omega), (by show (Mo_taped sMo_6).toInt = (Mo_taped sMo).toInt; omega)⟩
      · rw [i_eq] at c_54
        exact So.one ⟨I_50, (by show ((Mo_thrown sMo_6).toInt = 1 ∧ ¬ (0 ≤ a0.toInt ∧ a0.toInt < 64)) ∨ ((Mo_thrown sMo_6).toInt = 2 ∧ (0 ≤ a0.toInt ∧ a0.toInt < 64) ∧ ¬ (a1.toInt = -9000000000000000000 ∨ (-2000000000 ≤ a1.toInt ∧ a1.toInt ≤ 2000000000))) ∨ ((Mo_thrown sMo_6).toInt = 0 ∧ (0 ≤ a0.toInt ∧ a0.toInt < 64) ∧ (a1.toInt = -9000000000000000000 ∨ (-2000000000 ≤ a1.toInt ∧ a1.toInt ≤ 2000000000))); omega), (by show (Mo_taped sMo_6).toInt = (Mo_taped sMo).toInt; omega)⟩
theorem t_Mod_byteAt_L95 {fu : Nat} {sMmade : (Nat → Int32)} {x1_L95 : Int32} {sMo_L95 : S_Mo} (hf : 12000 ≤ fu) (I_sMo_L95 : I_Mo sMo_L95) (g_0 : 4 ≤ x1_L95.toInt) (g_1 : x1_L95.toInt ≤ 5005) : ∀ (n : Nat) (x2_L95 : Int32) (x3_L95 : Int32), (8 * (x1_L95.toInt - 4) ≤ x3_L95.toInt) → (x3_L95.toInt ≤ 8 * (x1_L95.toInt - 3)) → (8 * (x1_L95.toInt - 3) - x3_L95.toInt < (n : Nat)) → So (Mod_byteAt_L95 fu sMmade x1_L95 sMo_L95 n x2_L95 x3_L95) (fun r => I_Mo r.2 ∧ ((Mo_taped r.2).toInt = (Mo_taped sMo_L95).toInt))
  | 0, x2_L95, x3_L95, l_0, l_1, l_2 => absurd l_2 (by omega)
  | n + 1, x2_L95, x3_L95, l_0, l_1, l_2 => by
    rw [Mod_byteAt_L95]
    refine So.ite (fun c_1 => ?_) (fun c_1 => ?_)
    · rw [i_le] at c_1
      have k_2 : (8 : Int32).toInt = 8 := by decide
      have k_3 : (3 : Int32).toInt = 3 := by decide
      first | have f_4 := i_sub (a := x1_L95) (b := 3) (by omega) (by omega) | have f_4 := i_subm x1_L95 3
      first | have f_5 := i_mull 8 (x1_L95 - 3) (8) (by decide) (by omega) (by omega) | have f_5 := i_mullm 8 (x1_L95 - 3) (8) (by decide)
      exact So.one ⟨I_sMo_L95, (by show (Mo_taped sMo_L95).toInt = (Mo_taped sMo_L95).toInt; omega)⟩
    · rw [i_le] at c_1
      have k_6 : (8 : Int32).toInt = 8 := by decide
      have k_7 : (3 : Int32).toInt = 3 := by decide
      first | have f_8 := i_sub (a := x1_L95) (b := 3) (by omega) (by omega) | have f_8 := i_subm x1_L95 3
      first | have f_9 := i_mull 8 (x1_L95 - 3) (8) (by decide) (by omega) (by omega) | have f_9 := i_mullm 8 (x1_L95 - 3) (8) (by decide)
      refine So.ite (fun c_10 => ?_) (fun c_10 => ?_)
      · rw [i_le] at c_10
        have f_11 := I_Mo_madeMany I_sMo_L95
        unfold Mod_byteAt_j129
        unfold Mod_byteAt_j130
        have k_12 : (1 : Int32).toInt = 1 := by decide
        first | have f_13 := i_add (a := x3_L95) (b := 1) (by omega) (by omega) | have f_13 := i_addm x3_L95 1
        exact t_Mod_byteAt_L95 hf I_sMo_L95 (by show 4 ≤ x1_L95.toInt; omega) (by show x1_L95.toInt ≤ 5005; omega)   n _ _ (by show 8 * (x1_L95.toInt - 4) ≤ (x3_L95 + 1).toInt; omega) (by show (x3_L95 + 1).toInt ≤ 8 * (x1_L95.toInt - 3); omega) (by show 8 * (x1_L95.toInt - 3) - (x3_L95 + 1).toInt < (n : Nat); omega)
      · rw [i_le] at c_10
        have f_14 := I_Mo_madeMany I_sMo_L95
        refine So.gd (i_in.mpr (by omega)) ?_
        refine So.ite (fun c_15 => ?_) (fun c_15 => ?_)
        · rw [i_eq] at c_15
          have k_16 : (0 : Int32).toInt = 0 := by decide
          unfold Mod_byteAt_j129
          unfold Mod_byteAt_j130
          have k_17 : (1 : Int32).toInt = 1 := by decide
          first | have f_18 := i_add (a := x3_L95) (b := 1) (by omega) (by omega) | have f_18 := i_addm x3_L95 1
          exact t_Mod_byteAt_L95 hf I_sMo_L95 (by show 4 ≤ x1_L95.toInt; omega) (by show x1_L95.toInt ≤ 5005; omega)   n _ _ (by show 8 * (x1_L95.toInt - 4) ≤ (x3_L95 + 1).toInt; omega) (by show (x3_L95 + 1).toInt ≤ 8 * (x1_L95.toInt - 3); omega) (by show 8 * (x1_L95.toInt - 3) - (x3_L95 + 1).toInt < (n : Nat); omega)
        · rw [i_eq] at c_15
          have k_19 : (0 : Int32).toInt = 0 := by decide
          unfold Mod_byteAt_j130
          have k_20 : (1 : Int32).toInt = 1 := by decide
          first | have f_21 := i_add (a := x3_L95) (b := 1) (by omega) (by omega) | have f_21 := i_addm x3_L95 1
          exact t_Mod_byteAt_L95 hf I_sMo_L95 (by show 4 ≤ x1_L95.toInt; omega) (by show x1_L95.toInt ≤ 5005; omega)   n _ _ (by show 8 * (x1_L95.toInt - 4) ≤ (x3_L95 + 1).toInt; omega) (by show (x3_L95 + 1).toInt ≤ 8 * (x1_L95.toInt - 3); omega) (by show 8 * (x1_L95.toInt - 3) - (x3_L95 + 1).toInt < (n : Nat); omega)
theorem t_Mod_byteAt {fu : Nat} {sMmade : (Nat → Int32)} {a0 : Int32} {sMo : S_Mo} (hf : 12000 ≤ fu) (I_sMo : I_Mo sMo) : So (Mod_byteAt fu sMmade a0 sMo) (fun r => I_Mo r.2 ∧ ((Mo_taped r.2).toInt = (Mo_taped sMo).toInt)) := by
  unfold Mod_byteAt
  refine So.lt2 fun sMo_1 e_1 => ?_
  have I_2 : I_Mo sMo_1 := by rw [e_1]; exact (I_Mo_set_thrown I_sMo)
  have k_3 : (0 : Int32).toInt = 0 := by decide
  have f_4 : (Mo_madeMany sMo_1).toInt = (Mo_madeMany sMo).toInt := by subst e_1; rfl
  have f_5 : (Mo_madeKind sMo_1).toInt = (Mo_madeKind sMo).toInt := by subst e_1; rfl
  have f_6 : (Mo_madeSubsets sMo_1).toInt = (Mo_madeSubsets sMo).toInt := by subst e_1; rfl
  have f_7 : (Mo_written sMo_1).toInt = (Mo_written sMo).toInt := by subst e_1; rfl
  have f_8 : (Mo_taped sMo_1).toInt = (Mo_taped sMo).toInt := by subst e_1; rfl
  refine So.ite (fun c_9 => ?_) (fun c_9 => ?_)
  · rw [i_eq] at c_9
    exact So.one ⟨I_2, (by show (Mo_taped sMo_1).toInt = (Mo_taped sMo).toInt; omega)⟩
  · rw [i_eq] at c_9
    refine So.ite (fun c_10 => ?_) (fun c_10 => ?_)
    · rw [i_lt] at c_10
      exact So.one ⟨I_2, (by show (Mo_taped sMo_1).toInt = (Mo_taped sMo).toInt; omega)⟩
    · rw [i_lt] at c_10
      refine So.ite (fun c_11 => ?_) (fun c_11 => ?_)
      · rw [i_lt] at c_11
        have k_12 : (4 : Int32).toInt = 4 := by decide
        have f_13 := I_Mo_madeMany I_2
        have k_14 : (7 : Int32).toInt = 7 := by decide
        first | have f_15 := i_add (a := (Mo_madeMany sMo_1)) (b := 7) (by omega) (by omega) | have f_15 := i_addm (Mo_madeMany sMo_1) 7
        have k_16 : (8 : Int32).toInt = 8 := by decide
        first | have f_17 := i_divk ((Mo_madeMany sMo_1) + 7) 8 8 (by decide) (by decide) (by omega) | have f_17 := i_diva ((Mo_madeMany sMo_1) + 7) 8 8 (by decide) (by decide)
        first | have f_18 := i_add (a := 4) (b := (((Mo_madeMany sMo_1) + 7) / 8)) (by omega) (by omega) | have f_18 := i_addm 4 (((Mo_madeMany sMo_1) + 7) / 8)
        refine So.ite (fun c_19 => ?_) (fun c_19 => ?_)
        · rw [i_le] at c_19
          first | have f_20 := i_sub (a := a0) (b := 4) (by omega) (by omega) | have f_20 := i_subm a0 4
          first | have f_21 := i_mull 8 (a0 - 4) (8) (by decide) (by omega) (by omega) | have f_21 := i_mullm 8 (a0 - 4) (8) (by decide)
          refine So.imp (t_Mod_byteAt_L95 hf I_2 (by show 4 ≤ a0.toInt; omega) (by show a0.toInt ≤ 5005; omega) fu _ _ (by show 8 * (a0.toInt - 4) ≤ (8 * (a0 - 4)).toInt; omega) (by show (8 * (a0 - 4)).toInt ≤ 8 * (a0.toInt - 3); omega) (by show 8 * (a0.toInt - 3) - (8 * (a0 - 4)).toInt < (fu : Nat); omega)) fun q_z h_z => ?_
          obtain ⟨p_22, p_23⟩ := h_z
          exact ⟨p_22, (by show (Mo_taped q_z.2).toInt = (Mo_taped sMo).toInt; omega)⟩
        · rw [i_le] at c_19
          refine So.ite (fun c_24 => ?_) (fun c_24 => ?_)
          · rw [i_eq] at c_24
            exact So.one ⟨I_2, (by show (Mo_taped sMo_1).toInt = (Mo_taped sMo).toInt; omega)⟩
          · rw [i_eq] at c_24
            refine So.ite (fun c_25 => ?_) (fun c_25 => ?_)
            · rw [i_eq] at c_25
              have k_26 : (1 : Int32).toInt = 1 := by decide
              exact So.one ⟨I_2, (by show (Mo_taped sMo_1).toInt = (Mo_taped sMo).toInt; omega)⟩
            · rw [i_eq] at c_25
              have k_27 : (1 : Int32).toInt = 1 := by decide
              refine So.ite (fun c_28 => ?_) (fun c_28 => ?_)
              · rw [i_eq] at c_28
                have k_29 : (2 : Int32).toInt = 2 := by decide
                exact So.one ⟨I_2, (by show (Mo_taped sMo_1).toInt = (Mo_taped sMo).toInt; omega)⟩
              · rw [i_eq] at c_28
                have k_30 : (2 : Int32).toInt = 2 := by decide
                exact So.one ⟨I_2, (by show (Mo_taped sMo_1).toInt = (Mo_taped sMo).toInt; omega)⟩
      · rw [i_lt] at c_11
        have k_31 : (4 : Int32).toInt = 4 := by decide
        have f_32 := I_Mo_madeMany I_2
        have k_33 : (7 : Int32).toInt = 7 := by decide
        first | have f_34 := i_add (a := (Mo_madeMany sMo_1)) (b := 7) (by omega) (by omega) | have f_34 := i_addm (Mo_madeMany sMo_1) 7
        have k_35 : (8 : Int32).toInt = 8 := by decide
        first | have f_36 := i_divk ((Mo_madeMany sMo_1) + 7) 8 8 (by decide) (by decide) (by omega) | have f_36 := i_diva ((Mo_madeMany sMo_1) + 7) 8 8 (by decide) (by decide)
        first | have f_37 := i_add (a := 4) (b := (((Mo_madeMany sMo_1) + 7) / 8)) (by omega) (by omega) | have f_37 := i_addm 4 (((Mo_madeMany sMo_1) + 7) / 8)
        exact So.one ⟨I_2, (by show (Mo_taped sMo_1).toInt = (Mo_taped sMo).toInt; omega)⟩
theorem t_Mod_feed_L33 {fu : Nat} {x1_L33 : Int32} (hf : 12000 ≤ fu) : ∀ (n : Nat) (x3_L33 : Int32) (sMo_L33 : S_Mo) (sMtape_L33 : Nat → Int32), I_Mo sMo_L33 → A_Mtape sMtape_L33 → (-1 ≤ x3_L33.toInt) → (x3_L33.toInt ≤ 3) → ((Mo_taped sMo_L33).toInt + x3_L33.toInt + 1 ≤ 1000) → (x3_L33.toInt + 1 < (n : Nat)) → So (Mod_feed_L33 fu x1_L33 n x3_L33 sMo_L33 sMtape_L33) (fun r => I_Mo r.2.1 ∧ A_Mtape r.2.2)
  | 0, x3_L33, sMo_L33, sMtape_L33, I_sMo_L33, I_sMtape_L33, l_0, l_1, l_2, l_3 => absurd l_3 (by omega)
  | n + 1, x3_L33, sMo_L33, sMtape_L33, I_sMo_L33, I_sMtape_L33, l_0, l_1, l_2, l_3 => by
    rw [Mod_feed_L33]
    refine So.ite (fun c_1 => ?_) (fun c_1 => ?_)
    · rw [i_lt] at c_1
      have k_2 : (0 : Int32).toInt = 0 := by decide
      exact So.one ⟨I_sMo_L33, I_sMtape_L33⟩
    · rw [i_lt] at c_1
      have k_3 : (0 : Int32).toInt = 0 := by decide
      have f_4 := I_Mo_taped I_sMo_L33
      refine So.gd (i_in.mpr (by omega)) ?_
      refine So.lt2 fun sMtape_3 e_5 => ?_
      have k_6 : (8 : Int32).toInt = 8 := by decide
      first | have f_7 := i_mull 8 x3_L33 (8) (by decide) (by omega) (by omega) | have f_7 := i_mullm 8 x3_L33 (8) (by decide)
      have k_8 : (31 : Int32).toInt = 31 := by decide
      have f_9 := i_andm (8 * x3_L33) 31 (by decide)
      have k_10 : (255 : Int32).toInt = 255 := by decide
      have f_11 := i_andm (x1_L33 >>> ((8 * x3_L33) &&& 31)) 255 (by decide)
      have I_12 : A_Mtape sMtape_3 := by rw [e_5]; exact (A_Mtape_upd I_sMtape_L33 (by show 0 ≤ (((x1_L33 >>> ((8 * x3_L33) &&& 31)) &&& 255) : Int32).toInt ∧ (((x1_L33 >>> ((8 * x3_L33) &&& 31)) &&& 255) : Int32).toInt ≤ 255; omega))
      have k_14 : (1 : Int32).toInt = 1 := by decide
      first | have f_15 := i_add (a := (Mo_taped sMo_L33)) (b := 1) (by omega) (by omega) | have f_15 := i_addm (Mo_taped sMo_L33) 1
      refine So.lt2 fun sMo_4 e_13 => ?_
      have I_16 : I_Mo sMo_4 := by rw [e_13]; exact (I_Mo_set_taped I_sMo_L33 (by show 0 ≤ (((Mo_taped sMo_L33) + 1) : Int32).toInt ∧ (((Mo_taped sMo_L33) + 1) : Int32).toInt ≤ 1000; omega))
      have f_17 : (Mo_taped sMo_4).toInt = (((Mo_taped sMo_L33) + 1) : Int32).toInt := by subst e_13; rfl
      have k_18 : ((-1) : Int32).toInt = -1 := by decide
      first | have f_19 := i_add (a := x3_L33) (b := (-1)) (by omega) (by omega) | have f_19 := i_addm x3_L33 (-1)
      have f_20 := I_Mo_taped I_16
      exact t_Mod_feed_L33 hf   n _ _ _ I_16 I_12 (by show -1 ≤ (x3_L33 + (-1)).toInt; ((try generalize (x3_L33 + (-1)).toInt = gv0 at *); omega)) (by show (x3_L33 + (-1)).toInt ≤ 3; ((try generalize (x3_L33 + (-1)).toInt = gv0 at *); omega)) (by show (Mo_taped sMo_4).toInt + (x3_L33 + (-1)).toInt + 1 ≤ 1000; ((try generalize (x3_L33 + (-1)).toInt = gv0 at *); omega)) (by show (x3_L33 + (-1)).toInt + 1 < (n : Nat); ((try generalize (x3_L33 + (-1)).toInt = gv0 at *); omega))
theorem t_Mod_feed {fu : Nat} {a0 : Int32} {a1 : Int32} {sMo : S_Mo} {sMtape : (Nat → Int32)} (hf : 12000 ≤ fu) (I_sMo : I_Mo sMo) (I_sMtape : A_Mtape sMtape) : So (Mod_feed fu a0 a1 sMo sMtape) (fun r => I_Mo r.2.1 ∧ A_Mtape r.2.2) := by
  unfold Mod_feed
  refine So.lt2 fun sMo_1 e_1 => ?_
  have I_2 : I_Mo sMo_1 := by rw [e_1]; exact (I_Mo_set_thrown I_sMo)
  have k_3 : (0 : Int32).toInt = 0 := by decide
  have f_4 : (Mo_taped sMo_1).toInt = (Mo_taped sMo).toInt := by subst e_1; rfl
  refine So.ite (fun c_5 => ?_) (fun c_5 => ?_)
  · rw [i_lt] at c_5
    have k_6 : (1 : Int32).toInt = 1 := by decide
    exact So.one ⟨I_2, I_sMtape⟩
  · rw [i_lt] at c_5
    have k_7 : (1 : Int32).toInt = 1 := by decide
    refine So.ite (fun c_8 => ?_) (fun c_8 => ?_)
    · rw [i_lt] at c_8
      have k_9 : (4 : Int32).toInt = 4 := by decide
      exact So.one ⟨I_2, I_sMtape⟩
    · rw [i_lt] at c_8
      have k_10 : (4 : Int32).toInt = 4 := by decide
      refine So.ite (fun c_11 => ?_) (fun c_11 => ?_)
      · rw [i_le] at c_11
        have f_12 := I_Mo_taped I_2
        first | have f_13 := i_add (a := (Mo_taped sMo_1)) (b := a1) (by omega) (by omega) | have f_13 := i_addm (Mo_taped sMo_1) a1
        have k_14 : (1000 : Int32).toInt = 1000 := by decide
        first | have f_15 := i_sub (a := a1) (b := 1) (by omega) (by omega) | have f_15 := i_subm a1 1
        refine So.imp (t_Mod_feed_L33 hf fu _ _ _ I_2 I_sMtape (by show -1 ≤ (a1 - 1).toInt; omega) (by show (a1 - 1).toInt ≤ 3; omega) (by show (Mo_taped sMo_1).toInt + (a1 - 1).toInt + 1 ≤ 1000; omega) (by show (a1 - 1).toInt + 1 < (fu : Nat); omega)) fun q_z h_z => ?_
        obtain ⟨p_16, p_17⟩ := h_z
        exact ⟨p_16, p_17⟩
      · rw [i_le] at c_11
        have f_18 := I_Mo_taped I_2
        first | have f_19 := i_add (a := (Mo_taped sMo_1)) (b := a1) (by omega) (by omega) | have f_19 := i_addm (Mo_taped sMo_1) a1
        have k_20 : (1000 : Int32).toInt = 1000 := by decide
        exact So.one ⟨I_2, I_sMtape⟩
theorem t_Mod_isIn {a0 : Int32} {a1 : Int32} {a2 : Int32}  : So (Mod_isIn a0 a1 a2) (fun r => ((r.toInt = 1 ∧ (a1.toInt ≤ a0.toInt ∧ a0.toInt ≤ a2.toInt)) ∨ (r.toInt = 0 ∧ ¬ (a1.toInt ≤ a0.toInt ∧ a0.toInt ≤ a2.toInt)))) := by
  unfold Mod_isIn
  refine So.ite (fun c_1 => ?_) (fun c_1 => ?_)
  · rw [i_lt] at c_1
    have k_2 : (0 : Int32).toInt = 0 := by decide
    exact So.one (by show ((0 : Int32).toInt = 1 ∧ (a1.toInt ≤ a0.toInt ∧ a0.toInt ≤ a2.toInt)) ∨ ((0 : Int32).toInt = 0 ∧ ¬ (a1.toInt ≤ a0.toInt ∧ a0.toInt ≤ a2.toInt)); omega)
  · rw [i_lt] at c_1
    refine So.ite (fun c_3 => ?_) (fun c_3 => ?_)
    · rw [i_lt] at c_3
      have k_4 : (0 : Int32).toInt = 0 := by decide
      exact So.one (by show ((0 : Int32).toInt = 1 ∧ (a1.toInt ≤ a0.toInt ∧ a0.toInt ≤ a2.toInt)) ∨ ((0 : Int32).toInt = 0 ∧ ¬ (a1.toInt ≤ a0.toInt ∧ a0.toInt ≤ a2.toInt)); omega)
    · rw [i_lt] at c_3
      have k_5 : (1 : Int32).toInt = 1 := by decide
      exact So.one (by show ((1 : Int32).toInt = 1 ∧ (a1.toInt ≤ a0.toInt ∧ a0.toInt ≤ a2.toInt)) ∨ ((1 : Int32).toInt = 0 ∧ ¬ (a1.toInt ≤ a0.toInt ∧ a0.toInt ≤ a2.toInt)); omega)
theorem t_Mod_fresh {sMo : S_Mo} (I_sMo : I_Mo sMo) : So (Mod_fresh sMo) (fun r => I_Mo r ∧ ((Mo_fault r).toInt = 0)) := by
  unfold Mod_fresh
  refine So.lt2 fun sMo_1 e_1 => ?_
  have I_2 : I_Mo sMo_1 := by rw [e_1]; exact (I_Mo_set_fault I_sMo)
  have k_3 : (0 : Int32).toInt = 0 := by decide
  have f_4 : (Mo_fault sMo_1).toInt = (0 : Int32).toInt := by subst e_1; rfl
  refine So.lt2 fun sMo_2 e_5 => ?_
  have I_6 : I_Mo sMo_2 := by rw [e_5]; exact (I_Mo_set_place I_2)
  have k_7 : ((-1) : Int32).toInt = -1 := by decide
  have f_8 : (Mo_fault sMo_2).toInt = (Mo_fault sMo_1).toInt := by subst e_5; rfl
  exact So.one ⟨I_6, (by show (Mo_fault sMo_2).toInt = 0; omega)⟩
theorem t_Mod_most {a0 : Int32}  : So (Mod_most a0) (fun r => True) := by
  unfold Mod_most
  exact So.one trivial

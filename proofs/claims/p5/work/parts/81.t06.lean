def I_Mo (s : S_Mo) : Prop := (0 ≤ (Mo_used s).toInt ∧ (Mo_used s).toInt ≤ 3) ∧ (0 ≤ (Mo_open s).toInt ∧ (Mo_open s).toInt ≤ 90) ∧ (0 ≤ (Mo_fields s).toInt ∧ (Mo_fields s).toInt ≤ 100) ∧ (0 ≤ (Mo_elements s).toInt ∧ (Mo_elements s).toInt ≤ 100) ∧ (0 ≤ (Mo_pointed s).toInt ∧ (Mo_pointed s).toInt ≤ 100) ∧ (0 ≤ (Mo_pointer s).toInt ∧ (Mo_pointer s).toInt ≤ 100) ∧ (0 ≤ (Mo_subset s).toInt ∧ (Mo_subset s).toInt ≤ 7) ∧ (0 ≤ (Mo_many s).toInt ∧ (Mo_many s).toInt ≤ 65535) ∧ (0 ≤ (Mo_at s).toInt ∧ (Mo_at s).toInt ≤ 40000) ∧ (0 ≤ (Mo_madeMany s).toInt ∧ (Mo_madeMany s).toInt ≤ 40000) ∧ (0 ≤ (Mo_taped s).toInt ∧ (Mo_taped s).toInt ≤ 1000) ∧ (0 ≤ (Mo_firstFields s).toInt ∧ (Mo_firstFields s).toInt ≤ 100) ∧ (-1 ≤ (Mo_codes s).toInt ∧ (Mo_codes s).toInt ≤ 64) ∧ (0 ≤ (Mo_groups s).toInt ∧ (Mo_groups s).toInt ≤ 64)
theorem I_Mo_used {s : S_Mo} (h : I_Mo s) : 0 ≤ (Mo_used s).toInt ∧ (Mo_used s).toInt ≤ 3 := h.1
theorem I_Mo_open {s : S_Mo} (h : I_Mo s) : 0 ≤ (Mo_open s).toInt ∧ (Mo_open s).toInt ≤ 90 := h.2.1
theorem I_Mo_fields {s : S_Mo} (h : I_Mo s) : 0 ≤ (Mo_fields s).toInt ∧ (Mo_fields s).toInt ≤ 100 := h.2.2.1
theorem I_Mo_elements {s : S_Mo} (h : I_Mo s) : 0 ≤ (Mo_elements s).toInt ∧ (Mo_elements s).toInt ≤ 100 := h.2.2.2.1
theorem I_Mo_pointed {s : S_Mo} (h : I_Mo s) : 0 ≤ (Mo_pointed s).toInt ∧ (Mo_pointed s).toInt ≤ 100 := h.2.2.2.2.1
theorem I_Mo_pointer {s : S_Mo} (h : I_Mo s) : 0 ≤ (Mo_pointer s).toInt ∧ (Mo_pointer s).toInt ≤ 100 := h.2.2.2.2.2.1
theorem I_Mo_subset {s : S_Mo} (h : I_Mo s) : 0 ≤ (Mo_subset s).toInt ∧ (Mo_subset s).toInt ≤ 7 := h.2.2.2.2.2.2.1
theorem I_Mo_many {s : S_Mo} (h : I_Mo s) : 0 ≤ (Mo_many s).toInt ∧ (Mo_many s).toInt ≤ 65535 := h.2.2.2.2.2.2.2.1
theorem I_Mo_at {s : S_Mo} (h : I_Mo s) : 0 ≤ (Mo_at s).toInt ∧ (Mo_at s).toInt ≤ 40000 := h.2.2.2.2.2.2.2.2.1
theorem I_Mo_madeMany {s : S_Mo} (h : I_Mo s) : 0 ≤ (Mo_madeMany s).toInt ∧ (Mo_madeMany s).toInt ≤ 40000 := h.2.2.2.2.2.2.2.2.2.1
theorem I_Mo_taped {s : S_Mo} (h : I_Mo s) : 0 ≤ (Mo_taped s).toInt ∧ (Mo_taped s).toInt ≤ 1000 := h.2.2.2.2.2.2.2.2.2.2.1
theorem I_Mo_firstFields {s : S_Mo} (h : I_Mo s) : 0 ≤ (Mo_firstFields s).toInt ∧ (Mo_firstFields s).toInt ≤ 100 := h.2.2.2.2.2.2.2.2.2.2.2.1
theorem I_Mo_codes {s : S_Mo} (h : I_Mo s) : -1 ≤ (Mo_codes s).toInt ∧ (Mo_codes s).toInt ≤ 64 := h.2.2.2.2.2.2.2.2.2.2.2.2.1
theorem I_Mo_groups {s : S_Mo} (h : I_Mo s) : 0 ≤ (Mo_groups s).toInt ∧ (Mo_groups s).toInt ≤ 64 := h.2.2.2.2.2.2.2.2.2.2.2.2.2
theorem I_Mo_set_thrown {s : S_Mo} {v : Int32} (h : I_Mo s) : I_Mo (Mo_set_thrown s v) := h
theorem I_Mo_set_used {s : S_Mo} {v : Int32} (h : I_Mo s) (h0 : 0 ≤ v.toInt ∧ v.toInt ≤ 3) : I_Mo (Mo_set_used s v) := ⟨h0, h.2.1, h.2.2.1, h.2.2.2.1, h.2.2.2.2.1, h.2.2.2.2.2.1, h.2.2.2.2.2.2.1, h.2.2.2.2.2.2.2.1, h.2.2.2.2.2.2.2.2.1, h.2.2.2.2.2.2.2.2.2.1, h.2.2.2.2.2.2.2.2.2.2.1, h.2.2.2.2.2.2.2.2.2.2.2.1, h.2.2.2.2.2.2.2.2.2.2.2.2.1, h.2.2.2.2.2.2.2.2.2.2.2.2.2⟩
theorem I_Mo_set_fault {s : S_Mo} {v : Int32} (h : I_Mo s) : I_Mo (Mo_set_fault s v) := h
theorem I_Mo_set_place {s : S_Mo} {v : Int32} (h : I_Mo s) : I_Mo (Mo_set_place s v) := h
theorem I_Mo_set_open {s : S_Mo} {v : Int32} (h : I_Mo s) (h0 : 0 ≤ v.toInt ∧ v.toInt ≤ 90) : I_Mo (Mo_set_open s v) := ⟨h.1, h0, h.2.2.1, h.2.2.2.1, h.2.2.2.2.1, h.2.2.2.2.2.1, h.2.2.2.2.2.2.1, h.2.2.2.2.2.2.2.1, h.2.2.2.2.2.2.2.2.1, h.2.2.2.2.2.2.2.2.2.1, h.2.2.2.2.2.2.2.2.2.2.1, h.2.2.2.2.2.2.2.2.2.2.2.1, h.2.2.2.2.2.2.2.2.2.2.2.2.1, h.2.2.2.2.2.2.2.2.2.2.2.2.2⟩
theorem I_Mo_set_looked {s : S_Mo} {v : Int32} (h : I_Mo s) : I_Mo (Mo_set_looked s v) := h
theorem I_Mo_set_fields {s : S_Mo} {v : Int32} (h : I_Mo s) (h0 : 0 ≤ v.toInt ∧ v.toInt ≤ 100) : I_Mo (Mo_set_fields s v) := ⟨h.1, h.2.1, h0, h.2.2.2.1, h.2.2.2.2.1, h.2.2.2.2.2.1, h.2.2.2.2.2.2.1, h.2.2.2.2.2.2.2.1, h.2.2.2.2.2.2.2.2.1, h.2.2.2.2.2.2.2.2.2.1, h.2.2.2.2.2.2.2.2.2.2.1, h.2.2.2.2.2.2.2.2.2.2.2.1, h.2.2.2.2.2.2.2.2.2.2.2.2.1, h.2.2.2.2.2.2.2.2.2.2.2.2.2⟩
theorem I_Mo_set_elements {s : S_Mo} {v : Int32} (h : I_Mo s) (h0 : 0 ≤ v.toInt ∧ v.toInt ≤ 100) : I_Mo (Mo_set_elements s v) := ⟨h.1, h.2.1, h.2.2.1, h0, h.2.2.2.2.1, h.2.2.2.2.2.1, h.2.2.2.2.2.2.1, h.2.2.2.2.2.2.2.1, h.2.2.2.2.2.2.2.2.1, h.2.2.2.2.2.2.2.2.2.1, h.2.2.2.2.2.2.2.2.2.2.1, h.2.2.2.2.2.2.2.2.2.2.2.1, h.2.2.2.2.2.2.2.2.2.2.2.2.1, h.2.2.2.2.2.2.2.2.2.2.2.2.2⟩
theorem I_Mo_set_pointed {s : S_Mo} {v : Int32} (h : I_Mo s) (h0 : 0 ≤ v.toInt ∧ v.toInt ≤ 100) : I_Mo (Mo_set_pointed s v) := ⟨h.1, h.2.1, h.2.2.1, h.2.2.2.1, h0, h.2.2.2.2.2.1, h.2.2.2.2.2.2.1, h.2.2.2.2.2.2.2.1, h.2.2.2.2.2.2.2.2.1, h.2.2.2.2.2.2.2.2.2.1, h.2.2.2.2.2.2.2.2.2.2.1, h.2.2.2.2.2.2.2.2.2.2.2.1, h.2.2.2.2.2.2.2.2.2.2.2.2.1, h.2.2.2.2.2.2.2.2.2.2.2.2.2⟩
theorem I_Mo_set_pointer {s : S_Mo} {v : Int32} (h : I_Mo s) (h0 : 0 ≤ v.toInt ∧ v.toInt ≤ 100) : I_Mo (Mo_set_pointer s v) := ⟨h.1, h.2.1, h.2.2.1, h.2.2.2.1, h.2.2.2.2.1, h0, h.2.2.2.2.2.2.1, h.2.2.2.2.2.2.2.1, h.2.2.2.2.2.2.2.2.1, h.2.2.2.2.2.2.2.2.2.1, h.2.2.2.2.2.2.2.2.2.2.1, h.2.2.2.2.2.2.2.2.2.2.2.1, h.2.2.2.2.2.2.2.2.2.2.2.2.1, h.2.2.2.2.2.2.2.2.2.2.2.2.2⟩
theorem I_Mo_set_mode {s : S_Mo} {v : Int32} (h : I_Mo s) : I_Mo (Mo_set_mode s v) := h
theorem I_Mo_set_subset {s : S_Mo} {v : Int32} (h : I_Mo s) (h0 : 0 ≤ v.toInt ∧ v.toInt ≤ 7) : I_Mo (Mo_set_subset s v) := ⟨h.1, h.2.1, h.2.2.1, h.2.2.2.1, h.2.2.2.2.1, h.2.2.2.2.2.1, h0, h.2.2.2.2.2.2.2.1, h.2.2.2.2.2.2.2.2.1, h.2.2.2.2.2.2.2.2.2.1, h.2.2.2.2.2.2.2.2.2.2.1, h.2.2.2.2.2.2.2.2.2.2.2.1, h.2.2.2.2.2.2.2.2.2.2.2.2.1, h.2.2.2.2.2.2.2.2.2.2.2.2.2⟩
theorem I_Mo_set_subsets {s : S_Mo} {v : Int32} (h : I_Mo s) : I_Mo (Mo_set_subsets s v) := h
theorem I_Mo_set_many {s : S_Mo} {v : Int32} (h : I_Mo s) (h0 : 0 ≤ v.toInt ∧ v.toInt ≤ 65535) : I_Mo (Mo_set_many s v) := ⟨h.1, h.2.1, h.2.2.1, h.2.2.2.1, h.2.2.2.2.1, h.2.2.2.2.2.1, h.2.2.2.2.2.2.1, h0, h.2.2.2.2.2.2.2.2.1, h.2.2.2.2.2.2.2.2.2.1, h.2.2.2.2.2.2.2.2.2.2.1, h.2.2.2.2.2.2.2.2.2.2.2.1, h.2.2.2.2.2.2.2.2.2.2.2.2.1, h.2.2.2.2.2.2.2.2.2.2.2.2.2⟩
theorem I_Mo_set_at {s : S_Mo} {v : Int32} (h : I_Mo s) (h0 : 0 ≤ v.toInt ∧ v.toInt ≤ 40000) : I_Mo (Mo_set_at s v) := ⟨h.1, h.2.1, h.2.2.1, h.2.2.2.1, h.2.2.2.2.1, h.2.2.2.2.2.1, h.2.2.2.2.2.2.1, h.2.2.2.2.2.2.2.1, h0, h.2.2.2.2.2.2.2.2.2.1, h.2.2.2.2.2.2.2.2.2.2.1, h.2.2.2.2.2.2.2.2.2.2.2.1, h.2.2.2.2.2.2.2.2.2.2.2.2.1, h.2.2.2.2.2.2.2.2.2.2.2.2.2⟩
theorem I_Mo_set_madeMany {s : S_Mo} {v : Int32} (h : I_Mo s) (h0 : 0 ≤ v.toInt ∧ v.toInt ≤ 40000) : I_Mo (Mo_set_madeMany s v) := ⟨h.1, h.2.1, h.2.2.1, h.2.2.2.1, h.2.2.2.2.1, h.2.2.2.2.2.1, h.2.2.2.2.2.2.1, h.2.2.2.2.2.2.2.1, h.2.2.2.2.2.2.2.2.1, h0, h.2.2.2.2.2.2.2.2.2.2.1, h.2.2.2.2.2.2.2.2.2.2.2.1, h.2.2.2.2.2.2.2.2.2.2.2.2.1, h.2.2.2.2.2.2.2.2.2.2.2.2.2⟩
theorem I_Mo_set_madeKind {s : S_Mo} {v : Int32} (h : I_Mo s) : I_Mo (Mo_set_madeKind s v) := h
theorem I_Mo_set_madeSubsets {s : S_Mo} {v : Int32} (h : I_Mo s) : I_Mo (Mo_set_madeSubsets s v) := h
theorem I_Mo_set_written {s : S_Mo} {v : Int32} (h : I_Mo s) : I_Mo (Mo_set_written s v) := h
theorem I_Mo_set_taped {s : S_Mo} {v : Int32} (h : I_Mo s) (h0 : 0 ≤ v.toInt ∧ v.toInt ≤ 1000) : I_Mo (Mo_set_taped s v) := ⟨h.1, h.2.1, h.2.2.1, h.2.2.2.1, h.2.2.2.2.1, h.2.2.2.2.2.1, h.2.2.2.2.2.2.1, h.2.2.2.2.2.2.2.1, h.2.2.2.2.2.2.2.2.1, h.2.2.2.2.2.2.2.2.2.1, h0, h.2.2.2.2.2.2.2.2.2.2.2.1, h.2.2.2.2.2.2.2.2.2.2.2.2.1, h.2.2.2.2.2.2.2.2.2.2.2.2.2⟩
theorem I_Mo_set_firstFields {s : S_Mo} {v : Int32} (h : I_Mo s) (h0 : 0 ≤ v.toInt ∧ v.toInt ≤ 100) : I_Mo (Mo_set_firstFields s v) := ⟨h.1, h.2.1, h.2.2.1, h.2.2.2.1, h.2.2.2.2.1, h.2.2.2.2.2.1, h.2.2.2.2.2.2.1, h.2.2.2.2.2.2.2.1, h.2.2.2.2.2.2.2.2.1, h.2.2.2.2.2.2.2.2.2.1, h.2.2.2.2.2.2.2.2.2.2.1, h0, h.2.2.2.2.2.2.2.2.2.2.2.2.1, h.2.2.2.2.2.2.2.2.2.2.2.2.2⟩
theorem I_Mo_set_codes {s : S_Mo} {v : Int32} (h : I_Mo s) (h0 : -1 ≤ v.toInt ∧ v.toInt ≤ 64) : I_Mo (Mo_set_codes s v) := ⟨h.1, h.2.1, h.2.2.1, h.2.2.2.1, h.2.2.2.2.1, h.2.2.2.2.2.1, h.2.2.2.2.2.2.1, h.2.2.2.2.2.2.2.1, h.2.2.2.2.2.2.2.2.1, h.2.2.2.2.2.2.2.2.2.1, h.2.2.2.2.2.2.2.2.2.2.1, h.2.2.2.2.2.2.2.2.2.2.2.1, h0, h.2.2.2.2.2.2.2.2.2.2.2.2.2⟩
theorem I_Mo_set_groups {s : S_Mo} {v : Int32} (h : I_Mo s) (h0 : 0 ≤ v.toInt ∧ v.toInt ≤ 64) : I_Mo (Mo_set_groups s v) := ⟨h.1, h.2.1, h.2.2.1, h.2.2.2.1, h.2.2.2.2.1, h.2.2.2.2.2.1, h.2.2.2.2.2.2.1, h.2.2.2.2.2.2.2.1, h.2.2.2.2.2.2.2.2.1, h.2.2.2.2.2.2.2.2.2.1, h.2.2.2.2.2.2.2.2.2.2.1, h.2.2.2.2.2.2.2.2.2.2.2.1, h.2.2.2.2.2.2.2.2.2.2.2.2.1, h0⟩
def A_Mthere (f : Nat → Int32) : Prop := ∀ j : Nat, 0 ≤ (f j).toInt ∧ (f j).toInt ≤ 1
theorem A_Mthere_at {f : Nat → Int32} (h : A_Mthere f) (j : Nat) : 0 ≤ (f j).toInt ∧ (f j).toInt ≤ 1 := h j
theorem A_Mthere_upd {f : Nat → Int32} {k : Nat} {x : Int32} (h : A_Mthere f) (h0 : 0 ≤ x.toInt ∧ x.toInt ≤ 1) : A_Mthere (upd f k x) := i_arp (P := fun j x => 0 ≤ x.toInt ∧ x.toInt ≤ 1) h h0
def A_Mwidths (f : Nat → Int32) : Prop := ∀ j : Nat, 0 ≤ (f j).toInt ∧ (f j).toInt ≤ 32
theorem A_Mwidths_at {f : Nat → Int32} (h : A_Mwidths f) (j : Nat) : 0 ≤ (f j).toInt ∧ (f j).toInt ≤ 32 := h j
theorem A_Mwidths_upd {f : Nat → Int32} {k : Nat} {x : Int32} (h : A_Mwidths f) (h0 : 0 ≤ x.toInt ∧ x.toInt ≤ 32) : A_Mwidths (upd f k x) := i_arp (P := fun j x => 0 ≤ x.toInt ∧ x.toInt ≤ 32) h h0
def A_Mscales (f : Nat → Int32) : Prop := ∀ j : Nat, -8 ≤ (f j).toInt ∧ (f j).toInt ≤ 8
theorem A_Mscales_at {f : Nat → Int32} (h : A_Mscales f) (j : Nat) : -8 ≤ (f j).toInt ∧ (f j).toInt ≤ 8 := h j
theorem A_Mscales_upd {f : Nat → Int32} {k : Nat} {x : Int32} (h : A_Mscales f) (h0 : -8 ≤ x.toInt ∧ x.toInt ≤ 8) : A_Mscales (upd f k x) := i_arp (P := fun j x => -8 ≤ x.toInt ∧ x.toInt ≤ 8) h h0
def A_Mlists (f : Nat → Int32) : Prop := ∀ j : Nat, (0 ≤ (f j).toInt ∧ (f j).toInt ≤ 63) ∨ (100 ≤ (f j).toInt ∧ (f j).toInt ≤ 115) ∨ (216 ≤ (f j).toInt ∧ (f j).toInt ≤ 343) ∨ (400 ≤ (f j).toInt ∧ (f j).toInt ≤ 487) ∨ (501 ≤ (f j).toInt ∧ (f j).toInt ≤ 516) ∨ (f j).toInt = 520
theorem A_Mlists_at {f : Nat → Int32} (h : A_Mlists f) (j : Nat) : (0 ≤ (f j).toInt ∧ (f j).toInt ≤ 63) ∨ (100 ≤ (f j).toInt ∧ (f j).toInt ≤ 115) ∨ (216 ≤ (f j).toInt ∧ (f j).toInt ≤ 343) ∨ (400 ≤ (f j).toInt ∧ (f j).toInt ≤ 487) ∨ (501 ≤ (f j).toInt ∧ (f j).toInt ≤ 516) ∨ (f j).toInt = 520 := h j
theorem A_Mlists_upd {f : Nat → Int32} {k : Nat} {x : Int32} (h : A_Mlists f) (h0 : (0 ≤ x.toInt ∧ x.toInt ≤ 63) ∨ (100 ≤ x.toInt ∧ x.toInt ≤ 115) ∨ (216 ≤ x.toInt ∧ x.toInt ≤ 343) ∨ (400 ≤ x.toInt ∧ x.toInt ≤ 487) ∨ (501 ≤ x.toInt ∧ x.toInt ≤ 516) ∨ x.toInt = 520) : A_Mlists (upd f k x) := i_arp (P := fun j x => (0 ≤ x.toInt ∧ x.toInt ≤ 63) ∨ (100 ≤ x.toInt ∧ x.toInt ≤ 115) ∨ (216 ≤ x.toInt ∧ x.toInt ≤ 343) ∨ (400 ≤ x.toInt ∧ x.toInt ≤ 487) ∨ (501 ≤ x.toInt ∧ x.toInt ≤ 516) ∨ x.toInt = 520) h h0
def A_Mlengths (f : Nat → Int32) : Prop := ∀ j : Nat, 0 ≤ (f j).toInt ∧ (f j).toInt ≤ 24 ∧ (j < 16 → (f j).toInt ≤ 8)
theorem A_Mlengths_at {f : Nat → Int32} (h : A_Mlengths f) (j : Nat) : 0 ≤ (f j).toInt ∧ (f j).toInt ≤ 24 ∧ (j < 16 → (f j).toInt ≤ 8) := h j
theorem A_Mlengths_upd {f : Nat → Int32} {k : Nat} {x : Int32} (h : A_Mlengths f) (h0 : 0 ≤ x.toInt ∧ x.toInt ≤ 24 ∧ (k < 16 → x.toInt ≤ 8)) : A_Mlengths (upd f k x) := i_arp (P := fun j x => 0 ≤ x.toInt ∧ x.toInt ≤ 24 ∧ (j < 16 → x.toInt ≤ 8)) h h0
def A_Mtape (f : Nat → Int32) : Prop := ∀ j : Nat, 0 ≤ (f j).toInt ∧ (f j).toInt ≤ 255
theorem A_Mtape_at {f : Nat → Int32} (h : A_Mtape f) (j : Nat) : 0 ≤ (f j).toInt ∧ (f j).toInt ≤ 255 := h j
theorem A_Mtape_upd {f : Nat → Int32} {k : Nat} {x : Int32} (h : A_Mtape f) (h0 : 0 ≤ x.toInt ∧ x.toInt ≤ 255) : A_Mtape (upd f k x) := i_arp (P := fun j x => 0 ≤ x.toInt ∧ x.toInt ≤ 255) h h0
def A_Mops (f : Nat → Int32) : Prop := ∀ j : Nat, -100 ≤ (f j).toInt ∧ (f j).toInt ≤ 31 ∧ ((f j).toInt = -100 ∨ -16 ≤ (f j).toInt) ∧ (j < 2 ∨ (f j).toInt = -100 ∨ 0 ≤ (f j).toInt)
theorem A_Mops_at {f : Nat → Int32} (h : A_Mops f) (j : Nat) : -100 ≤ (f j).toInt ∧ (f j).toInt ≤ 31 ∧ ((f j).toInt = -100 ∨ -16 ≤ (f j).toInt) ∧ (j < 2 ∨ (f j).toInt = -100 ∨ 0 ≤ (f j).toInt) := h j
theorem A_Mops_upd {f : Nat → Int32} {k : Nat} {x : Int32} (h : A_Mops f) (h0 : -100 ≤ x.toInt ∧ x.toInt ≤ 31 ∧ (x.toInt = -100 ∨ -16 ≤ x.toInt) ∧ (k < 2 ∨ x.toInt = -100 ∨ 0 ≤ x.toInt)) : A_Mops (upd f k x) := i_arp (P := fun j x => -100 ≤ x.toInt ∧ x.toInt ≤ 31 ∧ (x.toInt = -100 ∨ -16 ≤ x.toInt) ∧ (j < 2 ∨ x.toInt = -100 ∨ 0 ≤ x.toInt)) h h0
def A_MfoundOps (f : Nat → Int32) : Prop := ∀ j : Nat, -100 ≤ (f j).toInt ∧ (f j).toInt ≤ 31
theorem A_MfoundOps_at {f : Nat → Int32} (h : A_MfoundOps f) (j : Nat) : -100 ≤ (f j).toInt ∧ (f j).toInt ≤ 31 := h j
theorem A_MfoundOps_upd {f : Nat → Int32} {k : Nat} {x : Int32} (h : A_MfoundOps f) (h0 : -100 ≤ x.toInt ∧ x.toInt ≤ 31) : A_MfoundOps (upd f k x) := i_arp (P := fun j x => -100 ≤ x.toInt ∧ x.toInt ≤ 31) h h0
def A_MelementAt (f : Nat → Int32) : Prop := ∀ j : Nat, 0 ≤ (f j).toInt ∧ (f j).toInt ≤ 99
theorem A_MelementAt_at {f : Nat → Int32} (h : A_MelementAt f) (j : Nat) : 0 ≤ (f j).toInt ∧ (f j).toInt ≤ 99 := h j
theorem A_MelementAt_upd {f : Nat → Int32} {k : Nat} {x : Int32} (h : A_MelementAt f) (h0 : 0 ≤ x.toInt ∧ x.toInt ≤ 99) : A_MelementAt (upd f k x) := i_arp (P := fun j x => 0 ≤ x.toInt ∧ x.toInt ≤ 99) h h0
def A_MpointAt (f : Nat → Int32) : Prop := ∀ j : Nat, 0 ≤ (f j).toInt ∧ (f j).toInt ≤ 99
theorem A_MpointAt_at {f : Nat → Int32} (h : A_MpointAt f) (j : Nat) : 0 ≤ (f j).toInt ∧ (f j).toInt ≤ 99 := h j
theorem A_MpointAt_upd {f : Nat → Int32} {k : Nat} {x : Int32} (h : A_MpointAt f) (h0 : 0 ≤ x.toInt ∧ x.toInt ≤ 99) : A_MpointAt (upd f k x) := i_arp (P := fun j x => 0 ≤ x.toInt ∧ x.toInt ≤ 99) h h0
theorem t_Mod_thrown {sMo : S_Mo} (I_sMo : I_Mo sMo) : So (Mod_thrown sMo) (fun r => (r.toInt = (Mo_thrown sMo).toInt)) := by
  unfold Mod_thrown
  exact So.one (by show ((Mo_thrown sMo) : Int32).toInt = (Mo_thrown sMo).toInt; omega)
theorem t_Mod_entry {a0 : Int32} {a1 : Int32} (g_0 : -1 ≤ a0.toInt) (g_1 : a0.toInt < 4) (g_2 : 0 ≤ a1.toInt) (g_3 : a1.toInt < 64) : So (Mod_entry a0 a1) (fun r => ((a0.toInt = -1 ∧ r.toInt = 256 + a1.toInt) ∨ (0 ≤ a0.toInt ∧ r.toInt = 64 * a0.toInt + a1.toInt))) := by
  unfold Mod_entry
  refine So.ite (fun c_1 => ?_) (fun c_1 => ?_)
  · rw [i_le] at c_1
    have k_2 : (0 : Int32).toInt = 0 := by decide
    have k_3 : (64 : Int32).toInt = 64 := by decide
    first | have f_4 := i_mull 64 a0 (64) (by decide) (by omega) (by omega) | have f_4 := i_mullm 64 a0 (64) (by decide)
    first | have f_5 := i_add (a := (64 * a0)) (b := a1) (by omega) (by omega) | have f_5 := i_addm (64 * a0) a1
    exact So.one (by show (a0.toInt = -1 ∧ (((64 * a0) + a1) : Int32).toInt = 256 + a1.toInt) ∨ (0 ≤ a0.toInt ∧ (((64 * a0) + a1) : Int32).toInt = 64 * a0.toInt + a1.toInt); omega)
  · rw [i_le] at c_1
    have k_6 : (0 : Int32).toInt = 0 := by decide
    have k_7 : ((64 * 4) : Int32).toInt = 256 := by decide
    first | have f_8 := i_add (a := ((64 * 4) : Int32)) (b := a1) (by omega) (by omega) | have f_8 := i_addm ((64 * 4) : Int32) a1
    exact So.one (by show (a0.toInt = -1 ∧ (((64 * 4) + a1) : Int32).toInt = 256 + a1.toInt) ∨ (0 ≤ a0.toInt ∧ (((64 * 4) + a1) : Int32).toInt = 64 * a0.toInt + a1.toInt); omega)
theorem t_Mod_isEntry {a0 : Int32} {a1 : Int32}  : So (Mod_isEntry a0 a1) (fun r => ((r.toInt = 1 ∧ (-1 ≤ a0.toInt ∧ a0.toInt < 4 ∧ 0 ≤ a1.toInt ∧ a1.toInt < 64)) ∨ (r.toInt = 0 ∧ ¬ (-1 ≤ a0.toInt ∧ a0.toInt < 4 ∧ 0 ≤ a1.toInt ∧ a1.toInt < 64)))) := by
  unfold Mod_isEntry
  refine So.ite (fun c_1 => ?_) (fun c_1 => ?_)
  · rw [i_lt] at c_1
    have k_2 : ((-1) : Int32).toInt = -1 := by decide
    have k_3 : (0 : Int32).toInt = 0 := by decide
    exact So.one (by show ((0 : Int32).toInt = 1 ∧ (-1 ≤ a0.toInt ∧ a0.toInt < 4 ∧ 0 ≤ a1.toInt ∧ a1.toInt < 64)) ∨ ((0 : Int32).toInt = 0 ∧ ¬ (-1 ≤ a0.toInt ∧ a0.toInt < 4 ∧ 0 ≤ a1.toInt ∧ a1.toInt < 64)); omega)
  · rw [i_lt] at c_1
    have k_4 : ((-1) : Int32).toInt = -1 := by decide
    refine So.ite (fun c_5 => ?_) (fun c_5 => ?_)
    · rw [i_lt] at c_5
      have k_6 : (3 : Int32).toInt = 3 := by decide
      have k_7 : (0 : Int32).toInt = 0 := by decide
      exact So.one (by show ((0 : Int32).toInt = 1 ∧ (-1 ≤ a0.toInt ∧ a0.toInt < 4 ∧ 0 ≤ a1.toInt ∧ a1.toInt < 64)) ∨ ((0 : Int32).toInt = 0 ∧ ¬ (-1 ≤ a0.toInt ∧ a0.toInt < 4 ∧ 0 ≤ a1.toInt ∧ a1.toInt < 64)); omega)
    · rw [i_lt] at c_5
      have k_8 : (3 : Int32).toInt = 3 := by decide
      refine So.ite (fun c_9 => ?_) (fun c_9 => ?_)
      · rw [i_lt] at c_9
        have k_10 : (0 : Int32).toInt = 0 := by decide
        exact So.one (by show ((0 : Int32).toInt = 1 ∧ (-1 ≤ a0.toInt ∧ a0.toInt < 4 ∧ 0 ≤ a1.toInt ∧ a1.toInt < 64)) ∨ ((0 : Int32).toInt = 0 ∧ ¬ (-1 ≤ a0.toInt ∧ a0.toInt < 4 ∧ 0 ≤ a1.toInt ∧ a1.toInt < 64)); omega)
      · rw [i_lt] at c_9
        have k_11 : (0 : Int32).toInt = 0 := by decide
        refine So.ite (fun c_12 => ?_) (fun c_12 => ?_)
        · rw [i_lt] at c_12
          have k_13 : (63 : Int32).toInt = 63 := by decide
          exact So.one (by show ((0 : Int32).toInt = 1 ∧ (-1 ≤ a0.toInt ∧ a0.toInt < 4 ∧ 0 ≤ a1.toInt ∧ a1.toInt < 64)) ∨ ((0 : Int32).toInt = 0 ∧ ¬ (-1 ≤ a0.toInt ∧ a0.toInt < 4 ∧ 0 ≤ a1.toInt ∧ a1.toInt < 64)); omega)
        · rw [i_lt] at c_12
          have k_14 : (63 : Int32).toInt = 63 := by decide
          have k_15 : (1 : Int32).toInt = 1 := by decide
          exact So.one (by show ((1 : Int32).toInt = 1 ∧ (-1 ≤ a0.toInt ∧ a0.toInt < 4 ∧ 0 ≤ a1.toInt ∧ a1.toInt < 64)) ∨ ((1 : Int32).toInt = 0 ∧ ¬ (-1 ≤ a0.toInt ∧ a0.toInt < 4 ∧ 0 ≤ a1.toInt ∧ a1.toInt < 64)); omega)
theorem t_Mod_element {a0 : Int32} {a1 : Int32} {a2 : Int32} {a3 : Int32} {a4 : Int32} {sMo : S_Mo} {sMthere : (Nat → Int32)} {sMscales : (Nat → Int32)} {sMreferences : (Nat → Int32)} {sMwidths : (Nat → Int32)} (I_sMo : I_Mo sMo) (I_sMthere : A_Mthere sMthere) (I_sMscales : A_Mscales sMscales) (I_sMwidths : A_Mwidths sMwidths) : So (Mod_element a0 a1 a2 a3 a4 sMo sMthere sMscales sMreferences sMwidths) (fun r => I_Mo r.1 ∧ A_Mthere r.2.1 ∧ A_Mscales r.2.2.1 ∧ A_Mwidths r.2.2.2.2 ∧ (((Mo_thrown r.1).toInt = 0 ∧ (-1 ≤ a0.toInt ∧ a0.toInt < 4 ∧ 0 ≤ a1.toInt ∧ a1.toInt < 64 ∧ -8 ≤ a2.toInt ∧ a2.toInt ≤ 8 ∧ -1000000000 ≤ a3.toInt ∧ a3.toInt ≤ 1000000000 ∧ 1 ≤ a4.toInt ∧ a4.toInt ≤ 32)) ∨ ((Mo_thrown r.1).toInt = 1 ∧ ¬ (-1 ≤ a0.toInt ∧ a0.toInt < 4 ∧ 0 ≤ a1.toInt ∧ a1.toInt < 64 ∧ -8 ≤ a2.toInt ∧ a2.toInt ≤ 8 ∧ -1000000000 ≤ a3.toInt ∧ a3.toInt ≤ 1000000000 ∧ 1 ≤ a4.toInt ∧ a4.toInt ≤ 32)))) := by
  unfold Mod_element
  refine So.bd (t_Mod_isEntry ) fun q1 h_1 => ?_
  have p_2 := h_1
  refine So.ite (fun c_3 => ?_) (fun c_3 => ?_)
  · rw [i_eq] at c_3
    have k_4 : (0 : Int32).toInt = 0 := by decide
    unfold Mod_element_j51
    unfold Mod_element_j52
    refine So.pos (by decide) ?_
    unfold Mod_element_j65
    refine So.lt2 fun sMo_10 e_6 => ?_
    have I_7 : I_Mo sMo_10 := by rw [e_6]; exact (I_Mo_set_thrown I_sMo)
    have k_8 : (1 : Int32).toInt = 1 := by decide
    have f_9 : (Mo_thrown sMo_10).toInt = (1 : Int32).toInt := by subst e_6; rfl
    refine So.pos (by decide) ?_
    exact So.one ⟨I_7, I_sMthere, I_sMscales, I_sMwidths, (by show ((Mo_thrown sMo_10).toInt = 0 ∧ (-1 ≤ a0.toInt ∧ a0.toInt < 4 ∧ 0 ≤ a1.toInt ∧ a1.toInt < 64 ∧ -8 ≤ a2.toInt ∧ a2.toInt ≤ 8 ∧ -1000000000 ≤ a3.toInt ∧ a3.toInt ≤ 1000000000 ∧ 1 ≤ a4.toInt ∧ a4.toInt ≤ 32)) ∨ ((Mo_thrown sMo_10).toInt = 1 ∧ ¬ (-1 ≤ a0.toInt ∧ a0.toInt < 4 ∧ 0 ≤ a1.toInt ∧ a1.toInt < 64 ∧ -8 ≤ a2.toInt ∧ a2.toInt ≤ 8 ∧ -1000000000 ≤ a3.toInt ∧ a3.toInt ≤ 1000000000 ∧ 1 ≤ a4.toInt ∧ a4.toInt ≤ 32)); omega)⟩
  · rw [i_eq] at c_3
    have k_11 : (0 : Int32).toInt = 0 := by decide
    refine So.ite (fun c_12 => ?_) (fun c_12 => ?_)
    · rw [i_lt] at c_12
      have k_13 : ((-8) : Int32).toInt = -8 := by decide
      unfold Mod_element_j51
      unfold Mod_element_j52
      refine So.pos (by decide) ?_
      unfold Mod_element_j65
      refine So.lt2 fun sMo_10 e_15 => ?_
      have I_16 : I_Mo sMo_10 := by rw [e_15]; exact (I_Mo_set_thrown I_sMo)
      have k_17 : (1 : Int32).toInt = 1 := by decide
      have f_18 : (Mo_thrown sMo_10).toInt = (1 : Int32).toInt := by subst e_15; rfl
      refine So.pos (by decide) ?_
      exact So.one ⟨I_16, I_sMthere, I_sMscales, I_sMwidths, (by show ((Mo_thrown sMo_10).toInt = 0 ∧ (-1 ≤ a0.toInt ∧ a0.toInt < 4 ∧ 0 ≤ a1.toInt ∧ a1.toInt < 64 ∧ -8 ≤ a2.toInt ∧ a2.toInt ≤ 8 ∧ -1000000000 ≤ a3.toInt ∧ a3.toInt ≤ 1000000000 ∧ 1 ≤ a4.toInt ∧ a4.toInt ≤ 32)) ∨ ((Mo_thrown sMo_10).toInt = 1 ∧ ¬ (-1 ≤ a0.toInt ∧ a0.toInt < 4 ∧ 0 ≤ a1.toInt ∧ a1.toInt < 64 ∧ -8 ≤ a2.toInt ∧ a2.toInt ≤ 8 ∧ -1000000000 ≤ a3.toInt ∧ a3.toInt ≤ 1000000000 ∧ 1 ≤ a4.toInt ∧ a4.toInt ≤ 32)); omega)⟩
    · rw [i_lt] at c_12
      have k_20 : ((-8) : Int32).toInt = -8 := by decide
      refine So.ite (fun c_21 => ?_) (fun c_21 => ?_)
      · rw [i_lt] at c_21
        have k_22 : (8 : Int32).toInt = 8 := by decide
        unfold Mod_element_j51
        unfold Mod_element_j52
        refine So.pos (by decide) ?_
        unfold Mod_element_j65
        refine So.lt2 fun sMo_10 e_24 => ?_
        have I_25 : I_Mo sMo_10 := by rw [e_24]; exact (I_Mo_set_thrown I_sMo)
        have k_26 : (1 : Int32).toInt = 1 := by decide
        have f_27 : (Mo_thrown sMo_10).toInt = (1 : Int32).toInt := by subst e_24; rfl
        refine So.pos (by decide) ?_
        exact So.one ⟨I_25, I_sMthere, I_sMscales, I_sMwidths, (by show ((Mo_thrown sMo_10).toInt = 0 ∧ (-1 ≤ a0.toInt ∧ a0.toInt < 4 ∧ 0 ≤ a1.toInt ∧ a1.toInt < 64 ∧ -8 ≤ a2.toInt ∧ a2.toInt ≤ 8 ∧ -1000000000 ≤ a3.toInt ∧ a3.toInt ≤ 1000000000 ∧ 1 ≤ a4.toInt ∧ a4.toInt ≤ 32)) ∨ ((Mo_thrown sMo_10).toInt = 1 ∧ ¬ (-1 ≤ a0.toInt ∧ a0.toInt < 4 ∧ 0 ≤ a1.toInt ∧ a1.toInt < 64 ∧ -8 ≤ a2.toInt ∧ a2.toInt ≤ 8 ∧ -1000000000 ≤ a3.toInt ∧ a3.toInt ≤ 1000000000 ∧ 1 ≤ a4.toInt ∧ a4.toInt ≤ 32)); omega)⟩
      · rw [i_lt] at c_21
        have k_29 : (8 : Int32).toInt = 8 := by decide
        refine So.ite (fun c_30 => ?_) (fun c_30 => ?_)
        · rw [i_lt] at c_30
          have k_31 : ((-1000000000) : Int32).toInt = -1000000000 := by decide
          unfold Mod_element_j51
          unfold Mod_element_j52
          refine So.pos (by decide) ?_
          unfold Mod_element_j65
          refine So.lt2 fun sMo_10 e_33 => ?_
          have I_34 : I_Mo sMo_10 := by rw [e_33]; exact (I_Mo_set_thrown I_sMo)
          have k_35 : (1 : Int32).toInt = 1 := by decide
          have f_36 : (Mo_thrown sMo_10).toInt = (1 : Int32).toInt := by subst e_33; rfl
          refine So.pos (by decide) ?_
          exact So.one ⟨I_34, I_sMthere, I_sMscales, I_sMwidths, (by show ((Mo_thrown sMo_10).toInt = 0 ∧ (-1 ≤ a0.toInt ∧ a0.toInt < 4 ∧ 0 ≤ a1.toInt ∧ a1.toInt < 64 ∧ -8 ≤ a2.toInt ∧ a2.toInt ≤ 8 ∧ -1000000000 ≤ a3.toInt ∧ a3.toInt ≤ 1000000000 ∧ 1 ≤ a4.toInt ∧ a4.toInt ≤ 32)) ∨ ((Mo_thrown sMo_10).toInt = 1 ∧ ¬ (-1 ≤ a0.toInt ∧ a0.toInt < 4 ∧ 0 ≤ a1.toInt ∧ a1.toInt < 64 ∧ -8 ≤ a2.toInt ∧ a2.toInt ≤ 8 ∧ -1000000000 ≤ a3.toInt ∧ a3.toInt ≤ 1000000000 ∧ 1 ≤ a4.toInt ∧ a4.toInt ≤ 32)); omega)⟩
        · rw [i_lt] at c_30
          have k_38 : ((-1000000000) : Int32).toInt = -1000000000 := by decide
          refine So.ite (fun c_39 => ?_) (fun c_39 => ?_)
          · rw [i_lt] at c_39
            have k_40 : (1000000000 : Int32).toInt = 1000000000 := by decide
            unfold Mod_element_j51
            unfold Mod_element_j52
            refine So.pos (by decide) ?_
            unfold Mod_element_j65
            refine So.lt2 fun sMo_10 e_42 => ?_
            have I_43 : I_Mo sMo_10 := by rw [e_42]; exact (I_Mo_set_thrown I_sMo)
            have k_44 : (1 : Int32).toInt = 1 := by decide
            have f_45 : (Mo_thrown sMo_10).toInt = (1 : Int32).toInt := by subst e_42; rfl
            refine So.pos (by decide) ?_
            exact So.one ⟨I_43, I_sMthere, I_sMscales, I_sMwidths, (by show ((Mo_thrown sMo_10).toInt = 0 ∧ (-1 ≤ a0.toInt ∧ a0.toInt < 4 ∧ 0 ≤ a1.toInt ∧ a1.toInt < 64 ∧ -8 ≤ a2.toInt ∧ a2.toInt ≤ 8 ∧ -1000000000 ≤ a3.toInt ∧ a3.toInt ≤ 1000000000 ∧ 1 ≤ a4.toInt ∧ a4.toInt ≤ 32)) ∨ ((Mo_thrown sMo_10).toInt = 1 ∧ ¬ (-1 ≤ a0.toInt ∧ a0.toInt < 4 ∧ 0 ≤ a1.toInt ∧ a1.toInt < 64 ∧ -8 ≤ a2.toInt ∧ a2.toInt ≤ 8 ∧ -1000000000 ≤ a3.toInt ∧ a3.toInt ≤ 1000000000 ∧ 1 ≤ a4.toInt ∧ a4.toInt ≤ 32)); omega)⟩
          · rw [i_lt] at c_39
            have k_47 : (1000000000 : Int32).toInt = 1000000000 := by decide
            refine So.ite (fun c_48 => ?_) (fun c_48 => ?_)
            · rw [i_lt] at c_48
              have k_49 : (1 : Int32).toInt = 1 := by decide
              unfold Mod_element_j51
              unfold Mod_element_j52
              refine So.pos (by decide) ?_
              unfold Mod_element_j65
              refine So.lt2 fun sMo_10 e_51 => ?_
              have I_52 : I_Mo sMo_10 := by rw [e_51]; exact (I_Mo_set_thrown I_sMo)
              have f_53 : (Mo_thrown sMo_10).toInt = (1 : Int32).toInt := by subst e_51; rfl
              refine So.pos (by decide) ?_
              exact So.one ⟨I_52, I_sMthere, I_sMscales, I_sMwidths, (by show ((Mo_thrown sMo_10).toInt = 0 ∧ (-1 ≤ a0.toInt ∧ a0.toInt < 4 ∧ 0 ≤ a1.toInt ∧ a1.toInt < 64 ∧ -8 ≤ a2.toInt ∧ a2.toInt ≤ 8 ∧ -1000000000 ≤ a3.toInt ∧ a3.toInt ≤ 1000000000 ∧ 1 ≤ a4.toInt ∧ a4.toInt ≤ 32)) ∨ ((Mo_thrown sMo_10).toInt = 1 ∧ ¬ (-1 ≤ a0.toInt ∧ a0.toInt < 4 ∧ 0 ≤ a1.toInt ∧ a1.toInt < 64 ∧ -8 ≤ a2.toInt ∧ a2.toInt ≤ 8 ∧ -1000000000 ≤ a3.toInt ∧ a3.toInt ≤ 1000000000 ∧ 1 ≤ a4.toInt ∧ a4.toInt ≤ 32)); omega)⟩
            · rw [i_lt] at c_48
              have k_55 : (1 : Int32).toInt = 1 := by decide
              refine So.ite (fun c_56 => ?_) (fun c_56 => ?_)
              · rw [i_lt] at c_56
                have k_57 : (32 : Int32).toInt = 32 := by decide
                unfold Mod_element_j51
                unfold Mod_element_j52
                refine So.pos (by decide) ?_
                unfold Mod_element_j65
                refine So.lt2 fun sMo_10 e_59 => ?_
                have I_60 : I_Mo sMo_10 := by rw [e_59]; exact (I_Mo_set_thrown I_sMo)
                have f_61 : (Mo_thrown sMo_10).toInt = (1 : Int32).toInt := by subst e_59; rfl
                refine So.pos (by decide) ?_
                exact So.one ⟨I_60, I_sMthere, I_sMscales, I_sMwidths, (by show ((Mo_thrown sMo_10).toInt = 0 ∧ (-1 ≤ a0.toInt ∧ a0.toInt < 4 ∧ 0 ≤ a1.toInt ∧ a1.toInt < 64 ∧ -8 ≤ a2.toInt ∧ a2.toInt ≤ 8 ∧ -1000000000 ≤ a3.toInt ∧ a3.toInt ≤ 1000000000 ∧ 1 ≤ a4.toInt ∧ a4.toInt ≤ 32)) ∨ ((Mo_thrown sMo_10).toInt = 1 ∧ ¬ (-1 ≤ a0.toInt ∧ a0.toInt < 4 ∧ 0 ≤ a1.toInt ∧ a1.toInt < 64 ∧ -8 ≤ a2.toInt ∧ a2.toInt ≤ 8 ∧ -1000000000 ≤ a3.toInt ∧ a3.toInt ≤ 1000000000 ∧ 1 ≤ a4.toInt ∧ a4.toInt ≤ 32)); omega)⟩
              · rw [i_lt] at c_56
                have k_63 : (32 : Int32).toInt = 32 := by decide
                unfold Mod_element_j52
                refine So.neg (by decide) ?_
                unfold Mod_element_j65
                refine So.lt2 fun sMo_10 e_65 => ?_
                have I_66 : I_Mo sMo_10 := by rw [e_65]; exact (I_Mo_set_thrown I_sMo)
                have f_67 : (Mo_thrown sMo_10).toInt = (0 : Int32).toInt := by subst e_65; rfl
                refine So.neg (by decide) ?_
                refine So.bd (t_Mod_entry (by show -1 ≤ a0.toInt; omega) (by show a0.toInt < 4; omega) (by show 0 ≤ a1.toInt; omega) (by show a1.toInt < 64; omega)) fun q11 h_69 => ?_
                have p_70 := h_69
                refine So.gd (i_in.mpr (by omega)) ?_
                refine So.lt2 fun sMthere_13 e_71 => ?_
                have f_72 := i_nar (1 : Int32)
                have I_73 : A_Mthere sMthere_13 := by rw [e_71]; exact (A_Mthere_upd I_sMthere (by show 0 ≤ ((vp_nar .boolean 1) : Int32).toInt ∧ ((vp_nar .boolean 1) : Int32).toInt ≤ 1; omega))
                refine So.gd (i_in.mpr (by omega)) ?_
                refine So.lt2 fun sMscales_15 e_74 => ?_
                have I_75 : A_Mscales sMscales_15 := by rw [e_74]; exact (A_Mscales_upd I_sMscales (by show -8 ≤ (a2 : Int32).toInt ∧ (a2 : Int32).toInt ≤ 8; omega))
                refine So.gd (i_in.mpr (by omega)) ?_
                refine So.lt2 fun sMreferences_17 e_76 => ?_
                refine So.gd (i_in.mpr (by omega)) ?_
                refine So.lt2 fun sMwidths_19 e_77 => ?_
                have I_78 : A_Mwidths sMwidths_19 := by rw [e_77]; exact (A_Mwidths_upd I_sMwidths (by show 0 ≤ (a4 : Int32).toInt ∧ (a4 : Int32).toInt ≤ 32; omega))
                exact So.one ⟨I_66, I_73, I_75, I_78, (by show ((Mo_thrown sMo_10).toInt = 0 ∧ (-1 ≤ a0.toInt ∧ a0.toInt < 4 ∧ 0 ≤ a1.toInt ∧ a1.toInt < 64 ∧ -8 ≤ a2.toInt ∧ a2.toInt ≤ 8 ∧ -1000000000 ≤ a3.toInt ∧ a3.toInt ≤ 1000000000 ∧ 1 ≤ a4.toInt ∧ a4.toInt ≤ 32)) ∨ ((Mo_thrown sMo_10).toInt = 1 ∧ ¬ (-1 ≤ a0.toInt ∧ a0.toInt < 4 ∧ 0 ≤ a1.toInt ∧ a1.toInt < 64 ∧ -8 ≤ a2.toInt ∧ a2.toInt ≤ 8 ∧ -1000000000 ≤ a3.toInt ∧ a3.toInt ≤ 1000000000 ∧ 1 ≤ a4.toInt ∧ a4.toInt ≤ 32)); omega)⟩
theorem t_Mod_drop {a0 : Int32} {a1 : Int32} {sMo : S_Mo} {sMthere : (Nat → Int32)} (I_sMo : I_Mo sMo) (I_sMthere : A_Mthere sMthere) : So (Mod_drop a0 a1 sMo sMthere) (fun r => I_Mo r.2.1 ∧ A_Mthere r.2.2) := by
  unfold Mod_drop
  refine So.lt2 fun sMo_1 e_1 => ?_
  have I_2 : I_Mo sMo_1 := by rw [e_1]; exact (I_Mo_set_thrown I_sMo)
  have k_3 : (0 : Int32).toInt = 0 := by decide
  refine So.bd (t_Mod_isEntry ) fun q2 h_4 => ?_
  have p_5 := h_4
  refine So.ite (fun c_6 => ?_) (fun c_6 => ?_)
  · rw [i_eq] at c_6
    exact So.one ⟨I_2, I_sMthere⟩
  · rw [i_eq] at c_6
    refine So.bd (t_Mod_entry (by show -1 ≤ a0.toInt; omega) (by show a0.toInt < 4; omega) (by show 0 ≤ a1.toInt; omega) (by show a1.toInt < 64; omega)) fun q3 h_7 => ?_
    have p_8 := h_7
    refine So.gd (i_in.mpr (by omega)) ?_
    refine So.bd (t_Mod_entry (by show -1 ≤ a0.toInt; omega) (by show a0.toInt < 4; omega) (by show 0 ≤ a1.toInt; omega) (by show a1.toInt < 64; omega)) fun q5 h_9 => ?_
    have p_10 := h_9
    refine So.gd (i_in.mpr (by omega)) ?_
    refine So.lt2 fun sMthere_7 e_11 => ?_
    have f_12 := i_nar (0 : Int32)
    have I_13 : A_Mthere sMthere_7 := by rw [e_11]; exact (A_Mthere_upd I_sMthere (by show 0 ≤ ((vp_nar .boolean 0) : Int32).toInt ∧ ((vp_nar .boolean 0) : Int32).toInt ≤ 1; omega))
    have f_14 := A_Mthere_at I_sMthere (q3.toNatClampNeg)
    refine So.gd (i_bool (a := (sMthere (q3.toNatClampNeg))) (by omega)) ?_
    exact So.one ⟨I_2, I_13⟩
theorem t_Mod_version {a0 : Int32} {sMo : S_Mo} (I_sMo : I_Mo sMo) : So (Mod_version a0 sMo) (fun r => I_Mo r ∧ (((Mo_thrown r).toInt = 0 ∧ (0 ≤ a0.toInt ∧ a0.toInt < 4)) ∨ ((Mo_thrown r).toInt = 1 ∧ ¬ (0 ≤ a0.toInt ∧ a0.toInt < 4)))) := by
  unfold Mod_version
  refine So.ite (fun c_1 => ?_) (fun c_1 => ?_)
  · rw [i_lt] at c_1
    have k_2 : (0 : Int32).toInt = 0 := by decide
    unfold Mod_version_j10
    unfold Mod_version_j15
    refine So.lt2 fun sMo_3 e_3 => ?_
    have I_4 : I_Mo sMo_3 := by rw [e_3]; exact (I_Mo_set_thrown I_sMo)
    have k_5 : (1 : Int32).toInt = 1 := by decide
    have f_6 : (Mo_thrown sMo_3).toInt = (1 : Int32).toInt := by subst e_3; rfl
    refine So.ite (fun c_7 => ?_) (fun c_7 => ?_)
    · rw [i_eq] at c_7
      refine So.lt2 fun sMo_4 e_8 => ?_
      have I_9 : I_Mo sMo_4 := by rw [e_8]; exact (I_Mo_set_used I_4 (by show 0 ≤ (a0 : Int32).toInt ∧ (a0 : Int32).toInt ≤ 3; omega))
      have f_10 : (Mo_thrown sMo_4).toInt = (Mo_thrown sMo_3).toInt := by subst e_8; rfl
      exact So.one ⟨I_9, (by show ((Mo_thrown sMo_4).toInt = 0 ∧ (0 ≤ a0.toInt ∧ a0.toInt < 4)) ∨ ((Mo_thrown sMo_4).toInt = 1 ∧ ¬ (0 ≤ a0.toInt ∧ a0.toInt < 4)); omega)⟩
    · rw [i_eq] at c_7
      exact So.one ⟨I_4, (by show ((Mo_thrown sMo_3).toInt = 0 ∧ (0 ≤ a0.toInt ∧ a0.toInt < 4)) ∨ ((Mo_thrown sMo_3).toInt = 1 ∧ ¬ (0 ≤ a0.toInt ∧ a0.toInt < 4)); omega)⟩
  · rw [i_lt] at c_1
    have k_11 : (0 : Int32).toInt = 0 := by decide
    refine So.ite (fun c_12 => ?_) (fun c_12 => ?_)
    · rw [i_le] at c_12
      have k_13 : (3 : Int32).toInt = 3 := by decide
      unfold Mod_version_j15
      refine So.lt2 fun sMo_3 e_14 => ?_
      have I_15 : I_Mo sMo_3 := by rw [e_14]; exact (I_Mo_set_thrown I_sMo)
      have f_16 : (Mo_thrown sMo_3).toInt = (0 : Int32).toInt := by subst e_14; rfl
      refine So.ite (fun c_17 => ?_) (fun c_17 => ?_)
      · rw [i_eq] at c_17
        refine So.lt2 fun sMo_4 e_18 => ?_
        have I_19 : I_Mo sMo_4 := by rw [e_18]; exact (I_Mo_set_used I_15 (by show 0 ≤ (a0 : Int32).toInt ∧ (a0 : Int32).toInt ≤ 3; omega))
        have f_20 : (Mo_thrown sMo_4).toInt = (Mo_thrown sMo_3).toInt := by subst e_18; rfl
        exact So.one ⟨I_19, (by show ((Mo_thrown sMo_4).toInt = 0 ∧ (0 ≤ a0.toInt ∧ a0.toInt < 4)) ∨ ((Mo_thrown sMo_4).toInt = 1 ∧ ¬ (0 ≤ a0.toInt ∧ a0.toInt < 4)); omega)⟩
      · rw [i_eq] at c_17
        exact So.one ⟨I_15, (by show ((Mo_thrown sMo_3).toInt = 0 ∧ (0 ≤ a0.toInt ∧ a0.toInt < 4)) ∨ ((Mo_thrown sMo_3).toInt = 1 ∧ ¬ (0 ≤ a0.toInt ∧ a0.toInt < 4)); omega)⟩
    · rw [i_le] at c_12
      have k_21 : (3 : Int32).toInt = 3 := by decide
      unfold Mod_version_j10
      unfold Mod_version_j15
      refine So.lt2 fun sMo_3 e_22 => ?_
      have I_23 : I_Mo sMo_3 := by rw [e_22]; exact (I_Mo_set_thrown I_sMo)
      have k_24 : (1 : Int32).toInt = 1 := by decide
      have f_25 : (Mo_thrown sMo_3).toInt = (1 : Int32).toInt := by subst e_22; rfl
      refine So.ite (fun c_26 => ?_) (fun c_26 => ?_)
      · rw [i_eq] at c_26
        refine So.lt2 fun sMo_4 e_27 => ?_
        have I_28 : I_Mo sMo_4 := by rw [e_27]; exact (I_Mo_set_used I_23 (by show 0 ≤ (a0 : Int32).toInt ∧ (a0 : Int32).toInt ≤ 3; omega))
        have f_29 : (Mo_thrown sMo_4).toInt = (Mo_thrown sMo_3).toInt := by subst e_27; rfl
        exact So.one ⟨I_28, (by show ((Mo_thrown sMo_4).toInt = 0 ∧ (0 ≤ a0.toInt ∧ a0.toInt < 4)) ∨ ((Mo_thrown sMo_4).toInt = 1 ∧ ¬ (0 ≤ a0.toInt ∧ a0.toInt < 4)); omega)⟩
      · rw [i_eq] at c_26
        exact So.one ⟨I_23, (by show ((Mo_thrown sMo_3).toInt = 0 ∧ (0 ≤ a0.toInt ∧ a0.toInt < 4)) ∨ ((Mo_thrown sMo_3).toInt = 1 ∧ ¬ (0 ≤ a0.toInt ∧ a0.toInt < 4)); omega)⟩
theorem t_Mod_isRepeat {a0 : Int32}  : So (Mod_isRepeat a0) (fun r => ((r.toInt = 1 ∧ (216 ≤ a0.toInt ∧ a0.toInt ≤ 343)) ∨ (r.toInt = 0 ∧ ¬ (216 ≤ a0.toInt ∧ a0.toInt ≤ 343)))) := by
  unfold Mod_isRepeat
  refine So.ite (fun c_1 => ?_) (fun c_1 => ?_)
  · rw [i_lt] at c_1
    have k_2 : (216 : Int32).toInt = 216 := by decide
    have k_3 : (0 : Int32).toInt = 0 := by decide
    exact So.one (by show ((0 : Int32).toInt = 1 ∧ (216 ≤ a0.toInt ∧ a0.toInt ≤ 343)) ∨ ((0 : Int32).toInt = 0 ∧ ¬ (216 ≤ a0.toInt ∧ a0.toInt ≤ 343)); omega)
  · rw [i_lt] at c_1
    have k_4 : (216 : Int32).toInt = 216 := by decide
    refine So.ite (fun c_5 => ?_) (fun c_5 => ?_)
    · rw [i_lt] at c_5
      have k_6 : (343 : Int32).toInt = 343 := by decide
      have k_7 : (0 : Int32).toInt = 0 := by decide
      exact So.one (by show ((0 : Int32).toInt = 1 ∧ (216 ≤ a0.toInt ∧ a0.toInt ≤ 343)) ∨ ((0 : Int32).toInt = 0 ∧ ¬ (216 ≤ a0.toInt ∧ a0.toInt ≤ 343)); omega)
    · rw [i_lt] at c_5
      have k_8 : (343 : Int32).toInt = 343 := by decide
      have k_9 : (1 : Int32).toInt = 1 := by decide
      exact So.one (by show ((1 : Int32).toInt = 1 ∧ (216 ≤ a0.toInt ∧ a0.toInt ≤ 343)) ∨ ((1 : Int32).toInt = 0 ∧ ¬ (216 ≤ a0.toInt ∧ a0.toInt ≤ 343)); omega)
theorem t_Mod_isDescriptor_j109 {x0_j109 : Int32}  : So (Mod_isDescriptor_j109 x0_j109) (fun r => ((r.toInt = 1 ∧ (x0_j109.toInt = 520)) ∨ (r.toInt = 0 ∧ ¬ (x0_j109.toInt = 520)))) := by
  unfold Mod_isDescriptor_j109
  refine So.ite (fun c_1 => ?_) (fun c_1 => ?_)
  · rw [i_eq] at c_1
    have k_2 : (520 : Int32).toInt = 520 := by decide
    have k_3 : (1 : Int32).toInt = 1 := by decide
    exact So.one (by show ((1 : Int32).toInt = 1 ∧ (x0_j109.toInt = 520)) ∨ ((1 : Int32).toInt = 0 ∧ ¬ (x0_j109.toInt = 520)); omega)
  · rw [i_eq] at c_1
    have k_4 : (520 : Int32).toInt = 520 := by decide
    have k_5 : (0 : Int32).toInt = 0 := by decide
    exact So.one (by show ((0 : Int32).toInt = 1 ∧ (x0_j109.toInt = 520)) ∨ ((0 : Int32).toInt = 0 ∧ ¬ (x0_j109.toInt = 520)); omega)
theorem t_Mod_isDescriptor_j84 {x0_j84 : Int32} {x1_j84 : Int32} (g_0 : (x1_j84.toInt = 0 ∧ ¬ ((400 ≤ x0_j84.toInt ∧ x0_j84.toInt ≤ 431) ∨ (440 ≤ x0_j84.toInt ∧ x0_j84.toInt ≤ 455) ∨ (460 ≤ x0_j84.toInt ∧ x0_j84.toInt ≤ 468) ∨ (480 ≤ x0_j84.toInt ∧ x0_j84.toInt ≤ 487))) ∨ (x1_j84.toInt = 1 ∧ ((400 ≤ x0_j84.toInt ∧ x0_j84.toInt ≤ 431) ∨ (440 ≤ x0_j84.toInt ∧ x0_j84.toInt ≤ 455) ∨ (460 ≤ x0_j84.toInt ∧ x0_j84.toInt ≤ 468) ∨ (480 ≤ x0_j84.toInt ∧ x0_j84.toInt ≤ 487)))) (g_1 : ¬ (0 ≤ x0_j84.toInt ∧ x0_j84.toInt ≤ 63)) (g_2 : ¬ (100 ≤ x0_j84.toInt ∧ x0_j84.toInt ≤ 115)) : So (Mod_isDescriptor_j84 x0_j84 x1_j84) (fun r => ((r.toInt = 1 ∧ ((0 ≤ x0_j84.toInt ∧ x0_j84.toInt ≤ 63) ∨ (100 ≤ x0_j84.toInt ∧ x0_j84.toInt ≤ 115) ∨ (216 ≤ x0_j84.toInt ∧ x0_j84.toInt ≤ 343) ∨ ((400 ≤ x0_j84.toInt ∧ x0_j84.toInt ≤ 431) ∨ (440 ≤ x0_j84.toInt ∧ x0_j84.toInt ≤ 455) ∨ (460 ≤ x0_j84.toInt ∧ x0_j84.toInt ≤ 468) ∨ (480 ≤ x0_j84.toInt ∧ x0_j84.toInt ≤ 487)) ∨ (501 ≤ x0_j84.toInt ∧ x0_j84.toInt ≤ 516) ∨ x0_j84.toInt = 520)) ∨ (r.toInt = 0 ∧ ¬ ((0 ≤ x0_j84.toInt ∧ x0_j84.toInt ≤ 63) ∨ (100 ≤ x0_j84.toInt ∧ x0_j84.toInt ≤ 115) ∨ (216 ≤ x0_j84.toInt ∧ x0_j84.toInt ≤ 343) ∨ ((400 ≤ x0_j84.toInt ∧ x0_j84.toInt ≤ 431) ∨ (440 ≤ x0_j84.toInt ∧ x0_j84.toInt ≤ 455) ∨ (460 ≤ x0_j84.toInt ∧ x0_j84.toInt ≤ 468) ∨ (480 ≤ x0_j84.toInt ∧ x0_j84.toInt ≤ 487)) ∨ (501 ≤ x0_j84.toInt ∧ x0_j84.toInt ≤ 516) ∨ x0_j84.toInt = 520)))) := by
  unfold Mod_isDescriptor_j84
  refine So.bd (t_Mod_isRepeat ) fun q13 h_1 => ?_
  have p_2 := h_1
  refine So.ite (fun c_3 => ?_) (fun c_3 => ?_)
  · rw [i_eq] at c_3
    have k_4 : (0 : Int32).toInt = 0 := by decide
    refine So.ite (fun c_5 => ?_) (fun c_5 => ?_)
    · rw [i_eq] at c_5
      refine So.ite (fun c_6 => ?_) (fun c_6 => ?_)
      · rw [i_lt] at c_6
        have k_7 : (501 : Int32).toInt = 501 := by decide
        refine So.imp (t_Mod_isDescriptor_j109 ) fun q_z h_z => ?_
        have p_8 := h_z
        exact (by show (q_z.toInt = 1 ∧ ((0 ≤ x0_j84.toInt ∧ x0_j84.toInt ≤ 63) ∨ (100 ≤ x0_j84.toInt ∧ x0_j84.toInt ≤ 115) ∨ (216 ≤ x0_j84.toInt ∧ x0_j84.toInt ≤ 343) ∨ ((400 ≤ x0_j84.toInt ∧ x0_j84.toInt ≤ 431) ∨ (440 ≤ x0_j84.toInt ∧ x0_j84.toInt ≤ 455) ∨ (460 ≤ x0_j84.toInt ∧ x0_j84.toInt ≤ 468) ∨ (480 ≤ x0_j84.toInt ∧ x0_j84.toInt ≤ 487)) ∨ (501 ≤ x0_j84.toInt ∧ x0_j84.toInt ≤ 516) ∨ x0_j84.toInt = 520)) ∨ (q_z.toInt = 0 ∧ ¬ ((0 ≤ x0_j84.toInt ∧ x0_j84.toInt ≤ 63) ∨ (100 ≤ x0_j84.toInt ∧ x0_j84.toInt ≤ 115) ∨ (216 ≤ x0_j84.toInt ∧ x0_j84.toInt ≤ 343) ∨ ((400 ≤ x0_j84.toInt ∧ x0_j84.toInt ≤ 431) ∨ (440 ≤ x0_j84.toInt ∧ x0_j84.toInt ≤ 455) ∨ (460 ≤ x0_j84.toInt ∧ x0_j84.toInt ≤ 468) ∨ (480 ≤ x0_j84.toInt ∧ x0_j84.toInt ≤ 487)) ∨ (501 ≤ x0_j84.toInt ∧ x0_j84.toInt ≤ 516) ∨ x0_j84.toInt = 520)); omega)
      · rw [i_lt] at c_6
        have k_9 : (501 : Int32).toInt = 501 := by decide
        refine So.ite (fun c_10 => ?_) (fun c_10 => ?_)
        · rw [i_le] at c_10
          have k_11 : (516 : Int32).toInt = 516 := by decide
          have k_12 : (1 : Int32).toInt = 1 := by decide
          exact So.one (by show ((1 : Int32).toInt = 1 ∧ ((0 ≤ x0_j84.toInt ∧ x0_j84.toInt ≤ 63) ∨ (100 ≤ x0_j84.toInt ∧ x0_j84.toInt ≤ 115) ∨ (216 ≤ x0_j84.toInt ∧ x0_j84.toInt ≤ 343) ∨ ((400 ≤ x0_j84.toInt ∧ x0_j84.toInt ≤ 431) ∨ (440 ≤ x0_j84.toInt ∧ x0_j84.toInt ≤ 455) ∨ (460 ≤ x0_j84.toInt ∧ x0_j84.toInt ≤ 468) ∨ (480 ≤ x0_j84.toInt ∧ x0_j84.toInt ≤ 487)) ∨ (501 ≤ x0_j84.toInt ∧ x0_j84.toInt ≤ 516) ∨ x0_j84.toInt = 520)) ∨ ((1 : Int32).toInt = 0 ∧ ¬ ((0 ≤ x0_j84.toInt ∧ x0_j84.toInt ≤ 63) ∨ (100 ≤ x0_j84.toInt ∧ x0_j84.toInt ≤ 115) ∨ (216 ≤ x0_j84.toInt ∧ x0_j84.toInt ≤ 343) ∨ ((400 ≤ x0_j84.toInt ∧ x0_j84.toInt ≤ 431) ∨ (440 ≤ x0_j84.toInt ∧ x0_j84.toInt ≤ 455) ∨ (460 ≤ x0_j84.toInt ∧ x0_j84.toInt ≤ 468) ∨ (480 ≤ x0_j84.toInt ∧ x0_j84.toInt ≤ 487)) ∨ (501 ≤ x0_j84.toInt ∧ x0_j84.toInt ≤ 516) ∨ x0_j84.toInt = 520)); omega)
        · rw [i_le] at c_10
          have k_13 : (516 : Int32).toInt = 516 := by decide
          refine So.imp (t_Mod_isDescriptor_j109 ) fun q_z h_z => ?_
          have p_14 := h_z
          exact (by show (q_z.toInt = 1 ∧ ((0 ≤ x0_j84.toInt ∧ x0_j84.toInt ≤ 63) ∨ (100 ≤ x0_j84.toInt ∧ x0_j84.toInt ≤ 115) ∨ (216 ≤ x0_j84.toInt ∧ x0_j84.toInt ≤ 343) ∨ ((400 ≤ x0_j84.toInt ∧ x0_j84.toInt ≤ 431) ∨ (440 ≤ x0_j84.toInt ∧ x0_j84.toInt ≤ 455) ∨ (460 ≤ x0_j84.toInt ∧ x0_j84.toInt ≤ 468) ∨ (480 ≤ x0_j84.toInt ∧ x0_j84.toInt ≤ 487)) ∨ (501 ≤ x0_j84.toInt ∧ x0_j84.toInt ≤ 516) ∨ x0_j84.toInt = 520)) ∨ (q_z.toInt = 0 ∧ ¬ ((0 ≤ x0_j84.toInt ∧ x0_j84.toInt ≤ 63) ∨ (100 ≤ x0_j84.toInt ∧ x0_j84.toInt ≤ 115) ∨ (216 ≤ x0_j84.toInt ∧ x0_j84.toInt ≤ 343) ∨ ((400 ≤ x0_j84.toInt ∧ x0_j84.toInt ≤ 431) ∨ (440 ≤ x0_j84.toInt ∧ x0_j84.toInt ≤ 455) ∨ (460 ≤ x0_j84.toInt ∧ x0_j84.toInt ≤ 468) ∨ (480 ≤ x0_j84.toInt ∧ x0_j84.toInt ≤ 487)) ∨ (501 ≤ x0_j84.toInt ∧ x0_j84.toInt ≤ 516) ∨ x0_j84.toInt = 520)); omega)
    · rw [i_eq] at c_5
      have k_15 : (1 : Int32).toInt = 1 := by decide
      exact So.one (by show ((1 : Int32).toInt = 1 ∧ ((0 ≤ x0_j84.toInt ∧ x0_j84.toInt ≤ 63) ∨ (100 ≤ x0_j84.toInt ∧ x0_j84.toInt ≤ 115) ∨ (216 ≤ x0_j84.toInt ∧ x0_j84.toInt ≤ 343) ∨ ((400 ≤ x0_j84.toInt ∧ x0_j84.toInt ≤ 431) ∨ (440 ≤ x0_j84.toInt ∧ x0_j84.toInt ≤ 455) ∨ (460 ≤ x0_j84.toInt ∧ x0_j84.toInt ≤ 468) ∨ (480 ≤ x0_j84.toInt ∧ x0_j84.toInt ≤ 487)) ∨ (501 ≤ x0_j84.toInt ∧ x0_j84.toInt ≤ 516) ∨ x0_j84.toInt = 520)) ∨ ((1 : Int32).toInt = 0 ∧ ¬ ((0 ≤ x0_j84.toInt ∧ x0_j84.toInt ≤ 63) ∨ (100 ≤ x0_j84.toInt ∧ x0_j84.toInt ≤ 115) ∨ (216 ≤ x0_j84.toInt ∧ x0_j84.toInt ≤ 343) ∨ ((400 ≤ x0_j84.toInt ∧ x0_j84.toInt ≤ 431) ∨ (440 ≤ x0_j84.toInt ∧ x0_j84.toInt ≤ 455) ∨ (460 ≤ x0_j84.toInt ∧ x0_j84.toInt ≤ 468) ∨ (480 ≤ x0_j84.toInt ∧ x0_j84.toInt ≤ 487)) ∨ (501 ≤ x0_j84.toInt ∧ x0_j84.toInt ≤ 516) ∨ x0_j84.toInt = 520)); omega)
  · rw [i_eq] at c_3
    have k_16 : (0 : Int32).toInt = 0 := by decide
    have k_17 : (1 : Int32).toInt = 1 := by decide
    exact So.one (by show ((1 : Int32).toInt = 1 ∧ ((0 ≤ x0_j84.toInt ∧ x0_j84.toInt ≤ 63) ∨ (100 ≤ x0_j84.toInt ∧ x0_j84.toInt ≤ 115) ∨ (216 ≤ x0_j84.toInt ∧ x0_j84.toInt ≤ 343) ∨ ((400 ≤ x0_j84.toInt ∧ x0_j84.toInt ≤ 431) ∨ (440 ≤ x0_j84.toInt ∧ x0_j84.toInt ≤ 455) ∨ (460 ≤ x0_j84.toInt ∧ x0_j84.toInt ≤ 468) ∨ (480 ≤ x0_j84.toInt ∧ x0_j84.toInt ≤ 487)) ∨ (501 ≤ x0_j84.toInt ∧ x0_j84.toInt ≤ 516) ∨ x0_j84.toInt = 520)) ∨ ((1 : Int32).toInt = 0 ∧ ¬ ((0 ≤ x0_j84.toInt ∧ x0_j84.toInt ≤ 63) ∨ (100 ≤ x0_j84.toInt ∧ x0_j84.toInt ≤ 115) ∨ (216 ≤ x0_j84.toInt ∧ x0_j84.toInt ≤ 343) ∨ ((400 ≤ x0_j84.toInt ∧ x0_j84.toInt ≤ 431) ∨ (440 ≤ x0_j84.toInt ∧ x0_j84.toInt ≤ 455) ∨ (460 ≤ x0_j84.toInt ∧ x0_j84.toInt ≤ 468) ∨ (480 ≤ x0_j84.toInt ∧ x0_j84.toInt ≤ 487)) ∨ (501 ≤ x0_j84.toInt ∧ x0_j84.toInt ≤ 516) ∨ x0_j84.toInt = 520)); omega)
theorem t_Mod_isDescriptor_j72 {x0_j72 : Int32} {x1_j72 : Int32} (g_0 : (x1_j72.toInt = 0 ∧ ¬ ((400 ≤ x0_j72.toInt ∧ x0_j72.toInt ≤ 431) ∨ (440 ≤ x0_j72.toInt ∧ x0_j72.toInt ≤ 455) ∨ (460 ≤ x0_j72.toInt ∧ x0_j72.toInt ≤ 468) ∨ (480 ≤ x0_j72.toInt ∧ x0_j72.toInt ≤ 487))) ∨ (x1_j72.toInt = 1 ∧ ((400 ≤ x0_j72.toInt ∧ x0_j72.toInt ≤ 431) ∨ (440 ≤ x0_j72.toInt ∧ x0_j72.toInt ≤ 455) ∨ (460 ≤ x0_j72.toInt ∧ x0_j72.toInt ≤ 468) ∨ (480 ≤ x0_j72.toInt ∧ x0_j72.toInt ≤ 487)))) (g_1 : ¬ (0 ≤ x0_j72.toInt ∧ x0_j72.toInt ≤ 63)) : So (Mod_isDescriptor_j72 x0_j72 x1_j72) (fun r => ((r.toInt = 1 ∧ ((0 ≤ x0_j72.toInt ∧ x0_j72.toInt ≤ 63) ∨ (100 ≤ x0_j72.toInt ∧ x0_j72.toInt ≤ 115) ∨ (216 ≤ x0_j72.toInt ∧ x0_j72.toInt ≤ 343) ∨ ((400 ≤ x0_j72.toInt ∧ x0_j72.toInt ≤ 431) ∨ (440 ≤ x0_j72.toInt ∧ x0_j72.toInt ≤ 455) ∨ (460 ≤ x0_j72.toInt ∧ x0_j72.toInt ≤ 468) ∨ (480 ≤ x0_j72.toInt ∧ x0_j72.toInt ≤ 487)) ∨ (501 ≤ x0_j72.toInt ∧ x0_j72.toInt ≤ 516) ∨ x0_j72.toInt = 520)) ∨ (r.toInt = 0 ∧ ¬ ((0 ≤ x0_j72.toInt ∧ x0_j72.toInt ≤ 63) ∨ (100 ≤ x0_j72.toInt ∧ x0_j72.toInt ≤ 115) ∨ (216 ≤ x0_j72.toInt ∧ x0_j72.toInt ≤ 343) ∨ ((400 ≤ x0_j72.toInt ∧ x0_j72.toInt ≤ 431) ∨ (440 ≤ x0_j72.toInt ∧ x0_j72.toInt ≤ 455) ∨ (460 ≤ x0_j72.toInt ∧ x0_j72.toInt ≤ 468) ∨ (480 ≤ x0_j72.toInt ∧ x0_j72.toInt ≤ 487)) ∨ (501 ≤ x0_j72.toInt ∧ x0_j72.toInt ≤ 516) ∨ x0_j72.toInt = 520)))) := by
  unfold Mod_isDescriptor_j72
  refine So.ite (fun c_1 => ?_) (fun c_1 => ?_)
  · rw [i_lt] at c_1
    have k_2 : (100 : Int32).toInt = 100 := by decide
    refine So.imp (t_Mod_isDescriptor_j84 (by show (x1_j72.toInt = 0 ∧ ¬ ((400 ≤ x0_j72.toInt ∧ x0_j72.toInt ≤ 431) ∨ (440 ≤ x0_j72.toInt ∧ x0_j72.toInt ≤ 455) ∨ (460 ≤ x0_j72.toInt ∧ x0_j72.toInt ≤ 468) ∨ (480 ≤ x0_j72.toInt ∧ x0_j72.toInt ≤ 487))) ∨ (x1_j72.toInt = 1 ∧ ((400 ≤ x0_j72.toInt ∧ x0_j72.toInt ≤ 431) ∨ (440 ≤ x0_j72.toInt ∧ x0_j72.toInt ≤ 455) ∨ (460 ≤ x0_j72.toInt ∧ x0_j72.toInt ≤ 468) ∨ (480 ≤ x0_j72.toInt ∧ x0_j72.toInt ≤ 487))); omega) (by show ¬ (0 ≤ x0_j72.toInt ∧ x0_j72.toInt ≤ 63); omega) (by show ¬ (100 ≤ x0_j72.toInt ∧ x0_j72.toInt ≤ 115); omega)) fun q_z h_z => ?_
    have p_3 := h_z
    exact (by show (q_z.toInt = 1 ∧ ((0 ≤ x0_j72.toInt ∧ x0_j72.toInt ≤ 63) ∨ (100 ≤ x0_j72.toInt ∧ x0_j72.toInt ≤ 115) ∨ (216 ≤ x0_j72.toInt ∧ x0_j72.toInt ≤ 343) ∨ ((400 ≤ x0_j72.toInt ∧ x0_j72.toInt ≤ 431) ∨ (440 ≤ x0_j72.toInt ∧ x0_j72.toInt ≤ 455) ∨ (460 ≤ x0_j72.toInt ∧ x0_j72.toInt ≤ 468) ∨ (480 ≤ x0_j72.toInt ∧ x0_j72.toInt ≤ 487)) ∨ (501 ≤ x0_j72.toInt ∧ x0_j72.toInt ≤ 516) ∨ x0_j72.toInt = 520)) ∨ (q_z.toInt = 0 ∧ ¬ ((0 ≤ x0_j72.toInt ∧ x0_j72.toInt ≤ 63) ∨ (100 ≤ x0_j72.toInt ∧ x0_j72.toInt ≤ 115) ∨ (216 ≤ x0_j72.toInt ∧ x0_j72.toInt ≤ 343) ∨ ((400 ≤ x0_j72.toInt ∧ x0_j72.toInt ≤ 431) ∨ (440 ≤ x0_j72.toInt ∧ x0_j72.toInt ≤ 455) ∨ (460 ≤ x0_j72.toInt ∧ x0_j72.toInt ≤ 468) ∨ (480 ≤ x0_j72.toInt ∧ x0_j72.toInt ≤ 487)) ∨ (501 ≤ x0_j72.toInt ∧ x0_j72.toInt ≤ 516) ∨ x0_j72.toInt = 520)); omega)
  · rw [i_lt] at c_1
    have k_4 : (100 : Int32).toInt = 100 := by decide
    refine So.ite (fun c_5 => ?_) (fun c_5 => ?_)
    · rw [i_le] at c_5
      have k_6 : (115 : Int32).toInt = 115 := by decide
      have k_7 : (1 : Int32).toInt = 1 := by decide
      exact So.one (by show ((1 : Int32).toInt = 1 ∧ ((0 ≤ x0_j72.toInt ∧ x0_j72.toInt ≤ 63) ∨ (100 ≤ x0_j72.toInt ∧ x0_j72.toInt ≤ 115) ∨ (216 ≤ x0_j72.toInt ∧ x0_j72.toInt ≤ 343) ∨ ((400 ≤ x0_j72.toInt ∧ x0_j72.toInt ≤ 431) ∨ (440 ≤ x0_j72.toInt ∧ x0_j72.toInt ≤ 455) ∨ (460 ≤ x0_j72.toInt ∧ x0_j72.toInt ≤ 468) ∨ (480 ≤ x0_j72.toInt ∧ x0_j72.toInt ≤ 487)) ∨ (501 ≤ x0_j72.toInt ∧ x0_j72.toInt ≤ 516) ∨ x0_j72.toInt = 520)) ∨ ((1 : Int32).toInt = 0 ∧ ¬ ((0 ≤ x0_j72.toInt ∧ x0_j72.toInt ≤ 63) ∨ (100 ≤ x0_j72.toInt ∧ x0_j72.toInt ≤ 115) ∨ (216 ≤ x0_j72.toInt ∧ x0_j72.toInt ≤ 343) ∨ ((400 ≤ x0_j72.toInt ∧ x0_j72.toInt ≤ 431) ∨ (440 ≤ x0_j72.toInt ∧ x0_j72.toInt ≤ 455) ∨ (460 ≤ x0_j72.toInt ∧ x0_j72.toInt ≤ 468) ∨ (480 ≤ x0_j72.toInt ∧ x0_j72.toInt ≤ 487)) ∨ (501 ≤ x0_j72.toInt ∧ x0_j72.toInt ≤ 516) ∨ x0_j72.toInt = 520)); omega)
    · rw [i_le] at c_5
      have k_8 : (115 : Int32).toInt = 115 := by decide
      refine So.imp (t_Mod_isDescriptor_j84 (by show (x1_j72.toInt = 0 ∧ ¬ ((400 ≤ x0_j72.toInt ∧ x0_j72.toInt ≤ 431) ∨ (440 ≤ x0_j72.toInt ∧ x0_j72.toInt ≤ 455) ∨ (460 ≤ x0_j72.toInt ∧ x0_j72.toInt ≤ 468) ∨ (480 ≤ x0_j72.toInt ∧ x0_j72.toInt ≤ 487))) ∨ (x1_j72.toInt = 1 ∧ ((400 ≤ x0_j72.toInt ∧ x0_j72.toInt ≤ 431) ∨ (440 ≤ x0_j72.toInt ∧ x0_j72.toInt ≤ 455) ∨ (460 ≤ x0_j72.toInt ∧ x0_j72.toInt ≤ 468) ∨ (480 ≤ x0_j72.toInt ∧ x0_j72.toInt ≤ 487))); omega) (by show ¬ (0 ≤ x0_j72.toInt ∧ x0_j72.toInt ≤ 63); omega) (by show ¬ (100 ≤ x0_j72.toInt ∧ x0_j72.toInt ≤ 115); omega)) fun q_z h_z => ?_
      have p_9 := h_z
      exact (by show (q_z.toInt = 1 ∧ ((0 ≤ x0_j72.toInt ∧ x0_j72.toInt ≤ 63) ∨ (100 ≤ x0_j72.toInt ∧ x0_j72.toInt ≤ 115) ∨ (216 ≤ x0_j72.toInt ∧ x0_j72.toInt ≤ 343) ∨ ((400 ≤ x0_j72.toInt ∧ x0_j72.toInt ≤ 431) ∨ (440 ≤ x0_j72.toInt ∧ x0_j72.toInt ≤ 455) ∨ (460 ≤ x0_j72.toInt ∧ x0_j72.toInt ≤ 468) ∨ (480 ≤ x0_j72.toInt ∧ x0_j72.toInt ≤ 487)) ∨ (501 ≤ x0_j72.toInt ∧ x0_j72.toInt ≤ 516) ∨ x0_j72.toInt = 520)) ∨ (q_z.toInt = 0 ∧ ¬ ((0 ≤ x0_j72.toInt ∧ x0_j72.toInt ≤ 63) ∨ (100 ≤ x0_j72.toInt ∧ x0_j72.toInt ≤ 115) ∨ (216 ≤ x0_j72.toInt ∧ x0_j72.toInt ≤ 343) ∨ ((400 ≤ x0_j72.toInt ∧ x0_j72.toInt ≤ 431) ∨ (440 ≤ x0_j72.toInt ∧ x0_j72.toInt ≤ 455) ∨ (460 ≤ x0_j72.toInt ∧ x0_j72.toInt ≤ 468) ∨ (480 ≤ x0_j72.toInt ∧ x0_j72.toInt ≤ 487)) ∨ (501 ≤ x0_j72.toInt ∧ x0_j72.toInt ≤ 516) ∨ x0_j72.toInt = 520)); omega)
theorem t_Mod_isDescriptor_j61 {x0_j61 : Int32} {t0_j61 : Int32} (g_0 : (t0_j61.toInt = 0 ∧ ¬ ((400 ≤ x0_j61.toInt ∧ x0_j61.toInt ≤ 431) ∨ (440 ≤ x0_j61.toInt ∧ x0_j61.toInt ≤ 455) ∨ (460 ≤ x0_j61.toInt ∧ x0_j61.toInt ≤ 468) ∨ (480 ≤ x0_j61.toInt ∧ x0_j61.toInt ≤ 487))) ∨ (t0_j61.toInt = 1 ∧ ((400 ≤ x0_j61.toInt ∧ x0_j61.toInt ≤ 431) ∨ (440 ≤ x0_j61.toInt ∧ x0_j61.toInt ≤ 455) ∨ (460 ≤ x0_j61.toInt ∧ x0_j61.toInt ≤ 468) ∨ (480 ≤ x0_j61.toInt ∧ x0_j61.toInt ≤ 487)))) : So (Mod_isDescriptor_j61 x0_j61 t0_j61) (fun r => ((r.toInt = 1 ∧ ((0 ≤ x0_j61.toInt ∧ x0_j61.toInt ≤ 63) ∨ (100 ≤ x0_j61.toInt ∧ x0_j61.toInt ≤ 115) ∨ (216 ≤ x0_j61.toInt ∧ x0_j61.toInt ≤ 343) ∨ ((400 ≤ x0_j61.toInt ∧ x0_j61.toInt ≤ 431) ∨ (440 ≤ x0_j61.toInt ∧ x0_j61.toInt ≤ 455) ∨ (460 ≤ x0_j61.toInt ∧ x0_j61.toInt ≤ 468) ∨ (480 ≤ x0_j61.toInt ∧ x0_j61.toInt ≤ 487)) ∨ (501 ≤ x0_j61.toInt ∧ x0_j61.toInt ≤ 516) ∨ x0_j61.toInt = 520)) ∨ (r.toInt = 0 ∧ ¬ ((0 ≤ x0_j61.toInt ∧ x0_j61.toInt ≤ 63) ∨ (100 ≤ x0_j61.toInt ∧ x0_j61.toInt ≤ 115) ∨ (216 ≤ x0_j61.toInt ∧ x0_j61.toInt ≤ 343) ∨ ((400 ≤ x0_j61.toInt ∧ x0_j61.toInt ≤ 431) ∨ (440 ≤ x0_j61.toInt ∧ x0_j61.toInt ≤ 455) ∨ (460 ≤ x0_j61.toInt ∧ x0_j61.toInt ≤ 468) ∨ (480 ≤ x0_j61.toInt ∧ x0_j61.toInt ≤ 487)) ∨ (501 ≤ x0_j61.toInt ∧ x0_j61.toInt ≤ 516) ∨ x0_j61.toInt = 520)))) := by
  unfold Mod_isDescriptor_j61
  refine So.ite (fun c_1 => ?_) (fun c_1 => ?_)
  · rw [i_lt] at c_1
    have k_2 : (0 : Int32).toInt = 0 := by decide
    refine So.imp (t_Mod_isDescriptor_j72 (by show (t0_j61.toInt = 0 ∧ ¬ ((400 ≤ x0_j61.toInt ∧ x0_j61.toInt ≤ 431) ∨ (440 ≤ x0_j61.toInt ∧ x0_j61.toInt ≤ 455) ∨ (460 ≤ x0_j61.toInt ∧ x0_j61.toInt ≤ 468) ∨ (480 ≤ x0_j61.toInt ∧ x0_j61.toInt ≤ 487))) ∨ (t0_j61.toInt = 1 ∧ ((400 ≤ x0_j61.toInt ∧ x0_j61.toInt ≤ 431) ∨ (440 ≤ x0_j61.toInt ∧ x0_j61.toInt ≤ 455) ∨ (460 ≤ x0_j61.toInt ∧ x0_j61.toInt ≤ 468) ∨ (480 ≤ x0_j61.toInt ∧ x0_j61.toInt ≤ 487))); omega) (by show ¬ (0 ≤ x0_j61.toInt ∧ x0_j61.toInt ≤ 63); omega)) fun q_z h_z => ?_
    have p_3 := h_z
    exact (by show (q_z.toInt = 1 ∧ ((0 ≤ x0_j61.toInt ∧ x0_j61.toInt ≤ 63) ∨ (100 ≤ x0_j61.toInt ∧ x0_j61.toInt ≤ 115) ∨ (216 ≤ x0_j61.toInt ∧ x0_j61.toInt ≤ 343) ∨ ((400 ≤ x0_j61.toInt ∧ x0_j61.toInt ≤ 431) ∨ (440 ≤ x0_j61.toInt ∧ x0_j61.toInt ≤ 455) ∨ (460 ≤ x0_j61.toInt ∧ x0_j61.toInt ≤ 468) ∨ (480 ≤ x0_j61.toInt ∧ x0_j61.toInt ≤ 487)) ∨ (501 ≤ x0_j61.toInt ∧ x0_j61.toInt ≤ 516) ∨ x0_j61.toInt = 520)) ∨ (q_z.toInt = 0 ∧ ¬ ((0 ≤ x0_j61.toInt ∧ x0_j61.toInt ≤ 63) ∨ (100 ≤ x0_j61.toInt ∧ x0_j61.toInt ≤ 115) ∨ (216 ≤ x0_j61.toInt ∧ x0_j61.toInt ≤ 343) ∨ ((400 ≤ x0_j61.toInt ∧ x0_j61.toInt ≤ 431) ∨ (440 ≤ x0_j61.toInt ∧ x0_j61.toInt ≤ 455) ∨ (460 ≤ x0_j61.toInt ∧ x0_j61.toInt ≤ 468) ∨ (480 ≤ x0_j61.toInt ∧ x0_j61.toInt ≤ 487)) ∨ (501 ≤ x0_j61.toInt ∧ x0_j61.toInt ≤ 516) ∨ x0_j61.toInt = 520)); omega)
  · rw [i_lt] at c_1
    have k_4 : (0 : Int32).toInt = 0 := by decide
    refine So.ite (fun c_5 => ?_) (fun c_5 => ?_)
    · rw [i_le] at c_5
      have k_6 : (63 : Int32).toInt = 63 := by decide
      have k_7 : (1 : Int32).toInt = 1 := by decide
      exact So.one (by show ((1 : Int32).toInt = 1 ∧ ((0 ≤ x0_j61.toInt ∧ x0_j61.toInt ≤ 63) ∨ (100 ≤ x0_j61.toInt ∧ x0_j61.toInt ≤ 115) ∨ (216 ≤ x0_j61.toInt ∧ x0_j61.toInt ≤ 343) ∨ ((400 ≤ x0_j61.toInt ∧ x0_j61.toInt ≤ 431) ∨ (440 ≤ x0_j61.toInt ∧ x0_j61.toInt ≤ 455) ∨ (460 ≤ x0_j61.toInt ∧ x0_j61.toInt ≤ 468) ∨ (480 ≤ x0_j61.toInt ∧ x0_j61.toInt ≤ 487)) ∨ (501 ≤ x0_j61.toInt ∧ x0_j61.toInt ≤ 516) ∨ x0_j61.toInt = 520)) ∨ ((1 : Int32).toInt = 0 ∧ ¬ ((0 ≤ x0_j61.toInt ∧ x0_j61.toInt ≤ 63) ∨ (100 ≤ x0_j61.toInt ∧ x0_j61.toInt ≤ 115) ∨ (216 ≤ x0_j61.toInt ∧ x0_j61.toInt ≤ 343) ∨ ((400 ≤ x0_j61.toInt ∧ x0_j61.toInt ≤ 431) ∨ (440 ≤ x0_j61.toInt ∧ x0_j61.toInt ≤ 455) ∨ (460 ≤ x0_j61.toInt ∧ x0_j61.toInt ≤ 468) ∨ (480 ≤ x0_j61.toInt ∧ x0_j61.toInt ≤ 487)) ∨ (501 ≤ x0_j61.toInt ∧ x0_j61.toInt ≤ 516) ∨ x0_j61.toInt = 520)); omega)
    · rw [i_le] at c_5
      have k_8 : (63 : Int32).toInt = 63 := by decide
      refine So.imp (t_Mod_isDescriptor_j72 (by show (t0_j61.toInt = 0 ∧ ¬ ((400 ≤ x0_j61.toInt ∧ x0_j61.toInt ≤ 431) ∨ (440 ≤ x0_j61.toInt ∧ x0_j61.toInt ≤ 455) ∨ (460 ≤ x0_j61.toInt ∧ x0_j61.toInt ≤ 468) ∨ (480 ≤ x0_j61.toInt ∧ x0_j61.toInt ≤ 487))) ∨ (t0_j61.toInt = 1 ∧ ((400 ≤ x0_j61.toInt ∧ x0_j61.toInt ≤ 431) ∨ (440 ≤ x0_j61.toInt ∧ x0_j61.toInt ≤ 455) ∨ (460 ≤ x0_j61.toInt ∧ x0_j61.toInt ≤ 468) ∨ (480 ≤ x0_j61.toInt ∧ x0_j61.toInt ≤ 487))); omega) (by show ¬ (0 ≤ x0_j61.toInt ∧ x0_j61.toInt ≤ 63); omega)) fun q_z h_z => ?_
      have p_9 := h_z
      exact (by show (q_z.toInt = 1 ∧ ((0 ≤ x0_j61.toInt ∧ x0_j61.toInt ≤ 63) ∨ (100 ≤ x0_j61.toInt ∧ x0_j61.toInt ≤ 115) ∨ (216 ≤ x0_j61.toInt ∧ x0_j61.toInt ≤ 343) ∨ ((400 ≤ x0_j61.toInt ∧ x0_j61.toInt ≤ 431) ∨ (440 ≤ x0_j61.toInt ∧ x0_j61.toInt ≤ 455) ∨ (460 ≤ x0_j61.toInt ∧ x0_j61.toInt ≤ 468) ∨ (480 ≤ x0_j61.toInt ∧ x0_j61.toInt ≤ 487)) ∨ (501 ≤ x0_j61.toInt ∧ x0_j61.toInt ≤ 516) ∨ x0_j61.toInt = 520)) ∨ (q_z.toInt = 0 ∧ ¬ ((0 ≤ x0_j61.toInt ∧ x0_j61.toInt ≤ 63) ∨ (100 ≤ x0_j61.toInt ∧ x0_j61.toInt ≤ 115) ∨ (216 ≤ x0_j61.toInt ∧ x0_j61.toInt ≤ 343) ∨ ((400 ≤ x0_j61.toInt ∧ x0_j61.toInt ≤ 431) ∨ (440 ≤ x0_j61.toInt ∧ x0_j61.toInt ≤ 455) ∨ (460 ≤ x0_j61.toInt ∧ x0_j61.toInt ≤ 468) ∨ (480 ≤ x0_j61.toInt ∧ x0_j61.toInt ≤ 487)) ∨ (501 ≤ x0_j61.toInt ∧ x0_j61.toInt ≤ 516) ∨ x0_j61.toInt = 520)); omega)
theorem t_Mod_isDescriptor {a0 : Int32}  : So (Mod_isDescriptor a0) (fun r => ((r.toInt = 1 ∧ ((0 ≤ a0.toInt ∧ a0.toInt ≤ 63) ∨ (100 ≤ a0.toInt ∧ a0.toInt ≤ 115) ∨ (216 ≤ a0.toInt ∧ a0.toInt ≤ 343) ∨ ((400 ≤ a0.toInt ∧ a0.toInt ≤ 431) ∨ (440 ≤ a0.toInt ∧ a0.toInt ≤ 455) ∨ (460 ≤ a0.toInt ∧ a0.toInt ≤ 468) ∨ (480 ≤ a0.toInt ∧ a0.toInt ≤ 487)) ∨ (501 ≤ a0.toInt ∧ a0.toInt ≤ 516) ∨ a0.toInt = 520)) ∨ (r.toInt = 0 ∧ ¬ ((0 ≤ a0.toInt ∧ a0.toInt ≤ 63) ∨ (100 ≤ a0.toInt ∧ a0.toInt ≤ 115) ∨ (216 ≤ a0.toInt ∧ a0.toInt ≤ 343) ∨ ((400 ≤ a0.toInt ∧ a0.toInt ≤ 431) ∨ (440 ≤ a0.toInt ∧ a0.toInt ≤ 455) ∨ (460 ≤ a0.toInt ∧ a0.toInt ≤ 468) ∨ (480 ≤ a0.toInt ∧ a0.toInt ≤ 487)) ∨ (501 ≤ a0.toInt ∧ a0.toInt ≤ 516) ∨ a0.toInt = 520)))) := by
  unfold Mod_isDescriptor
  refine So.ite (fun c_1 => ?_) (fun c_1 => ?_)
  · rw [i_lt] at c_1
    have k_2 : (400 : Int32).toInt = 400 := by decide
    unfold Mod_isDescriptor_j14
    refine So.ite (fun c_3 => ?_) (fun c_3 => ?_)
    · rw [i_lt] at c_3
      have k_4 : (440 : Int32).toInt = 440 := by decide
      unfold Mod_isDescriptor_j28
      refine So.ite (fun c_5 => ?_) (fun c_5 => ?_)
      · rw [i_lt] at c_5
        have k_6 : (460 : Int32).toInt = 460 := by decide
        unfold Mod_isDescriptor_j42
        refine So.ite (fun c_7 => ?_) (fun c_7 => ?_)
        · rw [i_lt] at c_7
          have k_8 : (480 : Int32).toInt = 480 := by decide
          unfold Mod_isDescriptor_j60
          have k_9 : (0 : Int32).toInt = 0 := by decide
          refine So.imp (t_Mod_isDescriptor_j61 (by show ((0 : Int32).toInt = 0 ∧ ¬ ((400 ≤ a0.toInt ∧ a0.toInt ≤ 431) ∨ (440 ≤ a0.toInt ∧ a0.toInt ≤ 455) ∨ (460 ≤ a0.toInt ∧ a0.toInt ≤ 468) ∨ (480 ≤ a0.toInt ∧ a0.toInt ≤ 487))) ∨ ((0 : Int32).toInt = 1 ∧ ((400 ≤ a0.toInt ∧ a0.toInt ≤ 431) ∨ (440 ≤ a0.toInt ∧ a0.toInt ≤ 455) ∨ (460 ≤ a0.toInt ∧ a0.toInt ≤ 468) ∨ (480 ≤ a0.toInt ∧ a0.toInt ≤ 487))); omega)) fun q_z h_z => ?_
          have p_10 := h_z
          exact (by show (q_z.toInt = 1 ∧ ((0 ≤ a0.toInt ∧ a0.toInt ≤ 63) ∨ (100 ≤ a0.toInt ∧ a0.toInt ≤ 115) ∨ (216 ≤ a0.toInt ∧ a0.toInt ≤ 343) ∨ ((400 ≤ a0.toInt ∧ a0.toInt ≤ 431) ∨ (440 ≤ a0.toInt ∧ a0.toInt ≤ 455) ∨ (460 ≤ a0.toInt ∧ a0.toInt ≤ 468) ∨ (480 ≤ a0.toInt ∧ a0.toInt ≤ 487)) ∨ (501 ≤ a0.toInt ∧ a0.toInt ≤ 516) ∨ a0.toInt = 520)) ∨ (q_z.toInt = 0 ∧ ¬ ((0 ≤ a0.toInt ∧ a0.toInt ≤ 63) ∨ (100 ≤ a0.toInt ∧ a0.toInt ≤ 115) ∨ (216 ≤ a0.toInt ∧ a0.toInt ≤ 343) ∨ ((400 ≤ a0.toInt ∧ a0.toInt ≤ 431) ∨ (440 ≤ a0.toInt ∧ a0.toInt ≤ 455) ∨ (460 ≤ a0.toInt ∧ a0.toInt ≤ 468) ∨ (480 ≤ a0.toInt ∧ a0.toInt ≤ 487)) ∨ (501 ≤ a0.toInt ∧ a0.toInt ≤ 516) ∨ a0.toInt = 520)); omega)
        · rw [i_lt] at c_7
          have k_11 : (480 : Int32).toInt = 480 := by decide
          refine So.ite (fun c_12 => ?_) (fun c_12 => ?_)
          · rw [i_lt] at c_12
            have k_13 : (487 : Int32).toInt = 487 := by decide
            unfold Mod_isDescriptor_j60
            have k_14 : (0 : Int32).toInt = 0 := by decide
            refine So.imp (t_Mod_isDescriptor_j61 (by show ((0 : Int32).toInt = 0 ∧ ¬ ((400 ≤ a0.toInt ∧ a0.toInt ≤ 431) ∨ (440 ≤ a0.toInt ∧ a0.toInt ≤ 455) ∨ (460 ≤ a0.toInt ∧ a0.toInt ≤ 468) ∨ (480 ≤ a0.toInt ∧ a0.toInt ≤ 487))) ∨ ((0 : Int32).toInt = 1 ∧ ((400 ≤ a0.toInt ∧ a0.toInt ≤ 431) ∨ (440 ≤ a0.toInt ∧ a0.toInt ≤ 455) ∨ (460 ≤ a0.toInt ∧ a0.toInt ≤ 468) ∨ (480 ≤ a0.toInt ∧ a0.toInt ≤ 487))); omega)) fun q_z h_z => ?_
            have p_15 := h_z
            exact (by show (q_z.toInt = 1 ∧ ((0 ≤ a0.toInt ∧ a0.toInt ≤ 63) ∨ (100 ≤ a0.toInt ∧ a0.toInt ≤ 115) ∨ (216 ≤ a0.toInt ∧ a0.toInt ≤ 343) ∨ ((400 ≤ a0.toInt ∧ a0.toInt ≤ 431) ∨ (440 ≤ a0.toInt ∧ a0.toInt ≤ 455) ∨ (460 ≤ a0.toInt ∧ a0.toInt ≤ 468) ∨ (480 ≤ a0.toInt ∧ a0.toInt ≤ 487)) ∨ (501 ≤ a0.toInt ∧ a0.toInt ≤ 516) ∨ a0.toInt = 520)) ∨ (q_z.toInt = 0 ∧ ¬ ((0 ≤ a0.toInt ∧ a0.toInt ≤ 63) ∨ (100 ≤ a0.toInt ∧ a0.toInt ≤ 115) ∨ (216 ≤ a0.toInt ∧ a0.toInt ≤ 343) ∨ ((400 ≤ a0.toInt ∧ a0.toInt ≤ 431) ∨ (440 ≤ a0.toInt ∧ a0.toInt ≤ 455) ∨ (460 ≤ a0.toInt ∧ a0.toInt ≤ 468) ∨ (480 ≤ a0.toInt ∧ a0.toInt ≤ 487)) ∨ (501 ≤ a0.toInt ∧ a0.toInt ≤ 516) ∨ a0.toInt = 520)); omega)
          · rw [i_lt] at c_12
            have k_16 : (487 : Int32).toInt = 487 := by decide
            unfold Mod_isDescriptor_j56
            have k_17 : (1 : Int32).toInt = 1 := by decide
            refine So.imp (t_Mod_isDescriptor_j61 (by show ((1 : Int32).toInt = 0 ∧ ¬ ((400 ≤ a0.toInt ∧ a0.toInt ≤ 431) ∨ (440 ≤ a0.toInt ∧ a0.toInt ≤ 455) ∨ (460 ≤ a0.toInt ∧ a0.toInt ≤ 468) ∨ (480 ≤ a0.toInt ∧ a0.toInt ≤ 487))) ∨ ((1 : Int32).toInt = 1 ∧ ((400 ≤ a0.toInt ∧ a0.toInt ≤ 431) ∨ (440 ≤ a0.toInt ∧ a0.toInt ≤ 455) ∨ (460 ≤ a0.toInt ∧ a0.toInt ≤ 468) ∨ (480 ≤ a0.toInt ∧ a0.toInt ≤ 487))); omega)) fun q_z h_z => ?_
            have p_18 := h_z
            exact (by show (q_z.toInt = 1 ∧ ((0 ≤ a0.toInt ∧ a0.toInt ≤ 63) ∨ (100 ≤ a0.toInt ∧ a0.toInt ≤ 115) ∨ (216 ≤ a0.toInt ∧ a0.toInt ≤ 343) ∨ ((400 ≤ a0.toInt ∧ a0.toInt ≤ 431) ∨ (440 ≤ a0.toInt ∧ a0.toInt ≤ 455) ∨ (460 ≤ a0.toInt ∧ a0.toInt ≤ 468) ∨ (480 ≤ a0.toInt ∧ a0.toInt ≤ 487)) ∨ (501 ≤ a0.toInt ∧ a0.toInt ≤ 516) ∨ a0.toInt = 520)) ∨ (q_z.toInt = 0 ∧ ¬ ((0 ≤ a0.toInt ∧ a0.toInt ≤ 63) ∨ (100 ≤ a0.toInt ∧ a0.toInt ≤ 115) ∨ (216 ≤ a0.toInt ∧ a0.toInt ≤ 343) ∨ ((400 ≤ a0.toInt ∧ a0.toInt ≤ 431) ∨ (440 ≤ a0.toInt ∧ a0.toInt ≤ 455) ∨ (460 ≤ a0.toInt ∧ a0.toInt ≤ 468) ∨ (480 ≤ a0.toInt ∧ a0.toInt ≤ 487)) ∨ (501 ≤ a0.toInt ∧ a0.toInt ≤ 516) ∨ a0.toInt = 520)); omega)
      · rw [i_lt] at c_5
        have k_19 : (460 : Int32).toInt = 460 := by decide
        refine So.ite (fun c_20 => ?_) (fun c_20 => ?_)
        · rw [i_le] at c_20
          have k_21 : (468 : Int32).toInt = 468 := by decide
          unfold Mod_isDescriptor_j56
          have k_22 : (1 : Int32).toInt = 1 := by decide
          refine So.imp (t_Mod_isDescriptor_j61 (by show ((1 : Int32).toInt = 0 ∧ ¬ ((400 ≤ a0.toInt ∧ a0.toInt ≤ 431) ∨ (440 ≤ a0.toInt ∧ a0.toInt ≤ 455) ∨ (460 ≤ a0.toInt ∧ a0.toInt ≤ 468) ∨ (480 ≤ a0.toInt ∧ a0.toInt ≤ 487))) ∨ ((1 : Int32).toInt = 1 ∧ ((400 ≤ a0.toInt ∧ a0.toInt ≤ 431) ∨ (440 ≤ a0.toInt ∧ a0.toInt ≤ 455) ∨ (460 ≤ a0.toInt ∧ a0.toInt ≤ 468) ∨ (480 ≤ a0.toInt ∧ a0.toInt ≤ 487))); omega)) fun q_z h_z => ?_
          have p_23 := h_z
          exact (by show (q_z.toInt = 1 ∧ ((0 ≤ a0.toInt ∧ a0.toInt ≤ 63) ∨ (100 ≤ a0.toInt ∧ a0.toInt ≤ 115) ∨ (216 ≤ a0.toInt ∧ a0.toInt ≤ 343) ∨ ((400 ≤ a0.toInt ∧ a0.toInt ≤ 431) ∨ (440 ≤ a0.toInt ∧ a0.toInt ≤ 455) ∨ (460 ≤ a0.toInt ∧ a0.toInt ≤ 468) ∨ (480 ≤ a0.toInt ∧ a0.toInt ≤ 487)) ∨ (501 ≤ a0.toInt ∧ a0.toInt ≤ 516) ∨ a0.toInt = 520)) ∨ (q_z.toInt = 0 ∧ ¬ ((0 ≤ a0.toInt ∧ a0.toInt ≤ 63) ∨ (100 ≤ a0.toInt ∧ a0.toInt ≤ 115) ∨ (216 ≤ a0.toInt ∧ a0.toInt ≤ 343) ∨ ((400 ≤ a0.toInt ∧ a0.toInt ≤ 431) ∨ (440 ≤ a0.toInt ∧ a0.toInt ≤ 455) ∨ (460 ≤ a0.toInt ∧ a0.toInt ≤ 468) ∨ (480 ≤ a0.toInt ∧ a0.toInt ≤ 487)) ∨ (501 ≤ a0.toInt ∧ a0.toInt ≤ 516) ∨ a0.toInt = 520)); omega)
        · rw [i_le] at c_20
          have k_24 : (468 : Int32).toInt = 468 := by decide
          unfold Mod_isDescriptor_j42
          refine So.ite (fun c_25 => ?_) (fun c_25 => ?_)
          · rw [i_lt] at c_25
            have k_26 : (480 : Int32).toInt = 480 := by decide
            unfold Mod_isDescriptor_j60
            have k_27 : (0 : Int32).toInt = 0 := by decide
            refine So.imp (t_Mod_isDescriptor_j61 (by show ((0 : Int32).toInt = 0 ∧ ¬ ((400 ≤ a0.toInt ∧ a0.toInt ≤ 431) ∨ (440 ≤ a0.toInt ∧ a0.toInt ≤ 455) ∨ (460 ≤ a0.toInt ∧ a0.toInt ≤ 468) ∨ (480 ≤ a0.toInt ∧ a0.toInt ≤ 487))) ∨ ((0 : Int32).toInt = 1 ∧ ((400 ≤ a0.toInt ∧ a0.toInt ≤ 431) ∨ (440 ≤ a0.toInt ∧ a0.toInt ≤ 455) ∨ (460 ≤ a0.toInt ∧ a0.toInt ≤ 468) ∨ (480 ≤ a0.toInt ∧ a0.toInt ≤ 487))); omega)) fun q_z h_z => ?_
            have p_28 := h_z
            exact (by show (q_z.toInt = 1 ∧ ((0 ≤ a0.toInt ∧ a0.toInt ≤ 63) ∨ (100 ≤ a0.toInt ∧ a0.toInt ≤ 115) ∨ (216 ≤ a0.toInt ∧ a0.toInt ≤ 343) ∨ ((400 ≤ a0.toInt ∧ a0.toInt ≤ 431) ∨ (440 ≤ a0.toInt ∧ a0.toInt ≤ 455) ∨ (460 ≤ a0.toInt ∧ a0.toInt ≤ 468) ∨ (480 ≤ a0.toInt ∧ a0.toInt ≤ 487)) ∨ (501 ≤ a0.toInt ∧ a0.toInt ≤ 516) ∨ a0.toInt = 520)) ∨ (q_z.toInt = 0 ∧ ¬ ((0 ≤ a0.toInt ∧ a0.toInt ≤ 63) ∨ (100 ≤ a0.toInt ∧ a0.toInt ≤ 115) ∨ (216 ≤ a0.toInt ∧ a0.toInt ≤ 343) ∨ ((400 ≤ a0.toInt ∧ a0.toInt ≤ 431) ∨ (440 ≤ a0.toInt ∧ a0.toInt ≤ 455) ∨ (460 ≤ a0.toInt ∧ a0.toInt ≤ 468) ∨ (480 ≤ a0.toInt ∧ a0.toInt ≤ 487)) ∨ (501 ≤ a0.toInt ∧ a0.toInt ≤ 516) ∨ a0.toInt = 520)); omega)
          · rw [i_lt] at c_25
            have k_29 : (480 : Int32).toInt = 480 := by decide
            refine So.ite (fun c_30 => ?_) (fun c_30 => ?_)
            · rw [i_lt] at c_30
              have k_31 : (487 : Int32).toInt = 487 := by decide
              unfold Mod_isDescriptor_j60
              have k_32 : (0 : Int32).toInt = 0 := by decide
              refine So.imp (t_Mod_isDescriptor_j61 (by show ((0 : Int32).toInt = 0 ∧ ¬ ((400 ≤ a0.toInt ∧ a0.toInt ≤ 431) ∨ (440 ≤ a0.toInt ∧ a0.toInt ≤ 455) ∨ (460 ≤ a0.toInt ∧ a0.toInt ≤ 468) ∨ (480 ≤ a0.toInt ∧ a0.toInt ≤ 487))) ∨ ((0 : Int32).toInt = 1 ∧ ((400 ≤ a0.toInt ∧ a0.toInt ≤ 431) ∨ (440 ≤ a0.toInt ∧ a0.toInt ≤ 455) ∨ (460 ≤ a0.toInt ∧ a0.toInt ≤ 468) ∨ (480 ≤ a0.toInt ∧ a0.toInt ≤ 487))); omega)) fun q_z h_z => ?_
              have p_33 := h_z
              exact (by show (q_z.toInt = 1 ∧ ((0 ≤ a0.toInt ∧ a0.toInt ≤ 63) ∨ (100 ≤ a0.toInt ∧ a0.toInt ≤ 115) ∨ (216 ≤ a0.toInt ∧ a0.toInt ≤ 343) ∨ ((400 ≤ a0.toInt ∧ a0.toInt ≤ 431) ∨ (440 ≤ a0.toInt ∧ a0.toInt ≤ 455) ∨ (460 ≤ a0.toInt ∧ a0.toInt ≤ 468) ∨ (480 ≤ a0.toInt ∧ a0.toInt ≤ 487)) ∨ (501 ≤ a0.toInt ∧ a0.toInt ≤ 516) ∨ a0.toInt = 520)) ∨ (q_z.toInt = 0 ∧ ¬ ((0 ≤ a0.toInt ∧ a0.toInt ≤ 63) ∨ (100 ≤ a0.toInt ∧ a0.toInt ≤ 115) ∨ (216 ≤ a0.toInt ∧ a0.toInt ≤ 343) ∨ ((400 ≤ a0.toInt ∧ a0.toInt ≤ 431) ∨ (440 ≤ a0.toInt ∧ a0.toInt ≤ 455) ∨ (460 ≤ a0.toInt ∧ a0.toInt ≤ 468) ∨ (480 ≤ a0.toInt ∧ a0.toInt ≤ 487)) ∨ (501 ≤ a0.toInt ∧ a0.toInt ≤ 516) ∨ a0.toInt = 520)); omega)
            · rw [i_lt] at c_30
              have k_34 : (487 : Int32).toInt = 487 := by decide
              unfold Mod_isDescriptor_j56
              have k_35 : (1 : Int32).toInt = 1 := by decide
              refine So.imp (t_Mod_isDescriptor_j61 (by show ((1 : Int32).toInt = 0 ∧ ¬ ((400 ≤ a0.toInt ∧ a0.toInt ≤ 431) ∨ (440 ≤ a0.toInt ∧ a0.toInt ≤ 455) ∨ (460 ≤ a0.toInt ∧ a0.toInt ≤ 468) ∨ (480 ≤ a0.toInt ∧ a0.toInt ≤ 487))) ∨ ((1 : Int32).toInt = 1 ∧ ((400 ≤ a0.toInt ∧ a0.toInt ≤ 431) ∨ (440 ≤ a0.toInt ∧ a0.toInt ≤ 455) ∨ (460 ≤ a0.toInt ∧ a0.toInt ≤ 468) ∨ (480 ≤ a0.toInt ∧ a0.toInt ≤ 487))); omega)) fun q_z h_z => ?_
              have p_36 := h_z
              exact (by show (q_z.toInt = 1 ∧ ((0 ≤ a0.toInt ∧ a0.toInt ≤ 63) ∨ (100 ≤ a0.toInt ∧ a0.toInt ≤ 115) ∨ (216 ≤ a0.toInt ∧ a0.toInt ≤ 343) ∨ ((400 ≤ a0.toInt ∧ a0.toInt ≤ 431) ∨ (440 ≤ a0.toInt ∧ a0.toInt ≤ 455) ∨ (460 ≤ a0.toInt ∧ a0.toInt ≤ 468) ∨ (480 ≤ a0.toInt ∧ a0.toInt ≤ 487)) ∨ (501 ≤ a0.toInt ∧ a0.toInt ≤ 516) ∨ a0.toInt = 520)) ∨ (q_z.toInt = 0 ∧ ¬ ((0 ≤ a0.toInt ∧ a0.toInt ≤ 63) ∨ (100 ≤ a0.toInt ∧ a0.toInt ≤ 115) ∨ (216 ≤ a0.toInt ∧ a0.toInt ≤ 343) ∨ ((400 ≤ a0.toInt ∧ a0.toInt ≤ 431) ∨ (440 ≤ a0.toInt ∧ a0.toInt ≤ 455) ∨ (460 ≤ a0.toInt ∧ a0.toInt ≤ 468) ∨ (480 ≤ a0.toInt ∧ a0.toInt ≤ 487)) ∨ (501 ≤ a0.toInt ∧ a0.toInt ≤ 516) ∨ a0.toInt = 520)); omega)
    · rw [i_lt] at c_3
      have k_37 : (440 : Int32).toInt = 440 := by decide
      refine So.ite (fun c_38 => ?_) (fun c_38 => ?_)
      · rw [i_le] at c_38
        have k_39 : (455 : Int32).toInt = 455 := by decide
        unfold Mod_isDescriptor_j56
        have k_40 : (1 : Int32).toInt = 1 := by decide
        refine So.imp (t_Mod_isDescriptor_j61 (by show ((1 : Int32).toInt = 0 ∧ ¬ ((400 ≤ a0.toInt ∧ a0.toInt ≤ 431) ∨ (440 ≤ a0.toInt ∧ a0.toInt ≤ 455) ∨ (460 ≤ a0.toInt ∧ a0.toInt ≤ 468) ∨ (480 ≤ a0.toInt ∧ a0.toInt ≤ 487))) ∨ ((1 : Int32).toInt = 1 ∧ ((400 ≤ a0.toInt ∧ a0.toInt ≤ 431) ∨ (440 ≤ a0.toInt ∧ a0.toInt ≤ 455) ∨ (460 ≤ a0.toInt ∧ a0.toInt ≤ 468) ∨ (480 ≤ a0.toInt ∧ a0.toInt ≤ 487))); omega)) fun q_z h_z => ?_
        have p_41 := h_z
        exact (by show (q_z.toInt = 1 ∧ ((0 ≤ a0.toInt ∧ a0.toInt ≤ 63) ∨ (100 ≤ a0.toInt ∧ a0.toInt ≤ 115) ∨ (216 ≤ a0.toInt ∧ a0.toInt ≤ 343) ∨ ((400 ≤ a0.toInt ∧ a0.toInt ≤ 431) ∨ (440 ≤ a0.toInt ∧ a0.toInt ≤ 455) ∨ (460 ≤ a0.toInt ∧ a0.toInt ≤ 468) ∨ (480 ≤ a0.toInt ∧ a0.toInt ≤ 487)) ∨ (501 ≤ a0.toInt ∧ a0.toInt ≤ 516) ∨ a0.toInt = 520)) ∨ (q_z.toInt = 0 ∧ ¬ ((0 ≤ a0.toInt ∧ a0.toInt ≤ 63) ∨ (100 ≤ a0.toInt ∧ a0.toInt ≤ 115) ∨ (216 ≤ a0.toInt ∧ a0.toInt ≤ 343) ∨ ((400 ≤ a0.toInt ∧ a0.toInt ≤ 431) ∨ (440 ≤ a0.toInt ∧ a0.toInt ≤ 455) ∨ (460 ≤ a0.toInt ∧ a0.toInt ≤ 468) ∨ (480 ≤ a0.toInt ∧ a0.toInt ≤ 487)) ∨ (501 ≤ a0.toInt ∧ a0.toInt ≤ 516) ∨ a0.toInt = 520)); omega)
      · rw [i_le] at c_38
        have k_42 : (455 : Int32).toInt = 455 := by decide
        unfold Mod_isDescriptor_j28
        refine So.ite (fun c_43 => ?_) (fun c_43 => ?_)
        · rw [i_lt] at c_43
          have k_44 : (460 : Int32).toInt = 460 := by decide
          unfold Mod_isDescriptor_j42
          refine So.ite (fun c_45 => ?_) (fun c_45 => ?_)
          · rw [i_lt] at c_45
            have k_46 : (480 : Int32).toInt = 480 := by decide
            unfold Mod_isDescriptor_j60
            have k_47 : (0 : Int32).toInt = 0 := by decide
            refine So.imp (t_Mod_isDescriptor_j61 (by show ((0 : Int32).toInt = 0 ∧ ¬ ((400 ≤ a0.toInt ∧ a0.toInt ≤ 431) ∨ (440 ≤ a0.toInt ∧ a0.toInt ≤ 455) ∨ (460 ≤ a0.toInt ∧ a0.toInt ≤ 468) ∨ (480 ≤ a0.toInt ∧ a0.toInt ≤ 487))) ∨ ((0 : Int32).toInt = 1 ∧ ((400 ≤ a0.toInt ∧ a0.toInt ≤ 431) ∨ (440 ≤ a0.toInt ∧ a0.toInt ≤ 455) ∨ (460 ≤ a0.toInt ∧ a0.toInt ≤ 468) ∨ (480 ≤ a0.toInt ∧ a0.toInt ≤ 487))); omega)) fun q_z h_z => ?_
            have p_48 := h_z
            exact (by show (q_z.toInt = 1 ∧ ((0 ≤ a0.toInt ∧ a0.toInt ≤ 63) ∨ (100 ≤ a0.toInt ∧ a0.toInt ≤ 115) ∨ (216 ≤ a0.toInt ∧ a0.toInt ≤ 343) ∨ ((400 ≤ a0.toInt ∧ a0.toInt ≤ 431) ∨ (440 ≤ a0.toInt ∧ a0.toInt ≤ 455) ∨ (460 ≤ a0.toInt ∧ a0.toInt ≤ 468) ∨ (480 ≤ a0.toInt ∧ a0.toInt ≤ 487)) ∨ (501 ≤ a0.toInt ∧ a0.toInt ≤ 516) ∨ a0.toInt = 520)) ∨ (q_z.toInt = 0 ∧ ¬ ((0 ≤ a0.toInt ∧ a0.toInt ≤ 63) ∨ (100 ≤ a0.toInt ∧ a0.toInt ≤ 115) ∨ (216 ≤ a0.toInt ∧ a0.toInt ≤ 343) ∨ ((400 ≤ a0.toInt ∧ a0.toInt ≤ 431) ∨ (440 ≤ a0.toInt ∧ a0.toInt ≤ 455) ∨ (460 ≤ a0.toInt ∧ a0.toInt ≤ 468) ∨ (480 ≤ a0.toInt ∧ a0.toInt ≤ 487)) ∨ (501 ≤ a0.toInt ∧ a0.toInt ≤ 516) ∨ a0.toInt = 520)); omega)
          · rw [i_lt] at c_45
            have k_49 : (480 : Int32).toInt = 480 := by decide
            refine So.ite (fun c_50 => ?_) (fun c_50 => ?_)
            · rw [i_lt] at c_50
              have k_51 : (487 : Int32).toInt = 487 := by decide
              unfold Mod_isDescriptor_j60
              have k_52 : (0 : Int32).toInt = 0 := by decide
              refine So.imp (t_Mod_isDescriptor_j61 (by show ((0 : Int32).toInt = 0 ∧ ¬ ((400 ≤ a0.toInt ∧ a0.toInt ≤ 431) ∨ (440 ≤ a0.toInt ∧ a0.toInt ≤ 455) ∨ (460 ≤ a0.toInt ∧ a0.toInt ≤ 468) ∨ (480 ≤ a0.toInt ∧ a0.toInt ≤ 487))) ∨ ((0 : Int32).toInt = 1 ∧ ((400 ≤ a0.toInt ∧ a0.toInt ≤ 431) ∨ (440 ≤ a0.toInt ∧ a0.toInt ≤ 455) ∨ (460 ≤ a0.toInt ∧ a0.toInt ≤ 468) ∨ (480 ≤ a0.toInt ∧ a0.toInt ≤ 487))); omega)) fun q_z h_z => ?_
              have p_53 := h_z
              exact (by show (q_z.toInt = 1 ∧ ((0 ≤ a0.toInt ∧ a0.toInt ≤ 63) ∨ (100 ≤ a0.toInt ∧ a0.toInt ≤ 115) ∨ (216 ≤ a0.toInt ∧ a0.toInt ≤ 343) ∨ ((400 ≤ a0.toInt ∧ a0.toInt ≤ 431) ∨ (440 ≤ a0.toInt ∧ a0.toInt ≤ 455) ∨ (460 ≤ a0.toInt ∧ a0.toInt ≤ 468) ∨ (480 ≤ a0.toInt ∧ a0.toInt ≤ 487)) ∨ (501 ≤ a0.toInt ∧ a0.toInt ≤ 516) ∨ a0.toInt = 520)) ∨ (q_z.toInt = 0 ∧ ¬ ((0 ≤ a0.toInt ∧ a0.toInt ≤ 63) ∨ (100 ≤ a0.toInt ∧ a0.toInt ≤ 115) ∨ (216 ≤ a0.toInt ∧ a0.toInt ≤ 343) ∨ ((400 ≤ a0.toInt ∧ a0.toInt ≤ 431) ∨ (440 ≤ a0.toInt ∧ a0.toInt ≤ 455) ∨ (460 ≤ a0.toInt ∧ a0.toInt ≤ 468) ∨ (480 ≤ a0.toInt ∧ a0.toInt ≤ 487)) ∨ (501 ≤ a0.toInt ∧ a0.toInt ≤ 516) ∨ a0.toInt = 520)); omega)
            · rw [i_lt] at c_50
              have k_54 : (487 : Int32).toInt = 487 := by decide
              unfold Mod_isDescriptor_j56
              have k_55 : (1 : Int32).toInt = 1 := by decide
              refine So.imp (t_Mod_isDescriptor_j61 (by show ((1 : Int32).toInt = 0 ∧ ¬ ((400 ≤ a0.toInt ∧ a0.toInt ≤ 431) ∨ (440 ≤ a0.toInt ∧ a0.toInt ≤ 455) ∨ (460 ≤ a0.toInt ∧ a0.toInt ≤ 468) ∨ (480 ≤ a0.toInt ∧ a0.toInt ≤ 487))) ∨ ((1 : Int32).toInt = 1 ∧ ((400 ≤ a0.toInt ∧ a0.toInt ≤ 431) ∨ (440 ≤ a0.toInt ∧ a0.toInt ≤ 455) ∨ (460 ≤ a0.toInt ∧ a0.toInt ≤ 468) ∨ (480 ≤ a0.toInt ∧ a0.toInt ≤ 487))); omega)) fun q_z h_z => ?_
              have p_56 := h_z
              exact (by show (q_z.toInt = 1 ∧ ((0 ≤ a0.toInt ∧ a0.toInt ≤ 63) ∨ (100 ≤ a0.toInt ∧ a0.toInt ≤ 115) ∨ (216 ≤ a0.toInt ∧ a0.toInt ≤ 343) ∨ ((400 ≤ a0.toInt ∧ a0.toInt ≤ 431) ∨ (440 ≤ a0.toInt ∧ a0.toInt ≤ 455) ∨ (460 ≤ a0.toInt ∧ a0.toInt ≤ 468) ∨ (480 ≤ a0.toInt ∧ a0.toInt ≤ 487)) ∨ (501 ≤ a0.toInt ∧ a0.toInt ≤ 516) ∨ a0.toInt = 520)) ∨ (q_z.toInt = 0 ∧ ¬ ((0 ≤ a0.toInt ∧ a0.toInt ≤ 63) ∨ (100 ≤ a0.toInt ∧ a0.toInt ≤ 115) ∨ (216 ≤ a0.toInt ∧ a0.toInt ≤ 343) ∨ ((400 ≤ a0.toInt ∧ a0.toInt ≤ 431) ∨ (440 ≤ a0.toInt ∧ a0.toInt ≤ 455) ∨ (460 ≤ a0.toInt ∧ a0.toInt ≤ 468) ∨ (480 ≤ a0.toInt ∧ a0.toInt ≤ 487)) ∨ (501 ≤ a0.toInt ∧ a0.toInt ≤ 516) ∨ a0.toInt = 520)); omega)
        · rw [i_lt] at c_43
          have k_57 : (460 : Int32).toInt = 460 := by decide
          refine So.ite (fun c_58 => ?_) (fun c_58 => ?_)
          · rw [i_le] at c_58
            have k_59 : (468 : Int32).toInt = 468 := by decide
            unfold Mod_isDescriptor_j56
            have k_60 : (1 : Int32).toInt = 1 := by decide
            refine So.imp (t_Mod_isDescriptor_j61 (by show ((1 : Int32).toInt = 0 ∧ ¬ ((400 ≤ a0.toInt ∧ a0.toInt ≤ 431) ∨ (440 ≤ a0.toInt ∧ a0.toInt ≤ 455) ∨ (460 ≤ a0.toInt ∧ a0.toInt ≤ 468) ∨ (480 ≤ a0.toInt ∧ a0.toInt ≤ 487))) ∨ ((1 : Int32).toInt = 1 ∧ ((400 ≤ a0.toInt ∧ a0.toInt ≤ 431) ∨ (440 ≤ a0.toInt ∧ a0.toInt ≤ 455) ∨ (460 ≤ a0.toInt ∧ a0.toInt ≤ 468) ∨ (480 ≤ a0.toInt ∧ a0.toInt ≤ 487))); omega)) fun q_z h_z => ?_
            have p_61 := h_z
            exact (by show (q_z.toInt = 1 ∧ ((0 ≤ a0.toInt ∧ a0.toInt ≤ 63) ∨ (100 ≤ a0.toInt ∧ a0.toInt ≤ 115) ∨ (216 ≤ a0.toInt ∧ a0.toInt ≤ 343) ∨ ((400 ≤ a0.toInt ∧ a0.toInt ≤ 431) ∨ (440 ≤ a0.toInt ∧ a0.toInt ≤ 455) ∨ (460 ≤ a0.toInt ∧ a0.toInt ≤ 468) ∨ (480 ≤ a0.toInt ∧ a0.toInt ≤ 487)) ∨ (501 ≤ a0.toInt ∧ a0.toInt ≤ 516) ∨ a0.toInt = 520)) ∨ (q_z.toInt = 0 ∧ ¬ ((0 ≤ a0.toInt ∧ a0.toInt ≤ 63) ∨ (100 ≤ a0.toInt ∧ a0.toInt ≤ 115) ∨ (216 ≤ a0.toInt ∧ a0.toInt ≤ 343) ∨ ((400 ≤ a0.toInt ∧ a0.toInt ≤ 431) ∨ (440 ≤ a0.toInt ∧ a0.toInt ≤ 455) ∨ (460 ≤ a0.toInt ∧ a0.toInt ≤ 468) ∨ (480 ≤ a0.toInt ∧ a0.toInt ≤ 487)) ∨ (501 ≤ a0.toInt ∧ a0.toInt ≤ 516) ∨ a0.toInt = 520)); omega)
          · rw [i_le] at c_58
            have k_62 : (468 : Int32).toInt = 468 := by decide
            unfold Mod_isDescriptor_j42
            refine So.ite (fun c_63 => ?_) (fun c_63 => ?_)
            · rw [i_lt] at c_63
              have k_64 : (480 : Int32).toInt = 480 := by decide
              unfold Mod_isDescriptor_j60
              have k_65 : (0 : Int32).toInt = 0 := by decide
              refine So.imp (t_Mod_isDescriptor_j61 (by show ((0 : Int32).toInt = 0 ∧ ¬ ((400 ≤ a0.toInt ∧ a0.toInt ≤ 431) ∨ (440 ≤ a0.toInt ∧ a0.toInt ≤ 455) ∨ (460 ≤ a0.toInt ∧ a0.toInt ≤ 468) ∨ (480 ≤ a0.toInt ∧ a0.toInt ≤ 487))) ∨ ((0 : Int32).toInt = 1 ∧ ((400 ≤ a0.toInt ∧ a0.toInt ≤ 431) ∨ (440 ≤ a0.toInt ∧ a0.toInt ≤ 455) ∨ (460 ≤ a0.toInt ∧ a0.toInt ≤ 468) ∨ (480 ≤ a0.toInt ∧ a0.toInt ≤ 487))); omega)) fun q_z h_z => ?_
              have p_66 := h_z
              exact (by show (q_z.toInt = 1 ∧ ((0 ≤ a0.toInt ∧ a0.toInt ≤ 63) ∨ (100 ≤ a0.toInt ∧ a0.toInt ≤ 115) ∨ (216 ≤ a0.toInt ∧ a0.toInt ≤ 343) ∨ ((400 ≤ a0.toInt ∧ a0.toInt ≤ 431) ∨ (440 ≤ a0.toInt ∧ a0.toInt ≤ 455) ∨ (460 ≤ a0.toInt ∧ a0.toInt ≤ 468) ∨ (480 ≤ a0.toInt ∧ a0.toInt ≤ 487)) ∨ (501 ≤ a0.toInt ∧ a0.toInt ≤ 516) ∨ a0.toInt = 520)) ∨ (q_z.toInt = 0 ∧ ¬ ((0 ≤ a0.toInt ∧ a0.toInt ≤ 63) ∨ (100 ≤ a0.toInt ∧ a0.toInt ≤ 115) ∨ (216 ≤ a0.toInt ∧ a0.toInt ≤ 343) ∨ ((400 ≤ a0.toInt ∧ a0.toInt ≤ 431) ∨ (440 ≤ a0.toInt ∧ a0.toInt ≤ 455) ∨ (460 ≤ a0.toInt ∧ a0.toInt ≤ 468) ∨ (480 ≤ a0.toInt ∧ a0.toInt ≤ 487)) ∨ (501 ≤ a0.toInt ∧ a0.toInt ≤ 516) ∨ a0.toInt = 520)); omega)
            · rw [i_lt] at c_63
              have k_67 : (480 : Int32).toInt = 480 := by decide
              refine So.ite (fun c_68 => ?_) (fun c_68 => ?_)
              · rw [i_lt] at c_68
                have k_69 : (487 : Int32).toInt = 487 := by decide
                unfold Mod_isDescriptor_j60
                have k_70 : (0 : Int32).toInt = 0 := by decide
                refine So.imp (t_Mod_isDescriptor_j61 (by show ((0 : Int32).toInt = 0 ∧ ¬ ((400 ≤ a0.toInt ∧ a0.toInt ≤ 431) ∨ (440 ≤ a0.toInt ∧ a0.toInt ≤ 455) ∨ (460 ≤ a0.toInt ∧ a0.toInt ≤ 468) ∨ (480 ≤ a0.toInt ∧ a0.toInt ≤ 487))) ∨ ((0 : Int32).toInt = 1 ∧ ((400 ≤ a0.toInt ∧ a0.toInt ≤ 431) ∨ (440 ≤ a0.toInt ∧ a0.toInt ≤ 455) ∨ (460 ≤ a0.toInt ∧ a0.toInt ≤ 468) ∨ (480 ≤ a0.toInt ∧ a0.toInt ≤ 487))); omega)) fun q_z h_z => ?_
                have p_71 := h_z
                exact (by show (q_z.toInt = 1 ∧ ((0 ≤ a0.toInt ∧ a0.toInt ≤ 63) ∨ (100 ≤ a0.toInt ∧ a0.toInt ≤ 115) ∨ (216 ≤ a0.toInt ∧ a0.toInt ≤ 343) ∨ ((400 ≤ a0.toInt ∧ a0.toInt ≤ 431) ∨ (440 ≤ a0.toInt ∧ a0.toInt ≤ 455) ∨ (460 ≤ a0.toInt ∧ a0.toInt ≤ 468) ∨ (480 ≤ a0.toInt ∧ a0.toInt ≤ 487)) ∨ (501 ≤ a0.toInt ∧ a0.toInt ≤ 516) ∨ a0.toInt = 520)) ∨ (q_z.toInt = 0 ∧ ¬ ((0 ≤ a0.toInt ∧ a0.toInt ≤ 63) ∨ (100 ≤ a0.toInt ∧ a0.toInt ≤ 115) ∨ (216 ≤ a0.toInt ∧ a0.toInt ≤ 343) ∨ ((400 ≤ a0.toInt ∧ a0.toInt ≤ 431) ∨ (440 ≤ a0.toInt ∧ a0.toInt ≤ 455) ∨ (460 ≤ a0.toInt ∧ a0.toInt ≤ 468) ∨ (480 ≤ a0.toInt ∧ a0.toInt ≤ 487)) ∨ (501 ≤ a0.toInt ∧ a0.toInt ≤ 516) ∨ a0.toInt = 520)); omega)
              · rw [i_lt] at c_68
                have k_72 : (487 : Int32).toInt = 487 := by decide
                unfold Mod_isDescriptor_j56
                have k_73 : (1 : Int32).toInt = 1 := by decide
                refine So.imp (t_Mod_isDescriptor_j61 (by show ((1 : Int32).toInt = 0 ∧ ¬ ((400 ≤ a0.toInt ∧ a0.toInt ≤ 431) ∨ (440 ≤ a0.toInt ∧ a0.toInt ≤ 455) ∨ (460 ≤ a0.toInt ∧ a0.toInt ≤ 468) ∨ (480 ≤ a0.toInt ∧ a0.toInt ≤ 487))) ∨ ((1 : Int32).toInt = 1 ∧ ((400 ≤ a0.toInt ∧ a0.toInt ≤ 431) ∨ (440 ≤ a0.toInt ∧ a0.toInt ≤ 455) ∨ (460 ≤ a0.toInt ∧ a0.toInt ≤ 468) ∨ (480 ≤ a0.toInt ∧ a0.toInt ≤ 487))); omega)) fun q_z h_z => ?_
                have p_74 := h_z
                exact (by show (q_z.toInt = 1 ∧ ((0 ≤ a0.toInt ∧ a0.toInt ≤ 63) ∨ (100 ≤ a0.toInt ∧ a0.toInt ≤ 115) ∨ (216 ≤ a0.toInt ∧ a0.toInt ≤ 343) ∨ ((400 ≤ a0.toInt ∧ a0.toInt ≤ 431) ∨ (440 ≤ a0.toInt ∧ a0.toInt ≤ 455) ∨ (460 ≤ a0.toInt ∧ a0.toInt ≤ 468) ∨ (480 ≤ a0.toInt ∧ a0.toInt ≤ 487)) ∨ (501 ≤ a0.toInt ∧ a0.toInt ≤ 516) ∨ a0.toInt = 520)) ∨ (q_z.toInt = 0 ∧ ¬ ((0 ≤ a0.toInt ∧ a0.toInt ≤ 63) ∨ (100 ≤ a0.toInt ∧ a0.toInt ≤ 115) ∨ (216 ≤ a0.toInt ∧ a0.toInt ≤ 343) ∨ ((400 ≤ a0.toInt ∧ a0.toInt ≤ 431) ∨ (440 ≤ a0.toInt ∧ a0.toInt ≤ 455) ∨ (460 ≤ a0.toInt ∧ a0.toInt ≤ 468) ∨ (480 ≤ a0.toInt ∧ a0.toInt ≤ 487)) ∨ (501 ≤ a0.toInt ∧ a0.toInt ≤ 516) ∨ a0.toInt = 520)); omega)
  · rw [i_lt] at c_1
    have k_75 : (400 : Int32).toInt = 400 := by decide
    refine So.ite (fun c_76 => ?_) (fun c_76 => ?_)
    · rw [i_le] at c_76
      have k_77 : (431 : Int32).toInt = 431 := by decide
      unfold Mod_isDescriptor_j56
      have k_78 : (1 : Int32).toInt = 1 := by decide
      refine So.imp (t_Mod_isDescriptor_j61 (by show ((1 : Int32).toInt = 0 ∧ ¬ ((400 ≤ a0.toInt ∧ a0.toInt ≤ 431) ∨ (440 ≤ a0.toInt ∧ a0.toInt ≤ 455) ∨ (460 ≤ a0.toInt ∧ a0.toInt ≤ 468) ∨ (480 ≤ a0.toInt ∧ a0.toInt ≤ 487))) ∨ ((1 : Int32).toInt = 1 ∧ ((400 ≤ a0.toInt ∧ a0.toInt ≤ 431) ∨ (440 ≤ a0.toInt ∧ a0.toInt ≤ 455) ∨ (460 ≤ a0.toInt ∧ a0.toInt ≤ 468) ∨ (480 ≤ a0.toInt ∧ a0.toInt ≤ 487))); omega)) fun q_z h_z => ?_
      have p_79 := h_z
      exact (by show (q_z.toInt = 1 ∧ ((0 ≤ a0.toInt ∧ a0.toInt ≤ 63) ∨ (100 ≤ a0.toInt ∧ a0.toInt ≤ 115) ∨ (216 ≤ a0.toInt ∧ a0.toInt ≤ 343) ∨ ((400 ≤ a0.toInt ∧ a0.toInt ≤ 431) ∨ (440 ≤ a0.toInt ∧ a0.toInt ≤ 455) ∨ (460 ≤ a0.toInt ∧ a0.toInt ≤ 468) ∨ (480 ≤ a0.toInt ∧ a0.toInt ≤ 487)) ∨ (501 ≤ a0.toInt ∧ a0.toInt ≤ 516) ∨ a0.toInt = 520)) ∨ (q_z.toInt = 0 ∧ ¬ ((0 ≤ a0.toInt ∧ a0.toInt ≤ 63) ∨ (100 ≤ a0.toInt ∧ a0.toInt ≤ 115) ∨ (216 ≤ a0.toInt ∧ a0.toInt ≤ 343) ∨ ((400 ≤ a0.toInt ∧ a0.toInt ≤ 431) ∨ (440 ≤ a0.toInt ∧ a0.toInt ≤ 455) ∨ (460 ≤ a0.toInt ∧ a0.toInt ≤ 468) ∨ (480 ≤ a0.toInt ∧ a0.toInt ≤ 487)) ∨ (501 ≤ a0.toInt ∧ a0.toInt ≤ 516) ∨ a0.toInt = 520)); omega)
    · rw [i_le] at c_76
      have k_80 : (431 : Int32).toInt = 431 := by decide
      unfold Mod_isDescriptor_j14
      refine So.ite (fun c_81 => ?_) (fun c_81 => ?_)
      · rw [i_lt] at c_81
        have k_82 : (440 : Int32).toInt = 440 := by decide
        unfold Mod_isDescriptor_j28
        refine So.ite (fun c_83 => ?_) (fun c_83 => ?_)
        · rw [i_lt] at c_83
          have k_84 : (460 : Int32).toInt = 460 := by decide
          unfold Mod_isDescriptor_j42
          refine So.ite (fun c_85 => ?_) (fun c_85 => ?_)
          · rw [i_lt] at c_85
            have k_86 : (480 : Int32).toInt = 480 := by decide
            unfold Mod_isDescriptor_j60
            have k_87 : (0 : Int32).toInt = 0 := by decide
            refine So.imp (t_Mod_isDescriptor_j61 (by show ((0 : Int32).toInt = 0 ∧ ¬ ((400 ≤ a0.toInt ∧ a0.toInt ≤ 431) ∨ (440 ≤ a0.toInt ∧ a0.toInt ≤ 455) ∨ (460 ≤ a0.toInt ∧ a0.toInt ≤ 468) ∨ (480 ≤ a0.toInt ∧ a0.toInt ≤ 487))) ∨ ((0 : Int32).toInt = 1 ∧ ((400 ≤ a0.toInt ∧ a0.toInt ≤ 431) ∨ (440 ≤ a0.toInt ∧ a0.toInt ≤ 455) ∨ (460 ≤ a0.toInt ∧ a0.toInt ≤ 468) ∨ (480 ≤ a0.toInt ∧ a0.toInt ≤ 487))); omega)) fun q_z h_z => ?_
            have p_88 := h_z
            exact (by show (q_z.toInt = 1 ∧ ((0 ≤ a0.toInt ∧ a0.toInt ≤ 63) ∨ (100 ≤ a0.toInt ∧ a0.toInt ≤ 115) ∨ (216 ≤ a0.toInt ∧ a0.toInt ≤ 343) ∨ ((400 ≤ a0.toInt ∧ a0.toInt ≤ 431) ∨ (440 ≤ a0.toInt ∧ a0.toInt ≤ 455) ∨ (460 ≤ a0.toInt ∧ a0.toInt ≤ 468) ∨ (480 ≤ a0.toInt ∧ a0.toInt ≤ 487)) ∨ (501 ≤ a0.toInt ∧ a0.toInt ≤ 516) ∨ a0.toInt = 520)) ∨ (q_z.toInt = 0 ∧ ¬ ((0 ≤ a0.toInt ∧ a0.toInt ≤ 63) ∨ (100 ≤ a0.toInt ∧ a0.toInt ≤ 115) ∨ (216 ≤ a0.toInt ∧ a0.toInt ≤ 343) ∨ ((400 ≤ a0.toInt ∧ a0.toInt ≤ 431) ∨ (440 ≤ a0.toInt ∧ a0.toInt ≤ 455) ∨ (460 ≤ a0.toInt ∧ a0.toInt ≤ 468) ∨ (480 ≤ a0.toInt ∧ a0.toInt ≤ 487)) ∨ (501 ≤ a0.toInt ∧ a0.toInt ≤ 516) ∨ a0.toInt = 520)); omega)
          · rw [i_lt] at c_85
            have k_89 : (480 : Int32).toInt = 480 := by decide
            refine So.ite (fun c_90 => ?_) (fun c_90 => ?_)
            · rw [i_lt] at c_90
              have k_91 : (487 : Int32).toInt = 487 := by decide
              unfold Mod_isDescriptor_j60
              have k_92 : (0 : Int32).toInt = 0 := by decide
              refine So.imp (t_Mod_isDescriptor_j61 (by show ((0 : Int32).toInt = 0 ∧ ¬ ((400 ≤ a0.toInt ∧ a0.toInt ≤ 431) ∨ (440 ≤ a0.toInt ∧ a0.toInt ≤ 455) ∨ (460 ≤ a0.toInt ∧ a0.toInt ≤ 468) ∨ (480 ≤ a0.toInt ∧ a0.toInt ≤ 487))) ∨ ((0 : Int32).toInt = 1 ∧ ((400 ≤ a0.toInt ∧ a0.toInt ≤ 431) ∨ (440 ≤ a0.toInt ∧ a0.toInt ≤ 455) ∨ (460 ≤ a0.toInt ∧ a0.toInt ≤ 468) ∨ (480 ≤ a0.toInt ∧ a0.toInt ≤ 487))); omega)) fun q_z h_z => ?_
              have p_93 := h_z
              exact (by show (q_z.toInt = 1 ∧ ((0 ≤ a0.toInt ∧ a0.toInt ≤ 63) ∨ (100 ≤ a0.toInt ∧ a0.toInt ≤ 115) ∨ (216 ≤ a0.toInt ∧ a0.toInt ≤ 343) ∨ ((400 ≤ a0.toInt ∧ a0.toInt ≤ 431) ∨ (440 ≤ a0.toInt ∧ a0.toInt ≤ 455) ∨ (460 ≤ a0.toInt ∧ a0.toInt ≤ 468) ∨ (480 ≤ a0.toInt ∧ a0.toInt ≤ 487)) ∨ (501 ≤ a0.toInt ∧ a0.toInt ≤ 516) ∨ a0.toInt = 520)) ∨ (q_z.toInt = 0 ∧ ¬ ((0 ≤ a0.toInt ∧ a0.toInt ≤ 63) ∨ (100 ≤ a0.toInt ∧ a0.toInt ≤ 115) ∨ (216 ≤ a0.toInt ∧ a0.toInt ≤ 343) ∨ ((400 ≤ a0.toInt ∧ a0.toInt ≤ 431) ∨ (440 ≤ a0.toInt ∧ a0.toInt ≤ 455) ∨ (460 ≤ a0.toInt ∧ a0.toInt ≤ 468) ∨ (480 ≤ a0.toInt ∧ a0.toInt ≤ 487)) ∨ (501 ≤ a0.toInt ∧ a0.toInt ≤ 516) ∨ a0.toInt = 520)); omega)
            · rw [i_lt] at c_90
              have k_94 : (487 : Int32).toInt = 487 := by decide
              unfold Mod_isDescriptor_j56
              have k_95 : (1 : Int32).toInt = 1 := by decide
              refine So.imp (t_Mod_isDescriptor_j61 (by show ((1 : Int32).toInt = 0 ∧ ¬ ((400 ≤ a0.toInt ∧ a0.toInt ≤ 431) ∨ (440 ≤ a0.toInt ∧ a0.toInt ≤ 455) ∨ (460 ≤ a0.toInt ∧ a0.toInt ≤ 468) ∨ (480 ≤ a0.toInt ∧ a0.toInt ≤ 487))) ∨ ((1 : Int32).toInt = 1 ∧ ((400 ≤ a0.toInt ∧ a0.toInt ≤ 431) ∨ (440 ≤ a0.toInt ∧ a0.toInt ≤ 455) ∨ (460 ≤ a0.toInt ∧ a0.toInt ≤ 468) ∨ (480 ≤ a0.toInt ∧ a0.toInt ≤ 487))); omega)) fun q_z h_z => ?_
              have p_96 := h_z
              exact (by show (q_z.toInt = 1 ∧ ((0 ≤ a0.toInt ∧ a0.toInt ≤ 63) ∨ (100 ≤ a0.toInt ∧ a0.toInt ≤ 115) ∨ (216 ≤ a0.toInt ∧ a0.toInt ≤ 343) ∨ ((400 ≤ a0.toInt ∧ a0.toInt ≤ 431) ∨ (440 ≤ a0.toInt ∧ a0.toInt ≤ 455) ∨ (460 ≤ a0.toInt ∧ a0.toInt ≤ 468) ∨ (480 ≤ a0.toInt ∧ a0.toInt ≤ 487)) ∨ (501 ≤ a0.toInt ∧ a0.toInt ≤ 516) ∨ a0.toInt = 520)) ∨ (q_z.toInt = 0 ∧ ¬ ((0 ≤ a0.toInt ∧ a0.toInt ≤ 63) ∨ (100 ≤ a0.toInt ∧ a0.toInt ≤ 115) ∨ (216 ≤ a0.toInt ∧ a0.toInt ≤ 343) ∨ ((400 ≤ a0.toInt ∧ a0.toInt ≤ 431) ∨ (440 ≤ a0.toInt ∧ a0.toInt ≤ 455) ∨ (460 ≤ a0.toInt ∧ a0.toInt ≤ 468) ∨ (480 ≤ a0.toInt ∧ a0.toInt ≤ 487)) ∨ (501 ≤ a0.toInt ∧ a0.toInt ≤ 516) ∨ a0.toInt = 520)); omega)
        · rw [i_lt] at c_83
          have k_97 : (460 : Int32).toInt = 460 := by decide
          refine So.ite (fun c_98 => ?_) (fun c_98 => ?_)
          · rw [i_le] at c_98
            have k_99 : (468 : Int32).toInt = 468 := by decide
            unfold Mod_isDescriptor_j56
            have k_100 : (1 : Int32).toInt = 1 := by decide
            refine So.imp (t_Mod_isDescriptor_j61 (by show ((1 : Int32).toInt = 0 ∧ ¬ ((400 ≤ a0.toInt ∧ a0.toInt ≤ 431) ∨ (440 ≤ a0.toInt ∧ a0.toInt ≤ 455) ∨ (460 ≤ a0.toInt ∧ a0.toInt ≤ 468) ∨ (480 ≤ a0.toInt ∧ a0.toInt ≤ 487))) ∨ ((1 : Int32).toInt = 1 ∧ ((400 ≤ a0.toInt ∧ a0.toInt ≤ 431) ∨ (440 ≤ a0.toInt ∧ a0.toInt ≤ 455) ∨ (460 ≤ a0.toInt ∧ a0.toInt ≤ 468) ∨ (480 ≤ a0.toInt ∧ a0.toInt ≤ 487))); omega)) fun q_z h_z => ?_
            have p_101 := h_z
            exact (by show (q_z.toInt = 1 ∧ ((0 ≤ a0.toInt ∧ a0.toInt ≤ 63) ∨ (100 ≤ a0.toInt ∧ a0.toInt ≤ 115) ∨ (216 ≤ a0.toInt ∧ a0.toInt ≤ 343) ∨ ((400 ≤ a0.toInt ∧ a0.toInt ≤ 431) ∨ (440 ≤ a0.toInt ∧ a0.toInt ≤ 455) ∨ (460 ≤ a0.toInt ∧ a0.toInt ≤ 468) ∨ (480 ≤ a0.toInt ∧ a0.toInt ≤ 487)) ∨ (501 ≤ a0.toInt ∧ a0.toInt ≤ 516) ∨ a0.toInt = 520)) ∨ (q_z.toInt = 0 ∧ ¬ ((0 ≤ a0.toInt ∧ a0.toInt ≤ 63) ∨ (100 ≤ a0.toInt ∧ a0.toInt ≤ 115) ∨ (216 ≤ a0.toInt ∧ a0.toInt ≤ 343) ∨ ((400 ≤ a0.toInt ∧ a0.toInt ≤ 431) ∨ (440 ≤ a0.toInt ∧ a0.toInt ≤ 455) ∨ (460 ≤ a0.toInt ∧ a0.toInt ≤ 468) ∨ (480 ≤ a0.toInt ∧ a0.toInt ≤ 487)) ∨ (501 ≤ a0.toInt ∧ a0.toInt ≤ 516) ∨ a0.toInt = 520)); omega)
          · rw [i_le] at c_98
            have k_102 : (468 : Int32).toInt = 468 := by decide
            unfold Mod_isDescriptor_j42
            refine So.ite (fun c_103 => ?_) (fun c_103 => ?_)
            · rw [i_lt] at c_103
              have k_104 : (480 : Int32).toInt = 480 := by decide
              unfold Mod_isDescriptor_j60
              have k_105 : (0 : Int32).toInt = 0 := by decide
              refine So.imp (t_Mod_isDescriptor_j61 (by show ((0 : Int32).toInt = 0 ∧ ¬ ((400 ≤ a0.toInt ∧ a0.toInt ≤ 431) ∨ (440 ≤ a0.toInt ∧ a0.toInt ≤ 455) ∨ (460 ≤ a0.toInt ∧ a0.toInt ≤ 468) ∨ (480 ≤ a0.toInt ∧ a0.toInt ≤ 487))) ∨ ((0 : Int32).toInt = 1 ∧ ((400 ≤ a0.toInt ∧ a0.toInt ≤ 431) ∨ (440 ≤ a0.toInt ∧ a0.toInt ≤ 455) ∨ (460 ≤ a0.toInt ∧ a0.toInt ≤ 468) ∨ (480 ≤ a0.toInt ∧ a0.toInt ≤ 487))); omega)) fun q_z h_z => ?_
              have p_106 := h_z
              exact (by show (q_z.toInt = 1 ∧ ((0 ≤ a0.toInt ∧ a0.toInt ≤ 63) ∨ (100 ≤ a0.toInt ∧ a0.toInt ≤ 115) ∨ (216 ≤ a0.toInt ∧ a0.toInt ≤ 343) ∨ ((400 ≤ a0.toInt ∧ a0.toInt ≤ 431) ∨ (440 ≤ a0.toInt ∧ a0.toInt ≤ 455) ∨ (460 ≤ a0.toInt ∧ a0.toInt ≤ 468) ∨ (480 ≤ a0.toInt ∧ a0.toInt ≤ 487)) ∨ (501 ≤ a0.toInt ∧ a0.toInt ≤ 516) ∨ a0.toInt = 520)) ∨ (q_z.toInt = 0 ∧ ¬ ((0 ≤ a0.toInt ∧ a0.toInt ≤ 63) ∨ (100 ≤ a0.toInt ∧ a0.toInt ≤ 115) ∨ (216 ≤ a0.toInt ∧ a0.toInt ≤ 343) ∨ ((400 ≤ a0.toInt ∧ a0.toInt ≤ 431) ∨ (440 ≤ a0.toInt ∧ a0.toInt ≤ 455) ∨ (460 ≤ a0.toInt ∧ a0.toInt ≤ 468) ∨ (480 ≤ a0.toInt ∧ a0.toInt ≤ 487)) ∨ (501 ≤ a0.toInt ∧ a0.toInt ≤ 516) ∨ a0.toInt = 520)); omega)
            · rw [i_lt] at c_103
              have k_107 : (480 : Int32).toInt = 480 := by decide
              refine So.ite (fun c_108 => ?_) (fun c_108 => ?_)
              · rw [i_lt] at c_108
                have k_109 : (487 : Int32).toInt = 487 := by decide
                unfold Mod_isDescriptor_j60
                have k_110 : (0 : Int32).toInt = 0 := by decide
                refine So.imp (t_Mod_isDescriptor_j61 (by show ((0 : Int32).toInt = 0 ∧ ¬ ((400 ≤ a0.toInt ∧ a0.toInt ≤ 431) ∨ (440 ≤ a0.toInt ∧ a0.toInt ≤ 455) ∨ (460 ≤ a0.toInt ∧ a0.toInt ≤ 468) ∨ (480 ≤ a0.toInt ∧ a0.toInt ≤ 487))) ∨ ((0 : Int32).toInt = 1 ∧ ((400 ≤ a0.toInt ∧ a0.toInt ≤ 431) ∨ (440 ≤ a0.toInt ∧ a0.toInt ≤ 455) ∨ (460 ≤ a0.toInt ∧ a0.toInt ≤ 468) ∨ (480 ≤ a0.toInt ∧ a0.toInt ≤ 487))); omega)) fun q_z h_z => ?_
                have p_111 := h_z
                exact (by show (q_z.toInt = 1 ∧ ((0 ≤ a0.toInt ∧ a0.toInt ≤ 63) ∨ (100 ≤ a0.toInt ∧ a0.toInt ≤ 115) ∨ (216 ≤ a0.toInt ∧ a0.toInt ≤ 343) ∨ ((400 ≤ a0.toInt ∧ a0.toInt ≤ 431) ∨ (440 ≤ a0.toInt ∧ a0.toInt ≤ 455) ∨ (460 ≤ a0.toInt ∧ a0.toInt ≤ 468) ∨ (480 ≤ a0.toInt ∧ a0.toInt ≤ 487)) ∨ (501 ≤ a0.toInt ∧ a0.toInt ≤ 516) ∨ a0.toInt = 520)) ∨ (q_z.toInt = 0 ∧ ¬ ((0 ≤ a0.toInt ∧ a0.toInt ≤ 63) ∨ (100 ≤ a0.toInt ∧ a0.toInt ≤ 115) ∨ (216 ≤ a0.toInt ∧ a0.toInt ≤ 343) ∨ ((400 ≤ a0.toInt ∧ a0.toInt ≤ 431) ∨ (440 ≤ a0.toInt ∧ a0.toInt ≤ 455) ∨ (460 ≤ a0.toInt ∧ a0.toInt ≤ 468) ∨ (480 ≤ a0.toInt ∧ a0.toInt ≤ 487)) ∨ (501 ≤ a0.toInt ∧ a0.toInt ≤ 516) ∨ a0.toInt = 520)); omega)
              · rw [i_lt] at c_108
                have k_112 : (487 : Int32).toInt = 487 := by decide
                unfold Mod_isDescriptor_j56
                have k_113 : (1 : Int32).toInt = 1 := by decide
                refine So.imp (t_Mod_isDescriptor_j61 (by show ((1 : Int32).toInt = 0 ∧ ¬ ((400 ≤ a0.toInt ∧ a0.toInt ≤ 431) ∨ (440 ≤ a0.toInt ∧ a0.toInt ≤ 455) ∨ (460 ≤ a0.toInt ∧ a0.toInt ≤ 468) ∨ (480 ≤ a0.toInt ∧ a0.toInt ≤ 487))) ∨ ((1 : Int32).toInt = 1 ∧ ((400 ≤ a0.toInt ∧ a0.toInt ≤ 431) ∨ (440 ≤ a0.toInt ∧ a0.toInt ≤ 455) ∨ (460 ≤ a0.toInt ∧ a0.toInt ≤ 468) ∨ (480 ≤ a0.toInt ∧ a0.toInt ≤ 487))); omega)) fun q_z h_z => ?_
                have p_114 := h_z
                exact (by show (q_z.toInt = 1 ∧ ((0 ≤ a0.toInt ∧ a0.toInt ≤ 63) ∨ (100 ≤ a0.toInt ∧ a0.toInt ≤ 115) ∨ (216 ≤ a0.toInt ∧ a0.toInt ≤ 343) ∨ ((400 ≤ a0.toInt ∧ a0.toInt ≤ 431) ∨ (440 ≤ a0.toInt ∧ a0.toInt ≤ 455) ∨ (460 ≤ a0.toInt ∧ a0.toInt ≤ 468) ∨ (480 ≤ a0.toInt ∧ a0.toInt ≤ 487)) ∨ (501 ≤ a0.toInt ∧ a0.toInt ≤ 516) ∨ a0.toInt = 520)) ∨ (q_z.toInt = 0 ∧ ¬ ((0 ≤ a0.toInt ∧ a0.toInt ≤ 63) ∨ (100 ≤ a0.toInt ∧ a0.toInt ≤ 115) ∨ (216 ≤ a0.toInt ∧ a0.toInt ≤ 343) ∨ ((400 ≤ a0.toInt ∧ a0.toInt ≤ 431) ∨ (440 ≤ a0.toInt ∧ a0.toInt ≤ 455) ∨ (460 ≤ a0.toInt ∧ a0.toInt ≤ 468) ∨ (480 ≤ a0.toInt ∧ a0.toInt ≤ 487)) ∨ (501 ≤ a0.toInt ∧ a0.toInt ≤ 516) ∨ a0.toInt = 520)); omega)
      · rw [i_lt] at c_81
        have k_115 : (440 : Int32).toInt = 440 := by decide
        refine So.ite (fun c_116 => ?_) (fun c_116 => ?_)
        · rw [i_le] at c_116
          have k_117 : (455 : Int32).toInt = 455 := by decide
          unfold Mod_isDescriptor_j56
          have k_118 : (1 : Int32).toInt = 1 := by decide
          refine So.imp (t_Mod_isDescriptor_j61 (by show ((1 : Int32).toInt = 0 ∧ ¬ ((400 ≤ a0.toInt ∧ a0.toInt ≤ 431) ∨ (440 ≤ a0.toInt ∧ a0.toInt ≤ 455) ∨ (460 ≤ a0.toInt ∧ a0.toInt ≤ 468) ∨ (480 ≤ a0.toInt ∧ a0.toInt ≤ 487))) ∨ ((1 : Int32).toInt = 1 ∧ ((400 ≤ a0.toInt ∧ a0.toInt ≤ 431) ∨ (440 ≤ a0.toInt ∧ a0.toInt ≤ 455) ∨ (460 ≤ a0.toInt ∧ a0.toInt ≤ 468) ∨ (480 ≤ a0.toInt ∧ a0.toInt ≤ 487))); omega)) fun q_z h_z => ?_
          have p_119 := h_z
          exact (by show (q_z.toInt = 1 ∧ ((0 ≤ a0.toInt ∧ a0.toInt ≤ 63) ∨ (100 ≤ a0.toInt ∧ a0.toInt ≤ 115) ∨ (216 ≤ a0.toInt ∧ a0.toInt ≤ 343) ∨ ((400 ≤ a0.toInt ∧ a0.toInt ≤ 431) ∨ (440 ≤ a0.toInt ∧ a0.toInt ≤ 455) ∨ (460 ≤ a0.toInt ∧ a0.toInt ≤ 468) ∨ (480 ≤ a0.toInt ∧ a0.toInt ≤ 487)) ∨ (501 ≤ a0.toInt ∧ a0.toInt ≤ 516) ∨ a0.toInt = 520)) ∨ (q_z.toInt = 0 ∧ ¬ ((0 ≤ a0.toInt ∧ a0.toInt ≤ 63) ∨ (100 ≤ a0.toInt ∧ a0.toInt ≤ 115) ∨ (216 ≤ a0.toInt ∧ a0.toInt ≤ 343) ∨ ((400 ≤ a0.toInt ∧ a0.toInt ≤ 431) ∨ (440 ≤ a0.toInt ∧ a0.toInt ≤ 455) ∨ (460 ≤ a0.toInt ∧ a0.toInt ≤ 468) ∨ (480 ≤ a0.toInt ∧ a0.toInt ≤ 487)) ∨ (501 ≤ a0.toInt ∧ a0.toInt ≤ 516) ∨ a0.toInt = 520)); omega)
        · rw [i_le] at c_116
          have k_120 : (455 : Int32).toInt = 455 := by decide
          unfold Mod_isDescriptor_j28
          refine So.ite (fun c_121 => ?_) (fun c_121 => ?_)
          · rw [i_lt] at c_121
            have k_122 : (460 : Int32).toInt = 460 := by decide
            unfold Mod_isDescriptor_j42
            refine So.ite (fun c_123 => ?_) (fun c_123 => ?_)
            · rw [i_lt] at c_123
              have k_124 : (480 : Int32).toInt = 480 := by decide
              unfold Mod_isDescriptor_j60
              have k_125 : (0 : Int32).toInt = 0 := by decide
              refine So.imp (t_Mod_isDescriptor_j61 (by show ((0 : Int32).toInt = 0 ∧ ¬ ((400 ≤ a0.toInt ∧ a0.toInt ≤ 431) ∨ (440 ≤ a0.toInt ∧ a0.toInt ≤ 455) ∨ (460 ≤ a0.toInt ∧ a0.toInt ≤ 468) ∨ (480 ≤ a0.toInt ∧ a0.toInt ≤ 487))) ∨ ((0 : Int32).toInt = 1 ∧ ((400 ≤ a0.toInt ∧ a0.toInt ≤ 431) ∨ (440 ≤ a0.toInt ∧ a0.toInt ≤ 455) ∨ (460 ≤ a0.toInt ∧ a0.toInt ≤ 468) ∨ (480 ≤ a0.toInt ∧ a0.toInt ≤ 487))); omega)) fun q_z h_z => ?_
              have p_126 := h_z
              exact (by show (q_z.toInt = 1 ∧ ((0 ≤ a0.toInt ∧ a0.toInt ≤ 63) ∨ (100 ≤ a0.toInt ∧ a0.toInt ≤ 115) ∨ (216 ≤ a0.toInt ∧ a0.toInt ≤ 343) ∨ ((400 ≤ a0.toInt ∧ a0.toInt ≤ 431) ∨ (440 ≤ a0.toInt ∧ a0.toInt ≤ 455) ∨ (460 ≤ a0.toInt ∧ a0.toInt ≤ 468) ∨ (480 ≤ a0.toInt ∧ a0.toInt ≤ 487)) ∨ (501 ≤ a0.toInt ∧ a0.toInt ≤ 516) ∨ a0.toInt = 520)) ∨ (q_z.toInt = 0 ∧ ¬ ((0 ≤ a0.toInt ∧ a0.toInt ≤ 63) ∨ (100 ≤ a0.toInt ∧ a0.toInt ≤ 115) ∨ (216 ≤ a0.toInt ∧ a0.toInt ≤ 343) ∨ ((400 ≤ a0.toInt ∧ a0.toInt ≤ 431) ∨ (440 ≤ a0.toInt ∧ a0.toInt ≤ 455) ∨ (460 ≤ a0.toInt ∧ a0.toInt ≤ 468) ∨ (480 ≤ a0.toInt ∧ a0.toInt ≤ 487)) ∨ (501 ≤ a0.toInt ∧ a0.toInt ≤ 516) ∨ a0.toInt = 520)); omega)
            · rw [i_lt] at c_123
              have k_127 : (480 : Int32).toInt = 480 := by decide
              refine So.ite (fun c_128 => ?_) (fun c_128 => ?_)
              · rw [i_lt] at c_128
                have k_129 : (487 : Int32).toInt = 487 := by decide
                unfold Mod_isDescriptor_j60
                have k_130 : (0 : Int32).toInt = 0 := by decide
                refine So.imp (t_Mod_isDescriptor_j61 (by show ((0 : Int32).toInt = 0 ∧ ¬ ((400 ≤ a0.toInt ∧ a0.toInt ≤ 431) ∨ (440 ≤ a0.toInt ∧ a0.toInt ≤ 455) ∨ (460 ≤ a0.toInt ∧ a0.toInt ≤ 468) ∨ (480 ≤ a0.toInt ∧ a0.toInt ≤ 487))) ∨ ((0 : Int32).toInt = 1 ∧ ((400 ≤ a0.toInt ∧ a0.toInt ≤ 431) ∨ (440 ≤ a0.toInt ∧ a0.toInt ≤ 455) ∨ (460 ≤ a0.toInt ∧ a0.toInt ≤ 468) ∨ (480 ≤ a0.toInt ∧ a0.toInt ≤ 487))); omega)) fun q_z h_z => ?_
                have p_131 := h_z
                exact (by show (q_z.toInt = 1 ∧ ((0 ≤ a0.toInt ∧ a0.toInt ≤ 63) ∨ (100 ≤ a0.toInt ∧ a0.toInt ≤ 115) ∨ (216 ≤ a0.toInt ∧ a0.toInt ≤ 343) ∨ ((400 ≤ a0.toInt ∧ a0.toInt ≤ 431) ∨ (440 ≤ a0.toInt ∧ a0.toInt ≤ 455) ∨ (460 ≤ a0.toInt ∧ a0.toInt ≤ 468) ∨ (480 ≤ a0.toInt ∧ a0.toInt ≤ 487)) ∨ (501 ≤ a0.toInt ∧ a0.toInt ≤ 516) ∨ a0.toInt = 520)) ∨ (q_z.toInt = 0 ∧ ¬ ((0 ≤ a0.toInt ∧ a0.toInt ≤ 63) ∨ (100 ≤ a0.toInt ∧ a0.toInt ≤ 115) ∨ (216 ≤ a0.toInt ∧ a0.toInt ≤ 343) ∨ ((400 ≤ a0.toInt ∧ a0.toInt ≤ 431) ∨ (440 ≤ a0.toInt ∧ a0.toInt ≤ 455) ∨ (460 ≤ a0.toInt ∧ a0.toInt ≤ 468) ∨ (480 ≤ a0.toInt ∧ a0.toInt ≤ 487)) ∨ (501 ≤ a0.toInt ∧ a0.toInt ≤ 516) ∨ a0.toInt = 520)); omega)
              · rw [i_lt] at c_128
                have k_132 : (487 : Int32).toInt = 487 := by decide
                unfold Mod_isDescriptor_j56
                have k_133 : (1 : Int32).toInt = 1 := by decide
                refine So.imp (t_Mod_isDescriptor_j61 (by show ((1 : Int32).toInt = 0 ∧ ¬ ((400 ≤ a0.toInt ∧ a0.toInt ≤ 431) ∨ (440 ≤ a0.toInt ∧ a0.toInt ≤ 455) ∨ (460 ≤ a0.toInt ∧ a0.toInt ≤ 468) ∨ (480 ≤ a0.toInt ∧ a0.toInt ≤ 487))) ∨ ((1 : Int32).toInt = 1 ∧ ((400 ≤ a0.toInt ∧ a0.toInt ≤ 431) ∨ (440 ≤ a0.toInt ∧ a0.toInt ≤ 455) ∨ (460 ≤ a0.toInt ∧ a0.toInt ≤ 468) ∨ (480 ≤ a0.toInt ∧ a0.toInt ≤ 487))); omega)) fun q_z h_z => ?_
                have p_134 := h_z
                exact (by show (q_z.toInt = 1 ∧ ((0 ≤ a0.toInt ∧ a0.toInt ≤ 63) ∨ (100 ≤ a0.toInt ∧ a0.toInt ≤ 115) ∨ (216 ≤ a0.toInt ∧ a0.toInt ≤ 343) ∨ ((400 ≤ a0.toInt ∧ a0.toInt ≤ 431) ∨ (440 ≤ a0.toInt ∧ a0.toInt ≤ 455) ∨ (460 ≤ a0.toInt ∧ a0.toInt ≤ 468) ∨ (480 ≤ a0.toInt ∧ a0.toInt ≤ 487)) ∨ (501 ≤ a0.toInt ∧ a0.toInt ≤ 516) ∨ a0.toInt = 520)) ∨ (q_z.toInt = 0 ∧ ¬ ((0 ≤ a0.toInt ∧ a0.toInt ≤ 63) ∨ (100 ≤ a0.toInt ∧ a0.toInt ≤ 115) ∨ (216 ≤ a0.toInt ∧ a0.toInt ≤ 343) ∨ ((400 ≤ a0.toInt ∧ a0.toInt ≤ 431) ∨ (440 ≤ a0.toInt ∧ a0.toInt ≤ 455) ∨ (460 ≤ a0.toInt ∧ a0.toInt ≤ 468) ∨ (480 ≤ a0.toInt ∧ a0.toInt ≤ 487)) ∨ (501 ≤ a0.toInt ∧ a0.toInt ≤ 516) ∨ a0.toInt = 520)); omega)
          · rw [i_lt] at c_121
            have k_135 : (460 : Int32).toInt = 460 := by decide
            refine So.ite (fun c_136 => ?_) (fun c_136 => ?_)
            · rw [i_le] at c_136
              have k_137 : (468 : Int32).toInt = 468 := by decide
              unfold Mod_isDescriptor_j56
              have k_138 : (1 : Int32).toInt = 1 := by decide
              refine So.imp (t_Mod_isDescriptor_j61 (by show ((1 : Int32).toInt = 0 ∧ ¬ ((400 ≤ a0.toInt ∧ a0.toInt ≤ 431) ∨ (440 ≤ a0.toInt ∧ a0.toInt ≤ 455) ∨ (460 ≤ a0.toInt ∧ a0.toInt ≤ 468) ∨ (480 ≤ a0.toInt ∧ a0.toInt ≤ 487))) ∨ ((1 : Int32).toInt = 1 ∧ ((400 ≤ a0.toInt ∧ a0.toInt ≤ 431) ∨ (440 ≤ a0.toInt ∧ a0.toInt ≤ 455) ∨ (460 ≤ a0.toInt ∧ a0.toInt ≤ 468) ∨ (480 ≤ a0.toInt ∧ a0.toInt ≤ 487))); omega)) fun q_z h_z => ?_
              have p_139 := h_z
              exact (by show (q_z.toInt = 1 ∧ ((0 ≤ a0.toInt ∧ a0.toInt ≤ 63) ∨ (100 ≤ a0.toInt ∧ a0.toInt ≤ 115) ∨ (216 ≤ a0.toInt ∧ a0.toInt ≤ 343) ∨ ((400 ≤ a0.toInt ∧ a0.toInt ≤ 431) ∨ (440 ≤ a0.toInt ∧ a0.toInt ≤ 455) ∨ (460 ≤ a0.toInt ∧ a0.toInt ≤ 468) ∨ (480 ≤ a0.toInt ∧ a0.toInt ≤ 487)) ∨ (501 ≤ a0.toInt ∧ a0.toInt ≤ 516) ∨ a0.toInt = 520)) ∨ (q_z.toInt = 0 ∧ ¬ ((0 ≤ a0.toInt ∧ a0.toInt ≤ 63) ∨ (100 ≤ a0.toInt ∧ a0.toInt ≤ 115) ∨ (216 ≤ a0.toInt ∧ a0.toInt ≤ 343) ∨ ((400 ≤ a0.toInt ∧ a0.toInt ≤ 431) ∨ (440 ≤ a0.toInt ∧ a0.toInt ≤ 455) ∨ (460 ≤ a0.toInt ∧ a0.toInt ≤ 468) ∨ (480 ≤ a0.toInt ∧ a0.toInt ≤ 487)) ∨ (501 ≤ a0.toInt ∧ a0.toInt ≤ 516) ∨ a0.toInt = 520)); omega)
            · rw [i_le] at c_136
              have k_140 : (468 : Int32).toInt = 468 := by decide
              unfold Mod_isDescriptor_j42
              refine So.ite (fun c_141 => ?_) (fun c_141 => ?_)
              · rw [i_lt] at c_141
                have k_142 : (480 : Int32).toInt = 480 := by decide
                unfold Mod_isDescriptor_j60
                have k_143 : (0 : Int32).toInt = 0 := by decide
                refine So.imp (t_Mod_isDescriptor_j61 (by show ((0 : Int32).toInt = 0 ∧ ¬ ((400 ≤ a0.toInt ∧ a0.toInt ≤ 431) ∨ (440 ≤ a0.toInt ∧ a0.toInt ≤ 455) ∨ (460 ≤ a0.toInt ∧ a0.toInt ≤ 468) ∨ (480 ≤ a0.toInt ∧ a0.toInt ≤ 487))) ∨ ((0 : Int32).toInt = 1 ∧ ((400 ≤ a0.toInt ∧ a0.toInt ≤ 431) ∨ (440 ≤ a0.toInt ∧ a0.toInt ≤ 455) ∨ (460 ≤ a0.toInt ∧ a0.toInt ≤ 468) ∨ (480 ≤ a0.toInt ∧ a0.toInt ≤ 487))); omega)) fun q_z h_z => ?_
                have p_144 := h_z
                exact (by show (q_z.toInt = 1 ∧ ((0 ≤ a0.toInt ∧ a0.toInt ≤ 63) ∨ (100 ≤ a0.toInt ∧ a0.toInt ≤ 115) ∨ (216 ≤ a0.toInt ∧ a0.toInt ≤ 343) ∨ ((400 ≤ a0.toInt ∧ a0.toInt ≤ 431) ∨ (440 ≤ a0.toInt ∧ a0.toInt ≤ 455) ∨ (460 ≤ a0.toInt ∧ a0.toInt ≤ 468) ∨ (480 ≤ a0.toInt ∧ a0.toInt ≤ 487)) ∨ (501 ≤ a0.toInt ∧ a0.toInt ≤ 516) ∨ a0.toInt = 520)) ∨ (q_z.toInt = 0 ∧ ¬ ((0 ≤ a0.toInt ∧ a0.toInt ≤ 63) ∨ (100 ≤ a0.toInt ∧ a0.toInt ≤ 115) ∨ (216 ≤ a0.toInt ∧ a0.toInt ≤ 343) ∨ ((400 ≤ a0.toInt ∧ a0.toInt ≤ 431) ∨ (440 ≤ a0.toInt ∧ a0.toInt ≤ 455) ∨ (460 ≤ a0.toInt ∧ a0.toInt ≤ 468) ∨ (480 ≤ a0.toInt ∧ a0.toInt ≤ 487)) ∨ (501 ≤ a0.toInt ∧ a0.toInt ≤ 516) ∨ a0.toInt = 520)); omega)
              · rw [i_lt] at c_141
                have k_145 : (480 : Int32).toInt = 480 := by decide
                refine So.ite (fun c_146 => ?_) (fun c_146 => ?_)
                · rw [i_lt] at c_146
                  have k_147 : (487 : Int32).toInt = 487 := by decide
                  unfold Mod_isDescriptor_j60
                  have k_148 : (0 : Int32).toInt = 0 := by decide
                  refine So.imp (t_Mod_isDescriptor_j61 (by show ((0 : Int32).toInt = 0 ∧ ¬ ((400 ≤ a0.toInt ∧ a0.toInt ≤ 431) ∨ (440 ≤ a0.toInt ∧ a0.toInt ≤ 455) ∨ (460 ≤ a0.toInt ∧ a0.toInt ≤ 468) ∨ (480 ≤ a0.toInt ∧ a0.toInt ≤ 487))) ∨ ((0 : Int32).toInt = 1 ∧ ((400 ≤ a0.toInt ∧ a0.toInt ≤ 431) ∨ (440 ≤ a0.toInt ∧ a0.toInt ≤ 455) ∨ (460 ≤ a0.toInt ∧ a0.toInt ≤ 468) ∨ (480 ≤ a0.toInt ∧ a0.toInt ≤ 487))); omega)) fun q_z h_z => ?_
                  have p_149 := h_z
                  exact (by show (q_z.toInt = 1 ∧ ((0 ≤ a0.toInt ∧ a0.toInt ≤ 63) ∨ (100 ≤ a0.toInt ∧ a0.toInt ≤ 115) ∨ (216 ≤ a0.toInt ∧ a0.toInt ≤ 343) ∨ ((400 ≤ a0.toInt ∧ a0.toInt ≤ 431) ∨ (440 ≤ a0.toInt ∧ a0.toInt ≤ 455) ∨ (460 ≤ a0.toInt ∧ a0.toInt ≤ 468) ∨ (480 ≤ a0.toInt ∧ a0.toInt ≤ 487)) ∨ (501 ≤ a0.toInt ∧ a0.toInt ≤ 516) ∨ a0.toInt = 520)) ∨ (q_z.toInt = 0 ∧ ¬ ((0 ≤ a0.toInt ∧ a0.toInt ≤ 63) ∨ (100 ≤ a0.toInt ∧ a0.toInt ≤ 115) ∨ (216 ≤ a0.toInt ∧ a0.toInt ≤ 343) ∨ ((400 ≤ a0.toInt ∧ a0.toInt ≤ 431) ∨ (440 ≤ a0.toInt ∧ a0.toInt ≤ 455) ∨ (460 ≤ a0.toInt ∧ a0.toInt ≤ 468) ∨ (480 ≤ a0.toInt ∧ a0.toInt ≤ 487)) ∨ (501 ≤ a0.toInt ∧ a0.toInt ≤ 516) ∨ a0.toInt = 520)); omega)
                · rw [i_lt] at c_146
                  have k_150 : (487 : Int32).toInt = 487 := by decide
                  unfold Mod_isDescriptor_j56
                  have k_151 : (1 : Int32).toInt = 1 := by decide
                  refine So.imp (t_Mod_isDescriptor_j61 (by show ((1 : Int32).toInt = 0 ∧ ¬ ((400 ≤ a0.toInt ∧ a0.toInt ≤ 431) ∨ (440 ≤ a0.toInt ∧ a0.toInt ≤ 455) ∨ (460 ≤ a0.toInt ∧ a0.toInt ≤ 468) ∨ (480 ≤ a0.toInt ∧ a0.toInt ≤ 487))) ∨ ((1 : Int32).toInt = 1 ∧ ((400 ≤ a0.toInt ∧ a0.toInt ≤ 431) ∨ (440 ≤ a0.toInt ∧ a0.toInt ≤ 455) ∨ (460 ≤ a0.toInt ∧ a0.toInt ≤ 468) ∨ (480 ≤ a0.toInt ∧ a0.toInt ≤ 487))); omega)) fun q_z h_z => ?_
                  have p_152 := h_z
                  exact (by show (q_z.toInt = 1 ∧ ((0 ≤ a0.toInt ∧ a0.toInt ≤ 63) ∨ (100 ≤ a0.toInt ∧ a0.toInt ≤ 115) ∨ (216 ≤ a0.toInt ∧ a0.toInt ≤ 343) ∨ ((400 ≤ a0.toInt ∧ a0.toInt ≤ 431) ∨ (440 ≤ a0.toInt ∧ a0.toInt ≤ 455) ∨ (460 ≤ a0.toInt ∧ a0.toInt ≤ 468) ∨ (480 ≤ a0.toInt ∧ a0.toInt ≤ 487)) ∨ (501 ≤ a0.toInt ∧ a0.toInt ≤ 516) ∨ a0.toInt = 520)) ∨ (q_z.toInt = 0 ∧ ¬ ((0 ≤ a0.toInt ∧ a0.toInt ≤ 63) ∨ (100 ≤ a0.toInt ∧ a0.toInt ≤ 115) ∨ (216 ≤ a0.toInt ∧ a0.toInt ≤ 343) ∨ ((400 ≤ a0.toInt ∧ a0.toInt ≤ 431) ∨ (440 ≤ a0.toInt ∧ a0.toInt ≤ 455) ∨ (460 ≤ a0.toInt ∧ a0.toInt ≤ 468) ∨ (480 ≤ a0.toInt ∧ a0.toInt ≤ 487)) ∨ (501 ≤ a0.toInt ∧ a0.toInt ≤ 516) ∨ a0.toInt = 520)); omega)
theorem t_Mod_operator {a0 : Int32}  : So (Mod_operator a0) (fun r => ((r.toInt = -1 ∧ ¬ (400 ≤ a0.toInt ∧ a0.toInt ≤ 487)) ∨ (0 ≤ r.toInt ∧ r.toInt ≤ 3 ∧ 400 ≤ a0.toInt ∧ a0.toInt ≤ 487 ∧ (r.toInt < 2 ∨ 460 ≤ a0.toInt)))) := by
  unfold Mod_operator
  refine So.ite (fun c_1 => ?_) (fun c_1 => ?_)
  · rw [i_lt] at c_1
    have k_2 : (400 : Int32).toInt = 400 := by decide
    have k_3 : ((-1) : Int32).toInt = -1 := by decide
    exact So.one (by show (((-1) : Int32).toInt = -1 ∧ ¬ (400 ≤ a0.toInt ∧ a0.toInt ≤ 487)) ∨ (0 ≤ ((-1) : Int32).toInt ∧ ((-1) : Int32).toInt ≤ 3 ∧ 400 ≤ a0.toInt ∧ a0.toInt ≤ 487 ∧ (((-1) : Int32).toInt < 2 ∨ 460 ≤ a0.toInt)); omega)
  · rw [i_lt] at c_1
    have k_4 : (400 : Int32).toInt = 400 := by decide
    refine So.ite (fun c_5 => ?_) (fun c_5 => ?_)
    · rw [i_le] at c_5
      have k_6 : (487 : Int32).toInt = 487 := by decide
      refine So.ite (fun c_7 => ?_) (fun c_7 => ?_)
      · rw [i_le] at c_7
        have k_8 : (440 : Int32).toInt = 440 := by decide
        refine So.ite (fun c_9 => ?_) (fun c_9 => ?_)
        · rw [i_le] at c_9
          have k_10 : (460 : Int32).toInt = 460 := by decide
          refine So.ite (fun c_11 => ?_) (fun c_11 => ?_)
          · rw [i_le] at c_11
            have k_12 : (480 : Int32).toInt = 480 := by decide
            have k_13 : (3 : Int32).toInt = 3 := by decide
            exact So.one (by show ((3 : Int32).toInt = -1 ∧ ¬ (400 ≤ a0.toInt ∧ a0.toInt ≤ 487)) ∨ (0 ≤ (3 : Int32).toInt ∧ (3 : Int32).toInt ≤ 3 ∧ 400 ≤ a0.toInt ∧ a0.toInt ≤ 487 ∧ ((3 : Int32).toInt < 2 ∨ 460 ≤ a0.toInt)); omega)
          · rw [i_le] at c_11
            have k_14 : (480 : Int32).toInt = 480 := by decide
            have k_15 : (2 : Int32).toInt = 2 := by decide
            exact So.one (by show ((2 : Int32).toInt = -1 ∧ ¬ (400 ≤ a0.toInt ∧ a0.toInt ≤ 487)) ∨ (0 ≤ (2 : Int32).toInt ∧ (2 : Int32).toInt ≤ 3 ∧ 400 ≤ a0.toInt ∧ a0.toInt ≤ 487 ∧ ((2 : Int32).toInt < 2 ∨ 460 ≤ a0.toInt)); omega)
        · rw [i_le] at c_9
          have k_16 : (460 : Int32).toInt = 460 := by decide
          have k_17 : (1 : Int32).toInt = 1 := by decide
          exact So.one (by show ((1 : Int32).toInt = -1 ∧ ¬ (400 ≤ a0.toInt ∧ a0.toInt ≤ 487)) ∨ (0 ≤ (1 : Int32).toInt ∧ (1 : Int32).toInt ≤ 3 ∧ 400 ≤ a0.toInt ∧ a0.toInt ≤ 487 ∧ ((1 : Int32).toInt < 2 ∨ 460 ≤ a0.toInt)); omega)
      · rw [i_le] at c_7
        have k_18 : (440 : Int32).toInt = 440 := by decide
        have k_19 : (0 : Int32).toInt = 0 := by decide
        exact So.one (by show ((0 : Int32).toInt = -1 ∧ ¬ (400 ≤ a0.toInt ∧ a0.toInt ≤ 487)) ∨ (0 ≤ (0 : Int32).toInt ∧ (0 : Int32).toInt ≤ 3 ∧ 400 ≤ a0.toInt ∧ a0.toInt ≤ 487 ∧ ((0 : Int32).toInt < 2 ∨ 460 ≤ a0.toInt)); omega)
    · rw [i_le] at c_5
      have k_20 : (487 : Int32).toInt = 487 := by decide
      have k_21 : ((-1) : Int32).toInt = -1 := by decide
      exact So.one (by show (((-1) : Int32).toInt = -1 ∧ ¬ (400 ≤ a0.toInt ∧ a0.toInt ≤ 487)) ∨ (0 ≤ ((-1) : Int32).toInt ∧ ((-1) : Int32).toInt ≤ 3 ∧ 400 ≤ a0.toInt ∧ a0.toInt ≤ 487 ∧ (((-1) : Int32).toInt < 2 ∨ 460 ≤ a0.toInt)); omega)
theorem t_Mod_append {a0 : Int32} {a1 : Int32} {sMo : S_Mo} {sMlists : (Nat → Int32)} {sMlengths : (Nat → Int32)} (I_sMo : I_Mo sMo) (I_sMlists : A_Mlists sMlists) (I_sMlengths : A_Mlengths sMlengths) : So (Mod_append a0 a1 sMo sMlists sMlengths) (fun r => I_Mo r.2.1 ∧ A_Mlists r.2.2.1 ∧ A_Mlengths r.2.2.2 ∧ (0 ≤ (Mo_thrown r.2.1).toInt) ∧ ((Mo_thrown r.2.1).toInt ≤ 2)) := by
  unfold Mod_append
  refine So.ite (fun c_1 => ?_) (fun c_1 => ?_)
  · rw [i_lt] at c_1
    have k_2 : ((-1) : Int32).toInt = -1 := by decide
    unfold Mod_append_j19
    unfold Mod_append_j24
    refine So.lt2 fun sMo_5 e_3 => ?_
    have I_4 : I_Mo sMo_5 := by rw [e_3]; exact (I_Mo_set_thrown I_sMo)
    have k_5 : (1 : Int32).toInt = 1 := by decide
    have f_6 : (Mo_thrown sMo_5).toInt = (1 : Int32).toInt := by subst e_3; rfl
    refine So.ite (fun c_7 => ?_) (fun c_7 => ?_)
    · rw [i_le] at c_7
      have k_8 : (0 : Int32).toInt = 0 := by decide
      unfold Mod_append_j37
      refine So.ite (fun c_9 => ?_) (fun c_9 => ?_)
      · rw [i_eq] at c_9
        refine So.gd (i_in.mpr (by omega)) ?_
        refine So.ite (fun c_10 => ?_) (fun c_10 => ?_)
        · rw [i_le] at c_10
          unfold Mod_append_j62
          refine So.ite (fun c_11 => ?_) (fun c_11 => ?_)
          · rw [i_eq] at c_11
            have f_12 := A_Mlengths_at I_sMlengths (a0.toNatClampNeg)
            have f_13 := i_natm a0
            have k_14 : (8 : Int32).toInt = 8 := by decide
            refine So.lt2 fun sMo_10 e_15 => ?_
            have I_16 : I_Mo sMo_10 := by rw [e_15]; exact (I_Mo_set_thrown I_4)
            have k_17 : (2 : Int32).toInt = 2 := by decide
            have f_18 : (Mo_thrown sMo_10).toInt = (2 : Int32).toInt := by subst e_15; rfl
            unfold Mod_append_j70
            refine So.ite (fun c_19 => ?_) (fun c_19 => ?_)
            · rw [i_le] at c_19
              refine So.gd (i_in.mpr (by omega)) ?_
              have k_20 : (24 : Int32).toInt = 24 := by decide
              first | have f_21 := i_mull 24 a0 (24) (by decide) (by omega) (by omega) | have f_21 := i_mullm 24 a0 (24) (by decide)
              first | have f_22 := i_add (a := (24 * a0)) (b := (sMlengths (a0.toNatClampNeg))) (by omega) (by omega) | have f_22 := i_addm (24 * a0) (sMlengths (a0.toNatClampNeg))
              refine So.gd (i_in.mpr (by omega)) ?_
              refine So.lt2 fun sMlists_14 e_23 => ?_
              have f_24 := i_natm ((24 * a0) + (sMlengths (a0.toNatClampNeg)))
              have I_25 : A_Mlists sMlists_14 := by rw [e_23]; exact (A_Mlists_upd I_sMlists (by show (0 ≤ (a1 : Int32).toInt ∧ (a1 : Int32).toInt ≤ 63) ∨ (100 ≤ (a1 : Int32).toInt ∧ (a1 : Int32).toInt ≤ 115) ∨ (216 ≤ (a1 : Int32).toInt ∧ (a1 : Int32).toInt ≤ 343) ∨ (400 ≤ (a1 : Int32).toInt ∧ (a1 : Int32).toInt ≤ 487) ∨ (501 ≤ (a1 : Int32).toInt ∧ (a1 : Int32).toInt ≤ 516) ∨ (a1 : Int32).toInt = 520; omega))
              refine So.gd (i_in.mpr (by omega)) ?_
              refine So.gd (i_in.mpr (by omega)) ?_
              refine So.lt2 fun sMlengths_17 e_26 => ?_
              first | have f_27 := i_add (a := (sMlengths (a0.toNatClampNeg))) (b := 1) (by omega) (by omega) | have f_27 := i_addm (sMlengths (a0.toNatClampNeg)) 1
              have I_28 : A_Mlengths sMlengths_17 := by rw [e_26]; exact (A_Mlengths_upd I_sMlengths (by show 0 ≤ (((sMlengths (a0.toNatClampNeg)) + 1) : Int32).toInt ∧ (((sMlengths (a0.toNatClampNeg)) + 1) : Int32).toInt ≤ 24 ∧ ((a0.toNatClampNeg) < 16 → (((sMlengths (a0.toNatClampNeg)) + 1) : Int32).toInt ≤ 8); omega))
              refine So.gd (i_in.mpr (by omega)) ?_
              exact So.one ⟨I_16, I_25, I_28, (by show 0 ≤ (Mo_thrown sMo_10).toInt; omega), (by show (Mo_thrown sMo_10).toInt ≤ 2; omega)⟩
            · rw [i_le] at c_19
              exact So.one ⟨I_16, I_sMlists, I_sMlengths, (by show 0 ≤ (Mo_thrown sMo_10).toInt; omega), (by show (Mo_thrown sMo_10).toInt ≤ 2; omega)⟩
          · rw [i_eq] at c_11
            have f_29 := A_Mlengths_at I_sMlengths (a0.toNatClampNeg)
            have f_30 := i_natm a0
            have k_31 : (8 : Int32).toInt = 8 := by decide
            unfold Mod_append_j70
            refine So.ite (fun c_32 => ?_) (fun c_32 => ?_)
            · rw [i_le] at c_32
              refine So.gd (i_in.mpr (by omega)) ?_
              have k_33 : (24 : Int32).toInt = 24 := by decide
              first | have f_34 := i_mull 24 a0 (24) (by decide) (by omega) (by omega) | have f_34 := i_mullm 24 a0 (24) (by decide)
              first | have f_35 := i_add (a := (24 * a0)) (b := (sMlengths (a0.toNatClampNeg))) (by omega) (by omega) | have f_35 := i_addm (24 * a0) (sMlengths (a0.toNatClampNeg))
              refine So.gd (i_in.mpr (by omega)) ?_
              refine So.lt2 fun sMlists_14 e_36 => ?_
              have f_37 := i_natm ((24 * a0) + (sMlengths (a0.toNatClampNeg)))
              have I_38 : A_Mlists sMlists_14 := by rw [e_36]; exact (A_Mlists_upd I_sMlists (by show (0 ≤ (a1 : Int32).toInt ∧ (a1 : Int32).toInt ≤ 63) ∨ (100 ≤ (a1 : Int32).toInt ∧ (a1 : Int32).toInt ≤ 115) ∨ (216 ≤ (a1 : Int32).toInt ∧ (a1 : Int32).toInt ≤ 343) ∨ (400 ≤ (a1 : Int32).toInt ∧ (a1 : Int32).toInt ≤ 487) ∨ (501 ≤ (a1 : Int32).toInt ∧ (a1 : Int32).toInt ≤ 516) ∨ (a1 : Int32).toInt = 520; omega))
              refine So.gd (i_in.mpr (by omega)) ?_
              refine So.gd (i_in.mpr (by omega)) ?_
              refine So.lt2 fun sMlengths_17 e_39 => ?_
              first | have f_40 := i_add (a := (sMlengths (a0.toNatClampNeg))) (b := 1) (by omega) (by omega) | have f_40 := i_addm (sMlengths (a0.toNatClampNeg)) 1
              have I_41 : A_Mlengths sMlengths_17 := by rw [e_39]; exact (A_Mlengths_upd I_sMlengths (by show 0 ≤ (((sMlengths (a0.toNatClampNeg)) + 1) : Int32).toInt ∧ (((sMlengths (a0.toNatClampNeg)) + 1) : Int32).toInt ≤ 24 ∧ ((a0.toNatClampNeg) < 16 → (((sMlengths (a0.toNatClampNeg)) + 1) : Int32).toInt ≤ 8); omega))
              refine So.gd (i_in.mpr (by omega)) ?_
              exact So.one ⟨I_4, I_38, I_41, (by show 0 ≤ (Mo_thrown sMo_5).toInt; omega), (by show (Mo_thrown sMo_5).toInt ≤ 2; omega)⟩
            · rw [i_le] at c_32
              exact So.one ⟨I_4, I_sMlists, I_sMlengths, (by show 0 ≤ (Mo_thrown sMo_5).toInt; omega), (by show (Mo_thrown sMo_5).toInt ≤ 2; omega)⟩
        · rw [i_le] at c_10
          unfold Mod_append_j62
          refine So.ite (fun c_42 => ?_) (fun c_42 => ?_)
          · rw [i_eq] at c_42
            have f_43 := A_Mlengths_at I_sMlengths (a0.toNatClampNeg)
            have f_44 := i_natm a0
            have k_45 : (24 : Int32).toInt = 24 := by decide
            refine So.lt2 fun sMo_10 e_46 => ?_
            have I_47 : I_Mo sMo_10 := by rw [e_46]; exact (I_Mo_set_thrown I_4)
            have k_48 : (2 : Int32).toInt = 2 := by decide
            have f_49 : (Mo_thrown sMo_10).toInt = (2 : Int32).toInt := by subst e_46; rfl
            unfold Mod_append_j70
            refine So.ite (fun c_50 => ?_) (fun c_50 => ?_)
            · rw [i_le] at c_50
              refine So.gd (i_in.mpr (by omega)) ?_
              first | have f_51 := i_mull 24 a0 (24) (by decide) (by omega) (by omega) | have f_51 := i_mullm 24 a0 (24) (by decide)
              first | have f_52 := i_add (a := (24 * a0)) (b := (sMlengths (a0.toNatClampNeg))) (by omega) (by omega) | have f_52 := i_addm (24 * a0) (sMlengths (a0.toNatClampNeg))
              refine So.gd (i_in.mpr (by omega)) ?_
              refine So.lt2 fun sMlists_14 e_53 => ?_
              have f_54 := i_natm ((24 * a0) + (sMlengths (a0.toNatClampNeg)))
              have I_55 : A_Mlists sMlists_14 := by rw [e_53]; exact (A_Mlists_upd I_sMlists (by show (0 ≤ (a1 : Int32).toInt ∧ (a1 : Int32).toInt ≤ 63) ∨ (100 ≤ (a1 : Int32).toInt ∧ (a1 : Int32).toInt ≤ 115) ∨ (216 ≤ (a1 : Int32).toInt ∧ (a1 : Int32).toInt ≤ 343) ∨ (400 ≤ (a1 : Int32).toInt ∧ (a1 : Int32).toInt ≤ 487) ∨ (501 ≤ (a1 : Int32).toInt ∧ (a1 : Int32).toInt ≤ 516) ∨ (a1 : Int32).toInt = 520; omega))
              refine So.gd (i_in.mpr (by omega)) ?_
              refine So.gd (i_in.mpr (by omega)) ?_
              refine So.lt2 fun sMlengths_17 e_56 => ?_
              first | have f_57 := i_add (a := (sMlengths (a0.toNatClampNeg))) (b := 1) (by omega) (by omega) | have f_57 := i_addm (sMlengths (a0.toNatClampNeg)) 1
              have I_58 : A_Mlengths sMlengths_17 := by rw [e_56]; exact (A_Mlengths_upd I_sMlengths (by show 0 ≤ (((sMlengths (a0.toNatClampNeg)) + 1) : Int32).toInt ∧ (((sMlengths (a0.toNatClampNeg)) + 1) : Int32).toInt ≤ 24 ∧ ((a0.toNatClampNeg) < 16 → (((sMlengths (a0.toNatClampNeg)) + 1) : Int32).toInt ≤ 8); omega))
              refine So.gd (i_in.mpr (by omega)) ?_
              exact So.one ⟨I_47, I_55, I_58, (by show 0 ≤ (Mo_thrown sMo_10).toInt; omega), (by show (Mo_thrown sMo_10).toInt ≤ 2; omega)⟩
            · rw [i_le] at c_50
              exact So.one ⟨I_47, I_sMlists, I_sMlengths, (by show 0 ≤ (Mo_thrown sMo_10).toInt; omega), (by show (Mo_thrown sMo_10).toInt ≤ 2; omega)⟩
          · rw [i_eq] at c_42
            have f_59 := A_Mlengths_at I_sMlengths (a0.toNatClampNeg)
            have f_60 := i_natm a0
            have k_61 : (24 : Int32).toInt = 24 := by decide
            unfold Mod_append_j70
            refine So.ite (fun c_62 => ?_) (fun c_62 => ?_)
            · rw [i_le] at c_62
              refine So.gd (i_in.mpr (by omega)) ?_
              first | have f_63 := i_mull 24 a0 (24) (by decide) (by omega) (by omega) | have f_63 := i_mullm 24 a0 (24) (by decide)
              first | have f_64 := i_add (a := (24 * a0)) (b := (sMlengths (a0.toNatClampNeg))) (by omega) (by omega) | have f_64 := i_addm (24 * a0) (sMlengths (a0.toNatClampNeg))
              refine So.gd (i_in.mpr (by omega)) ?_
              refine So.lt2 fun sMlists_14 e_65 => ?_
              have f_66 := i_natm ((24 * a0) + (sMlengths (a0.toNatClampNeg)))
              have I_67 : A_Mlists sMlists_14 := by rw [e_65]; exact (A_Mlists_upd I_sMlists (by show (0 ≤ (a1 : Int32).toInt ∧ (a1 : Int32).toInt ≤ 63) ∨ (100 ≤ (a1 : Int32).toInt ∧ (a1 : Int32).toInt ≤ 115) ∨ (216 ≤ (a1 : Int32).toInt ∧ (a1 : Int32).toInt ≤ 343) ∨ (400 ≤ (a1 : Int32).toInt ∧ (a1 : Int32).toInt ≤ 487) ∨ (501 ≤ (a1 : Int32).toInt ∧ (a1 : Int32).toInt ≤ 516) ∨ (a1 : Int32).toInt = 520; omega))
              refine So.gd (i_in.mpr (by omega)) ?_
              refine So.gd (i_in.mpr (by omega)) ?_
              refine So.lt2 fun sMlengths_17 e_68 => ?_
              first | have f_69 := i_add (a := (sMlengths (a0.toNatClampNeg))) (b := 1) (by omega) (by omega) | have f_69 := i_addm (sMlengths (a0.toNatClampNeg)) 1
              have I_70 : A_Mlengths sMlengths_17 := by rw [e_68]; exact (A_Mlengths_upd I_sMlengths (by show 0 ≤ (((sMlengths (a0.toNatClampNeg)) + 1) : Int32).toInt ∧ (((sMlengths (a0.toNatClampNeg)) + 1) : Int32).toInt ≤ 24 ∧ ((a0.toNatClampNeg) < 16 → (((sMlengths (a0.toNatClampNeg)) + 1) : Int32).toInt ≤ 8); omega))
              refine So.gd (i_in.mpr (by omega)) ?_
              exact So.one ⟨I_4, I_67, I_70, (by show 0 ≤ (Mo_thrown sMo_5).toInt; omega), (by show (Mo_thrown sMo_5).toInt ≤ 2; omega)⟩
            · rw [i_le] at c_62
              exact So.one ⟨I_4, I_sMlists, I_sMlengths, (by show 0 ≤ (Mo_thrown sMo_5).toInt; omega), (by show (Mo_thrown sMo_5).toInt ≤ 2; omega)⟩
      · rw [i_eq] at c_9
        unfold Mod_append_j70
        refine So.ite (fun c_71 => ?_) (fun c_71 => ?_)
        · rw [i_le] at c_71
          refine So.gd (i_in.mpr (by omega)) ?_
          have k_72 : (24 : Int32).toInt = 24 := by decide
          first | have f_73 := i_mull 24 a0 (24) (by decide) (by omega) (by omega) | have f_73 := i_mullm 24 a0 (24) (by decide)
          have f_74 := A_Mlengths_at I_sMlengths (a0.toNatClampNeg)
          have f_75 := i_natm a0
          first | have f_76 := i_add (a := (24 * a0)) (b := (sMlengths (a0.toNatClampNeg))) (by omega) (by omega) | have f_76 := i_addm (24 * a0) (sMlengths (a0.toNatClampNeg))
          refine So.gd (i_in.mpr (by omega)) ?_
          refine So.lt2 fun sMlists_14 e_77 => ?_
          have f_78 := i_natm ((24 * a0) + (sMlengths (a0.toNatClampNeg)))
          have I_79 : A_Mlists sMlists_14 := by rw [e_77]; exact (A_Mlists_upd I_sMlists (by show (0 ≤ (a1 : Int32).toInt ∧ (a1 : Int32).toInt ≤ 63) ∨ (100 ≤ (a1 : Int32).toInt ∧ (a1 : Int32).toInt ≤ 115) ∨ (216 ≤ (a1 : Int32).toInt ∧ (a1 : Int32).toInt ≤ 343) ∨ (400 ≤ (a1 : Int32).toInt ∧ (a1 : Int32).toInt ≤ 487) ∨ (501 ≤ (a1 : Int32).toInt ∧ (a1 : Int32).toInt ≤ 516) ∨ (a1 : Int32).toInt = 520; omega))
          refine So.gd (i_in.mpr (by omega)) ?_
          refine So.gd (i_in.mpr (by omega)) ?_
          refine So.lt2 fun sMlengths_17 e_80 => ?_
          first | have f_81 := i_add (a := (sMlengths (a0.toNatClampNeg))) (b := 1) (by omega) (by omega) | have f_81 := i_addm (sMlengths (a0.toNatClampNeg)) 1
          have I_82 : A_Mlengths sMlengths_17 := by rw [e_80]; exact (A_Mlengths_upd I_sMlengths (by show 0 ≤ (((sMlengths (a0.toNatClampNeg)) + 1) : Int32).toInt ∧ (((sMlengths (a0.toNatClampNeg)) + 1) : Int32).toInt ≤ 24 ∧ ((a0.toNatClampNeg) < 16 → (((sMlengths (a0.toNatClampNeg)) + 1) : Int32).toInt ≤ 8); omega))
          refine So.gd (i_in.mpr (by omega)) ?_
          exact So.one ⟨I_4, I_79, I_82, (by show 0 ≤ (Mo_thrown sMo_5).toInt; omega), (by show (Mo_thrown sMo_5).toInt ≤ 2; omega)⟩
        · rw [i_le] at c_71
          exact So.one ⟨I_4, I_sMlists, I_sMlengths, (by show 0 ≤ (Mo_thrown sMo_5).toInt; omega), (by show (Mo_thrown sMo_5).toInt ≤ 2; omega)⟩
    · rw [i_le] at c_7
      have k_83 : (0 : Int32).toInt = 0 := by decide
      unfold Mod_append_j37
      refine So.ite (fun c_84 => ?_) (fun c_84 => ?_)
      · rw [i_eq] at c_84
        have k_85 : (16 : Int32).toInt = 16 := by decide
        refine So.gd (i_in.mpr (by omega)) ?_
        refine So.ite (fun c_86 => ?_) (fun c_86 => ?_)
        · rw [i_le] at c_86
          unfold Mod_append_j62
          refine So.ite (fun c_87 => ?_) (fun c_87 => ?_)
          · rw [i_eq] at c_87
            have f_88 := A_Mlengths_at I_sMlengths ((16 : Int32).toNatClampNeg)
            have f_89 := i_natm (16 : Int32)
            have k_90 : (8 : Int32).toInt = 8 := by decide
            refine So.lt2 fun sMo_10 e_91 => ?_
            have I_92 : I_Mo sMo_10 := by rw [e_91]; exact (I_Mo_set_thrown I_4)
            have k_93 : (2 : Int32).toInt = 2 := by decide
            have f_94 : (Mo_thrown sMo_10).toInt = (2 : Int32).toInt := by subst e_91; rfl
            unfold Mod_append_j70
            refine So.ite (fun c_95 => ?_) (fun c_95 => ?_)
            · rw [i_le] at c_95
              refine So.gd (i_in.mpr (by omega)) ?_
              have k_96 : ((24 * 16) : Int32).toInt = 384 := by decide
              first | have f_97 := i_add (a := ((24 * 16) : Int32)) (b := (sMlengths ((16 : Int32).toNatClampNeg))) (by omega) (by omega) | have f_97 := i_addm ((24 * 16) : Int32) (sMlengths ((16 : Int32).toNatClampNeg))
              refine So.gd (i_in.mpr (by omega)) ?_
              refine So.lt2 fun sMlists_14 e_98 => ?_
              have f_99 := i_natm ((24 * 16) + (sMlengths ((16 : Int32).toNatClampNeg)))
              have I_100 : A_Mlists sMlists_14 := by rw [e_98]; exact (A_Mlists_upd I_sMlists (by show (0 ≤ (a1 : Int32).toInt ∧ (a1 : Int32).toInt ≤ 63) ∨ (100 ≤ (a1 : Int32).toInt ∧ (a1 : Int32).toInt ≤ 115) ∨ (216 ≤ (a1 : Int32).toInt ∧ (a1 : Int32).toInt ≤ 343) ∨ (400 ≤ (a1 : Int32).toInt ∧ (a1 : Int32).toInt ≤ 487) ∨ (501 ≤ (a1 : Int32).toInt ∧ (a1 : Int32).toInt ≤ 516) ∨ (a1 : Int32).toInt = 520; omega))
              refine So.gd (i_in.mpr (by omega)) ?_
              refine So.gd (i_in.mpr (by omega)) ?_
              refine So.lt2 fun sMlengths_17 e_101 => ?_
              first | have f_102 := i_add (a := (sMlengths ((16 : Int32).toNatClampNeg))) (b := 1) (by omega) (by omega) | have f_102 := i_addm (sMlengths ((16 : Int32).toNatClampNeg)) 1
              have I_103 : A_Mlengths sMlengths_17 := by rw [e_101]; exact (A_Mlengths_upd I_sMlengths (by show 0 ≤ (((sMlengths ((16 : Int32).toNatClampNeg)) + 1) : Int32).toInt ∧ (((sMlengths ((16 : Int32).toNatClampNeg)) + 1) : Int32).toInt ≤ 24 ∧ (((16 : Int32).toNatClampNeg) < 16 → (((sMlengths ((16 : Int32).toNatClampNeg)) + 1) : Int32).toInt ≤ 8); omega))
              refine So.gd (i_in.mpr (by omega)) ?_
              exact So.one ⟨I_92, I_100, I_103, (by show 0 ≤ (Mo_thrown sMo_10).toInt; omega), (by show (Mo_thrown sMo_10).toInt ≤ 2; omega)⟩
            · rw [i_le] at c_95
              exact So.one ⟨I_92, I_sMlists, I_sMlengths, (by show 0 ≤ (Mo_thrown sMo_10).toInt; omega), (by show (Mo_thrown sMo_10).toInt ≤ 2; omega)⟩
          · rw [i_eq] at c_87
            have f_104 := A_Mlengths_at I_sMlengths ((16 : Int32).toNatClampNeg)
            have f_105 := i_natm (16 : Int32)
            have k_106 : (8 : Int32).toInt = 8 := by decide
            unfold Mod_append_j70
            refine So.ite (fun c_107 => ?_) (fun c_107 => ?_)
            · rw [i_le] at c_107
              refine So.gd (i_in.mpr (by omega)) ?_
              have k_108 : ((24 * 16) : Int32).toInt = 384 := by decide
              first | have f_109 := i_add (a := ((24 * 16) : Int32)) (b := (sMlengths ((16 : Int32).toNatClampNeg))) (by omega) (by omega) | have f_109 := i_addm ((24 * 16) : Int32) (sMlengths ((16 : Int32).toNatClampNeg))
              refine So.gd (i_in.mpr (by omega)) ?_
              refine So.lt2 fun sMlists_14 e_110 => ?_
              have f_111 := i_natm ((24 * 16) + (sMlengths ((16 : Int32).toNatClampNeg)))
              have I_112 : A_Mlists sMlists_14 := by rw [e_110]; exact (A_Mlists_upd I_sMlists (by show (0 ≤ (a1 : Int32).toInt ∧ (a1 : Int32).toInt ≤ 63) ∨ (100 ≤ (a1 : Int32).toInt ∧ (a1 : Int32).toInt ≤ 115) ∨ (216 ≤ (a1 : Int32).toInt ∧ (a1 : Int32).toInt ≤ 343) ∨ (400 ≤ (a1 : Int32).toInt ∧ (a1 : Int32).toInt ≤ 487) ∨ (501 ≤ (a1 : Int32).toInt ∧ (a1 : Int32).toInt ≤ 516) ∨ (a1 : Int32).toInt = 520; omega))
              refine So.gd (i_in.mpr (by omega)) ?_
              refine So.gd (i_in.mpr (by omega)) ?_
              refine So.lt2 fun sMlengths_17 e_113 => ?_
              first | have f_114 := i_add (a := (sMlengths ((16 : Int32).toNatClampNeg))) (b := 1) (by omega) (by omega) | have f_114 := i_addm (sMlengths ((16 : Int32).toNatClampNeg)) 1
              have I_115 : A_Mlengths sMlengths_17 := by rw [e_113]; exact (A_Mlengths_upd I_sMlengths (by show 0 ≤ (((sMlengths ((16 : Int32).toNatClampNeg)) + 1) : Int32).toInt ∧ (((sMlengths ((16 : Int32).toNatClampNeg)) + 1) : Int32).toInt ≤ 24 ∧ (((16 : Int32).toNatClampNeg) < 16 → (((sMlengths ((16 : Int32).toNatClampNeg)) + 1) : Int32).toInt ≤ 8); omega))
              refine So.gd (i_in.mpr (by omega)) ?_
              exact So.one ⟨I_4, I_112, I_115, (by show 0 ≤ (Mo_thrown sMo_5).toInt; omega), (by show (Mo_thrown sMo_5).toInt ≤ 2; omega)⟩
            · rw [i_le] at c_107
              exact So.one ⟨I_4, I_sMlists, I_sMlengths, (by show 0 ≤ (Mo_thrown sMo_5).toInt; omega), (by show (Mo_thrown sMo_5).toInt ≤ 2; omega)⟩
        · rw [i_le] at c_86
          unfold Mod_append_j62
          refine So.ite (fun c_116 => ?_) (fun c_116 => ?_)
          · rw [i_eq] at c_116
            have f_117 := A_Mlengths_at I_sMlengths ((16 : Int32).toNatClampNeg)
            have f_118 := i_natm (16 : Int32)
            have k_119 : (24 : Int32).toInt = 24 := by decide
            refine So.lt2 fun sMo_10 e_120 => ?_
            have I_121 : I_Mo sMo_10 := by rw [e_120]; exact (I_Mo_set_thrown I_4)
            have k_122 : (2 : Int32).toInt = 2 := by decide
            have f_123 : (Mo_thrown sMo_10).toInt = (2 : Int32).toInt := by subst e_120; rfl
            unfold Mod_append_j70
            refine So.ite (fun c_124 => ?_) (fun c_124 => ?_)
            · rw [i_le] at c_124
              refine So.gd (i_in.mpr (by omega)) ?_
              have k_125 : ((24 * 16) : Int32).toInt = 384 := by decide
              first | have f_126 := i_add (a := ((24 * 16) : Int32)) (b := (sMlengths ((16 : Int32).toNatClampNeg))) (by omega) (by omega) | have f_126 := i_addm ((24 * 16) : Int32) (sMlengths ((16 : Int32).toNatClampNeg))
              refine So.gd (i_in.mpr (by omega)) ?_
              refine So.lt2 fun sMlists_14 e_127 => ?_
              have f_128 := i_natm ((24 * 16) + (sMlengths ((16 : Int32).toNatClampNeg)))
              have I_129 : A_Mlists sMlists_14 := by rw [e_127]; exact (A_Mlists_upd I_sMlists (by show (0 ≤ (a1 : Int32).toInt ∧ (a1 : Int32).toInt ≤ 63) ∨ (100 ≤ (a1 : Int32).toInt ∧ (a1 : Int32).toInt ≤ 115) ∨ (216 ≤ (a1 : Int32).toInt ∧ (a1 : Int32).toInt ≤ 343) ∨ (400 ≤ (a1 : Int32).toInt ∧ (a1 : Int32).toInt ≤ 487) ∨ (501 ≤ (a1 : Int32).toInt ∧ (a1 : Int32).toInt ≤ 516) ∨ (a1 : Int32).toInt = 520; omega))
              refine So.gd (i_in.mpr (by omega)) ?_
              refine So.gd (i_in.mpr (by omega)) ?_
              refine So.lt2 fun sMlengths_17 e_130 => ?_
              first | have f_131 := i_add (a := (sMlengths ((16 : Int32).toNatClampNeg))) (b := 1) (by omega) (by omega) | have f_131 := i_addm (sMlengths ((16 : Int32).toNatClampNeg)) 1
              have I_132 : A_Mlengths sMlengths_17 := by rw [e_130]; exact (A_Mlengths_upd I_sMlengths (by show 0 ≤ (((sMlengths ((16 : Int32).toNatClampNeg)) + 1) : Int32).toInt ∧ (((sMlengths ((16 : Int32).toNatClampNeg)) + 1) : Int32).toInt ≤ 24 ∧ (((16 : Int32).toNatClampNeg) < 16 → (((sMlengths ((16 : Int32).toNatClampNeg)) + 1) : Int32).toInt ≤ 8); omega))
              refine So.gd (i_in.mpr (by omega)) ?_
              exact So.one ⟨I_121, I_129, I_132, (by show 0 ≤ (Mo_thrown sMo_10).toInt; omega), (by show (Mo_thrown sMo_10).toInt ≤ 2; omega)⟩
            · rw [i_le] at c_124
              exact So.one ⟨I_121, I_sMlists, I_sMlengths, (by show 0 ≤ (Mo_thrown sMo_10).toInt; omega), (by show (Mo_thrown sMo_10).toInt ≤ 2; omega)⟩
          · rw [i_eq] at c_116
            have f_133 := A_Mlengths_at I_sMlengths ((16 : Int32).toNatClampNeg)
            have f_134 := i_natm (16 : Int32)
            have k_135 : (24 : Int32).toInt = 24 := by decide
            unfold Mod_append_j70
            refine So.ite (fun c_136 => ?_) (fun c_136 => ?_)
            · rw [i_le] at c_136
              refine So.gd (i_in.mpr (by omega)) ?_
              have k_137 : ((24 * 16) : Int32).toInt = 384 := by decide
              first | have f_138 := i_add (a := ((24 * 16) : Int32)) (b := (sMlengths ((16 : Int32).toNatClampNeg))) (by omega) (by omega) | have f_138 := i_addm ((24 * 16) : Int32) (sMlengths ((16 : Int32).toNatClampNeg))
              refine So.gd (i_in.mpr (by omega)) ?_
              refine So.lt2 fun sMlists_14 e_139 => ?_
              have f_140 := i_natm ((24 * 16) + (sMlengths ((16 : Int32).toNatClampNeg)))
              have I_141 : A_Mlists sMlists_14 := by rw [e_139]; exact (A_Mlists_upd I_sMlists (by show (0 ≤ (a1 : Int32).toInt ∧ (a1 : Int32).toInt ≤ 63) ∨ (100 ≤ (a1 : Int32).toInt ∧ (a1 : Int32).toInt ≤ 115) ∨ (216 ≤ (a1 : Int32).toInt ∧ (a1 : Int32).toInt ≤ 343) ∨ (400 ≤ (a1 : Int32).toInt ∧ (a1 : Int32).toInt ≤ 487) ∨ (501 ≤ (a1 : Int32).toInt ∧ (a1 : Int32).toInt ≤ 516) ∨ (a1 : Int32).toInt = 520; omega))
              refine So.gd (i_in.mpr (by omega)) ?_
              refine So.gd (i_in.mpr (by omega)) ?_
              refine So.lt2 fun sMlengths_17 e_142 => ?_
              first | have f_143 := i_add (a := (sMlengths ((16 : Int32).toNatClampNeg))) (b := 1) (by omega) (by omega) | have f_143 := i_addm (sMlengths ((16 : Int32).toNatClampNeg)) 1
              have I_144 : A_Mlengths sMlengths_17 := by rw [e_142]; exact (A_Mlengths_upd I_sMlengths (by show 0 ≤ (((sMlengths ((16 : Int32).toNatClampNeg)) + 1) : Int32).toInt ∧ (((sMlengths ((16 : Int32).toNatClampNeg)) + 1) : Int32).toInt ≤ 24 ∧ (((16 : Int32).toNatClampNeg) < 16 → (((sMlengths ((16 : Int32).toNatClampNeg)) + 1) : Int32).toInt ≤ 8); omega))
              refine So.gd (i_in.mpr (by omega)) ?_
              exact So.one ⟨I_4, I_141, I_144, (by show 0 ≤ (Mo_thrown sMo_5).toInt; omega), (by show (Mo_thrown sMo_5).toInt ≤ 2; omega)⟩
            · rw [i_le] at c_136
              exact So.one ⟨I_4, I_sMlists, I_sMlengths, (by show 0 ≤ (Mo_thrown sMo_5).toInt; omega), (by show (Mo_thrown sMo_5).toInt ≤ 2; omega)⟩
      · rw [i_eq] at c_84
        unfold Mod_append_j70
        refine So.ite (fun c_145 => ?_) (fun c_145 => ?_)
        · rw [i_le] at c_145
          have k_146 : (16 : Int32).toInt = 16 := by decide
          refine So.gd (i_in.mpr (by omega)) ?_
          have k_147 : ((24 * 16) : Int32).toInt = 384 := by decide
          have f_148 := A_Mlengths_at I_sMlengths ((16 : Int32).toNatClampNeg)
          have f_149 := i_natm (16 : Int32)
          first | have f_150 := i_add (a := ((24 * 16) : Int32)) (b := (sMlengths ((16 : Int32).toNatClampNeg))) (by omega) (by omega) | have f_150 := i_addm ((24 * 16) : Int32) (sMlengths ((16 : Int32).toNatClampNeg))
          refine So.gd (i_in.mpr (by omega)) ?_
          refine So.lt2 fun sMlists_14 e_151 => ?_
          have f_152 := i_natm ((24 * 16) + (sMlengths ((16 : Int32).toNatClampNeg)))
          have I_153 : A_Mlists sMlists_14 := by rw [e_151]; exact (A_Mlists_upd I_sMlists (by show (0 ≤ (a1 : Int32).toInt ∧ (a1 : Int32).toInt ≤ 63) ∨ (100 ≤ (a1 : Int32).toInt ∧ (a1 : Int32).toInt ≤ 115) ∨ (216 ≤ (a1 : Int32).toInt ∧ (a1 : Int32).toInt ≤ 343) ∨ (400 ≤ (a1 : Int32).toInt ∧ (a1 : Int32).toInt ≤ 487) ∨ (501 ≤ (a1 : Int32).toInt ∧ (a1 : Int32).toInt ≤ 516) ∨ (a1 : Int32).toInt = 520; omega))
          refine So.gd (i_in.mpr (by omega)) ?_
          refine So.gd (i_in.mpr (by omega)) ?_
          refine So.lt2 fun sMlengths_17 e_154 => ?_
          first | have f_155 := i_add (a := (sMlengths ((16 : Int32).toNatClampNeg))) (b := 1) (by omega) (by omega) | have f_155 := i_addm (sMlengths ((16 : Int32).toNatClampNeg)) 1
          have I_156 : A_Mlengths sMlengths_17 := by rw [e_154]; exact (A_Mlengths_upd I_sMlengths (by show 0 ≤ (((sMlengths ((16 : Int32).toNatClampNeg)) + 1) : Int32).toInt ∧ (((sMlengths ((16 : Int32).toNatClampNeg)) + 1) : Int32).toInt ≤ 24 ∧ (((16 : Int32).toNatClampNeg) < 16 → (((sMlengths ((16 : Int32).toNatClampNeg)) + 1) : Int32).toInt ≤ 8); omega))
          refine So.gd (i_in.mpr (by omega)) ?_
          exact So.one ⟨I_4, I_153, I_156, (by show 0 ≤ (Mo_thrown sMo_5).toInt; omega), (by show (Mo_thrown sMo_5).toInt ≤ 2; omega)⟩
        · rw [i_le] at c_145
          exact So.one ⟨I_4, I_sMlists, I_sMlengths, (by show 0 ≤ (Mo_thrown sMo_5).toInt; omega), (by show (Mo_thrown sMo_5).toInt ≤ 2; omega)⟩
  · rw [i_lt] at c_1
    have k_157 : ((-1) : Int32).toInt = -1 := by decide
    refine So.ite (fun c_158 => ?_) (fun c_158 => ?_)
    · rw [i_lt] at c_158
      have k_159 : (15 : Int32).toInt = 15 := by decide
      unfold Mod_append_j19
      unfold Mod_append_j24
      refine So.lt2 fun sMo_5 e_160 => ?_
      have I_161 : I_Mo sMo_5 := by rw [e_160]; exact (I_Mo_set_thrown I_sMo)
      have k_162 : (1 : Int32).toInt = 1 := by decide
      have f_163 : (Mo_thrown sMo_5).toInt = (1 : Int32).toInt := by subst e_160; rfl
      refine So.ite (fun c_164 => ?_) (fun c_164 => ?_)
      · rw [i_le] at c_164
        have k_165 : (0 : Int32).toInt = 0 := by decide
        unfold Mod_append_j37
        refine So.ite (fun c_166 => ?_) (fun c_166 => ?_)
        · rw [i_eq] at c_166
          refine So.gd (i_in.mpr (by omega)) ?_
          refine So.ite (fun c_167 => ?_) (fun c_167 => ?_)
          · rw [i_le] at c_167
            unfold Mod_append_j62
            refine So.ite (fun c_168 => ?_) (fun c_168 => ?_)
            · rw [i_eq] at c_168
              have f_169 := A_Mlengths_at I_sMlengths (a0.toNatClampNeg)
              have f_170 := i_natm a0
              have k_171 : (8 : Int32).toInt = 8 := by decide
              refine So.lt2 fun sMo_10 e_172 => ?_
              have I_173 : I_Mo sMo_10 := by rw [e_172]; exact (I_Mo_set_thrown I_161)
              have k_174 : (2 : Int32).toInt = 2 := by decide
              have f_175 : (Mo_thrown sMo_10).toInt = (2 : Int32).toInt := by subst e_172; rfl
              unfold Mod_append_j70
              refine So.ite (fun c_176 => ?_) (fun c_176 => ?_)
              · rw [i_le] at c_176
                refine So.gd (i_in.mpr (by omega)) ?_
                have k_177 : (24 : Int32).toInt = 24 := by decide
                first | have f_178 := i_mull 24 a0 (24) (by decide) (by omega) (by omega) | have f_178 := i_mullm 24 a0 (24) (by decide)
                first | have f_179 := i_add (a := (24 * a0)) (b := (sMlengths (a0.toNatClampNeg))) (by omega) (by omega) | have f_179 := i_addm (24 * a0) (sMlengths (a0.toNatClampNeg))
                refine So.gd (i_in.mpr (by omega)) ?_
                refine So.lt2 fun sMlists_14 e_180 => ?_
                have f_181 := i_natm ((24 * a0) + (sMlengths (a0.toNatClampNeg)))
                have I_182 : A_Mlists sMlists_14 := by rw [e_180]; exact (A_Mlists_upd I_sMlists (by show (0 ≤ (a1 : Int32).toInt ∧ (a1 : Int32).toInt ≤ 63) ∨ (100 ≤ (a1 : Int32).toInt ∧ (a1 : Int32).toInt ≤ 115) ∨ (216 ≤ (a1 : Int32).toInt ∧ (a1 : Int32).toInt ≤ 343) ∨ (400 ≤ (a1 : Int32).toInt ∧ (a1 : Int32).toInt ≤ 487) ∨ (501 ≤ (a1 : Int32).toInt ∧ (a1 : Int32).toInt ≤ 516) ∨ (a1 : Int32).toInt = 520; omega))
                refine So.gd (i_in.mpr (by omega)) ?_
                refine So.gd (i_in.mpr (by omega)) ?_
                refine So.lt2 fun sMlengths_17 e_183 => ?_
                first | have f_184 := i_add (a := (sMlengths (a0.toNatClampNeg))) (b := 1) (by omega) (by omega) | have f_184 := i_addm (sMlengths (a0.toNatClampNeg)) 1
                have I_185 : A_Mlengths sMlengths_17 := by rw [e_183]; exact (A_Mlengths_upd I_sMlengths (by show 0 ≤ (((sMlengths (a0.toNatClampNeg)) + 1) : Int32).toInt ∧ (((sMlengths (a0.toNatClampNeg)) + 1) : Int32).toInt ≤ 24 ∧ ((a0.toNatClampNeg) < 16 → (((sMlengths (a0.toNatClampNeg)) + 1) : Int32).toInt ≤ 8); omega))
                refine So.gd (i_in.mpr (by omega)) ?_
                exact So.one ⟨I_173, I_182, I_185, (by show 0 ≤ (Mo_thrown sMo_10).toInt; omega), (by show (Mo_thrown sMo_10).toInt ≤ 2; omega)⟩
              · rw [i_le] at c_176
                exact So.one ⟨I_173, I_sMlists, I_sMlengths, (by show 0 ≤ (Mo_thrown sMo_10).toInt; omega), (by show (Mo_thrown sMo_10).toInt ≤ 2; omega)⟩
            · rw [i_eq] at c_168
              have f_186 := A_Mlengths_at I_sMlengths (a0.toNatClampNeg)
              have f_187 := i_natm a0
              have k_188 : (8 : Int32).toInt = 8 := by decide
              unfold Mod_append_j70
              refine So.ite (fun c_189 => ?_) (fun c_189 => ?_)
              · rw [i_le] at c_189
                refine So.gd (i_in.mpr (by omega)) ?_
                have k_190 : (24 : Int32).toInt = 24 := by decide
                first | have f_191 := i_mull 24 a0 (24) (by decide) (by omega) (by omega) | have f_191 := i_mullm 24 a0 (24) (by decide)
                first | have f_192 := i_add (a := (24 * a0)) (b := (sMlengths (a0.toNatClampNeg))) (by omega) (by omega) | have f_192 := i_addm (24 * a0) (sMlengths (a0.toNatClampNeg))
                refine So.gd (i_in.mpr (by omega)) ?_
                refine So.lt2 fun sMlists_14 e_193 => ?_
                have f_194 := i_natm ((24 * a0) + (sMlengths (a0.toNatClampNeg)))
                have I_195 : A_Mlists sMlists_14 := by rw [e_193]; exact (A_Mlists_upd I_sMlists (by show (0 ≤ (a1 : Int32).toInt ∧ (a1 : Int32).toInt ≤ 63) ∨ (100 ≤ (a1 : Int32).toInt ∧ (a1 : Int32).toInt ≤ 115) ∨ (216 ≤ (a1 : Int32).toInt ∧ (a1 : Int32).toInt ≤ 343) ∨ (400 ≤ (a1 : Int32).toInt ∧ (a1 : Int32).toInt ≤ 487) ∨ (501 ≤ (a1 : Int32).toInt ∧ (a1 : Int32).toInt ≤ 516) ∨ (a1 : Int32).toInt = 520; omega))
                refine So.gd (i_in.mpr (by omega)) ?_
                refine So.gd (i_in.mpr (by omega)) ?_
                refine So.lt2 fun sMlengths_17 e_196 => ?_
                first | have f_197 := i_add (a := (sMlengths (a0.toNatClampNeg))) (b := 1) (by omega) (by omega) | have f_197 := i_addm (sMlengths (a0.toNatClampNeg)) 1
                have I_198 : A_Mlengths sMlengths_17 := by rw [e_196]; exact (A_Mlengths_upd I_sMlengths (by show 0 ≤ (((sMlengths (a0.toNatClampNeg)) + 1) : Int32).toInt ∧ (((sMlengths (a0.toNatClampNeg)) + 1) : Int32).toInt ≤ 24 ∧ ((a0.toNatClampNeg) < 16 → (((sMlengths (a0.toNatClampNeg)) + 1) : Int32).toInt ≤ 8); omega))
                refine So.gd (i_in.mpr (by omega)) ?_
                exact So.one ⟨I_161, I_195, I_198, (by show 0 ≤ (Mo_thrown sMo_5).toInt; omega), (by show (Mo_thrown sMo_5).toInt ≤ 2; omega)⟩
              · rw [i_le] at c_189
                exact So.one ⟨I_161, I_sMlists, I_sMlengths, (by show 0 ≤ (Mo_thrown sMo_5).toInt; omega), (by show (Mo_thrown sMo_5).toInt ≤ 2; omega)⟩
          · rw [i_le] at c_167
            unfold Mod_append_j62
            refine So.ite (fun c_199 => ?_) (fun c_199 => ?_)
            · rw [i_eq] at c_199
              have f_200 := A_Mlengths_at I_sMlengths (a0.toNatClampNeg)
              have f_201 := i_natm a0
              have k_202 : (24 : Int32).toInt = 24 := by decide
              refine So.lt2 fun sMo_10 e_203 => ?_
              have I_204 : I_Mo sMo_10 := by rw [e_203]; exact (I_Mo_set_thrown I_161)
              have k_205 : (2 : Int32).toInt = 2 := by decide
              have f_206 : (Mo_thrown sMo_10).toInt = (2 : Int32).toInt := by subst e_203; rfl
              unfold Mod_append_j70
              refine So.ite (fun c_207 => ?_) (fun c_207 => ?_)
              · rw [i_le] at c_207
                refine So.gd (i_in.mpr (by omega)) ?_
                first | have f_208 := i_mull 24 a0 (24) (by decide) (by omega) (by omega) | have f_208 := i_mullm 24 a0 (24) (by decide)
                first | have f_209 := i_add (a := (24 * a0)) (b := (sMlengths (a0.toNatClampNeg))) (by omega) (by omega) | have f_209 := i_addm (24 * a0) (sMlengths (a0.toNatClampNeg))
                refine So.gd (i_in.mpr (by omega)) ?_
                refine So.lt2 fun sMlists_14 e_210 => ?_
                have f_211 := i_natm ((24 * a0) + (sMlengths (a0.toNatClampNeg)))
                have I_212 : A_Mlists sMlists_14 := by rw [e_210]; exact (A_Mlists_upd I_sMlists (by show (0 ≤ (a1 : Int32).toInt ∧ (a1 : Int32).toInt ≤ 63) ∨ (100 ≤ (a1 : Int32).toInt ∧ (a1 : Int32).toInt ≤ 115) ∨ (216 ≤ (a1 : Int32).toInt ∧ (a1 : Int32).toInt ≤ 343) ∨ (400 ≤ (a1 : Int32).toInt ∧ (a1 : Int32).toInt ≤ 487) ∨ (501 ≤ (a1 : Int32).toInt ∧ (a1 : Int32).toInt ≤ 516) ∨ (a1 : Int32).toInt = 520; omega))
                refine So.gd (i_in.mpr (by omega)) ?_
                refine So.gd (i_in.mpr (by omega)) ?_
                refine So.lt2 fun sMlengths_17 e_213 => ?_
                first | have f_214 := i_add (a := (sMlengths (a0.toNatClampNeg))) (b := 1) (by omega) (by omega) | have f_214 := i_addm (sMlengths (a0.toNatClampNeg)) 1
                have I_215 : A_Mlengths sMlengths_17 := by rw [e_213]; exact (A_Mlengths_upd I_sMlengths (by show 0 ≤ (((sMlengths (a0.toNatClampNeg)) + 1) : Int32).toInt ∧ (((sMlengths (a0.toNatClampNeg)) + 1) : Int32).toInt ≤ 24 ∧ ((a0.toNatClampNeg) < 16 → (((sMlengths (a0.toNatClampNeg)) + 1) : Int32).toInt ≤ 8); omega))
                refine So.gd (i_in.mpr (by omega)) ?_
                exact So.one ⟨I_204, I_212, I_215, (by show 0 ≤ (Mo_thrown sMo_10).toInt; omega), (by show (Mo_thrown sMo_10).toInt ≤ 2; omega)⟩
              · rw [i_le] at c_207
                exact So.one ⟨I_204, I_sMlists, I_sMlengths, (by show 0 ≤ (Mo_thrown sMo_10).toInt; omega), (by show (Mo_thrown sMo_10).toInt ≤ 2; omega)⟩
            · rw [i_eq] at c_199
              have f_216 := A_Mlengths_at I_sMlengths (a0.toNatClampNeg)
              have f_217 := i_natm a0
              have k_218 : (24 : Int32).toInt = 24 := by decide
              unfold Mod_append_j70
              refine So.ite (fun c_219 => ?_) (fun c_219 => ?_)
              · rw [i_le] at c_219
                refine So.gd (i_in.mpr (by omega)) ?_
                first | have f_220 := i_mull 24 a0 (24) (by decide) (by omega) (by omega) | have f_220 := i_mullm 24 a0 (24) (by decide)
                first | have f_221 := i_add (a := (24 * a0)) (b := (sMlengths (a0.toNatClampNeg))) (by omega) (by omega) | have f_221 := i_addm (24 * a0) (sMlengths (a0.toNatClampNeg))
                refine So.gd (i_in.mpr (by omega)) ?_
                refine So.lt2 fun sMlists_14 e_222 => ?_
                have f_223 := i_natm ((24 * a0) + (sMlengths (a0.toNatClampNeg)))
                have I_224 : A_Mlists sMlists_14 := by rw [e_222]; exact (A_Mlists_upd I_sMlists (by show (0 ≤ (a1 : Int32).toInt ∧ (a1 : Int32).toInt ≤ 63) ∨ (100 ≤ (a1 : Int32).toInt ∧ (a1 : Int32).toInt ≤ 115) ∨ (216 ≤ (a1 : Int32).toInt ∧ (a1 : Int32).toInt ≤ 343) ∨ (400 ≤ (a1 : Int32).toInt ∧ (a1 : Int32).toInt ≤ 487) ∨ (501 ≤ (a1 : Int32).toInt ∧ (a1 : Int32).toInt ≤ 516) ∨ (a1 : Int32).toInt = 520; omega))
                refine So.gd (i_in.mpr (by omega)) ?_
                refine So.gd (i_in.mpr (by omega)) ?_
                refine So.lt2 fun sMlengths_17 e_225 => ?_
                first | have f_226 := i_add (a := (sMlengths (a0.toNatClampNeg))) (b := 1) (by omega) (by omega) | have f_226 := i_addm (sMlengths (a0.toNatClampNeg)) 1
                have I_227 : A_Mlengths sMlengths_17 := by rw [e_225]; exact (A_Mlengths_upd I_sMlengths (by show 0 ≤ (((sMlengths (a0.toNatClampNeg)) + 1) : Int32).toInt ∧ (((sMlengths (a0.toNatClampNeg)) + 1) : Int32).toInt ≤ 24 ∧ ((a0.toNatClampNeg) < 16 → (((sMlengths (a0.toNatClampNeg)) + 1) : Int32).toInt ≤ 8); omega))
                refine So.gd (i_in.mpr (by omega)) ?_
                exact So.one ⟨I_161, I_224, I_227, (by show 0 ≤ (Mo_thrown sMo_5).toInt; omega), (by show (Mo_thrown sMo_5).toInt ≤ 2; omega)⟩
              · rw [i_le] at c_219
                exact So.one ⟨I_161, I_sMlists, I_sMlengths, (by show 0 ≤ (Mo_thrown sMo_5).toInt; omega), (by show (Mo_thrown sMo_5).toInt ≤ 2; omega)⟩
        · rw [i_eq] at c_166
          unfold Mod_append_j70
          refine So.ite (fun c_228 => ?_) (fun c_228 => ?_)
          · rw [i_le] at c_228
            refine So.gd (i_in.mpr (by omega)) ?_
            have k_229 : (24 : Int32).toInt = 24 := by decide
            first | have f_230 := i_mull 24 a0 (24) (by decide) (by omega) (by omega) | have f_230 := i_mullm 24 a0 (24) (by decide)
            have f_231 := A_Mlengths_at I_sMlengths (a0.toNatClampNeg)
            have f_232 := i_natm a0
            first | have f_233 := i_add (a := (24 * a0)) (b := (sMlengths (a0.toNatClampNeg))) (by omega) (by omega) | have f_233 := i_addm (24 * a0) (sMlengths (a0.toNatClampNeg))
            refine So.gd (i_in.mpr (by omega)) ?_
            refine So.lt2 fun sMlists_14 e_234 => ?_
            have f_235 := i_natm ((24 * a0) + (sMlengths (a0.toNatClampNeg)))
            have I_236 : A_Mlists sMlists_14 := by rw [e_234]; exact (A_Mlists_upd I_sMlists (by show (0 ≤ (a1 : Int32).toInt ∧ (a1 : Int32).toInt ≤ 63) ∨ (100 ≤ (a1 : Int32).toInt ∧ (a1 : Int32).toInt ≤ 115) ∨ (216 ≤ (a1 : Int32).toInt ∧ (a1 : Int32).toInt ≤ 343) ∨ (400 ≤ (a1 : Int32).toInt ∧ (a1 : Int32).toInt ≤ 487) ∨ (501 ≤ (a1 : Int32).toInt ∧ (a1 : Int32).toInt ≤ 516) ∨ (a1 : Int32).toInt = 520; omega))
            refine So.gd (i_in.mpr (by omega)) ?_
            refine So.gd (i_in.mpr (by omega)) ?_
            refine So.lt2 fun sMlengths_17 e_237 => ?_
            first | have f_238 := i_add (a := (sMlengths (a0.toNatClampNeg))) (b := 1) (by omega) (by omega) | have f_238 := i_addm (sMlengths (a0.toNatClampNeg)) 1
            have I_239 : A_Mlengths sMlengths_17 := by rw [e_237]; exact (A_Mlengths_upd I_sMlengths (by show 0 ≤ (((sMlengths (a0.toNatClampNeg)) + 1) : Int32).toInt ∧ (((sMlengths (a0.toNatClampNeg)) + 1) : Int32).toInt ≤ 24 ∧ ((a0.toNatClampNeg) < 16 → (((sMlengths (a0.toNatClampNeg)) + 1) : Int32).toInt ≤ 8); omega))
            refine So.gd (i_in.mpr (by omega)) ?_
            exact So.one ⟨I_161, I_236, I_239, (by show 0 ≤ (Mo_thrown sMo_5).toInt; omega), (by show (Mo_thrown sMo_5).toInt ≤ 2; omega)⟩
          · rw [i_le] at c_228
            exact So.one ⟨I_161, I_sMlists, I_sMlengths, (by show 0 ≤ (Mo_thrown sMo_5).toInt; omega), (by show (Mo_thrown sMo_5).toInt ≤ 2; omega)⟩
      · rw [i_le] at c_164
        have k_240 : (0 : Int32).toInt = 0 := by decide
        unfold Mod_append_j37
        refine So.ite (fun c_241 => ?_) (fun c_241 => ?_)
        · rw [i_eq] at c_241
          have k_242 : (16 : Int32).toInt = 16 := by decide
          refine So.gd (i_in.mpr (by omega)) ?_
          refine So.ite (fun c_243 => ?_) (fun c_243 => ?_)
          · rw [i_le] at c_243
            unfold Mod_append_j62
            refine So.ite (fun c_244 => ?_) (fun c_244 => ?_)
            · rw [i_eq] at c_244
              have f_245 := A_Mlengths_at I_sMlengths ((16 : Int32).toNatClampNeg)
              have f_246 := i_natm (16 : Int32)
              have k_247 : (8 : Int32).toInt = 8 := by decide
              refine So.lt2 fun sMo_10 e_248 => ?_
              have I_249 : I_Mo sMo_10 := by rw [e_248]; exact (I_Mo_set_thrown I_161)
              have k_250 : (2 : Int32).toInt = 2 := by decide
              have f_251 : (Mo_thrown sMo_10).toInt = (2 : Int32).toInt := by subst e_248; rfl
              unfold Mod_append_j70
              refine So.ite (fun c_252 => ?_) (fun c_252 => ?_)
              · rw [i_le] at c_252
                refine So.gd (i_in.mpr (by omega)) ?_
                have k_253 : ((24 * 16) : Int32).toInt = 384 := by decide
                first | have f_254 := i_add (a := ((24 * 16) : Int32)) (b := (sMlengths ((16 : Int32).toNatClampNeg))) (by omega) (by omega) | have f_254 := i_addm ((24 * 16) : Int32) (sMlengths ((16 : Int32).toNatClampNeg))
                refine So.gd (i_in.mpr (by omega)) ?_
                refine So.lt2 fun sMlists_14 e_255 => ?_
                have f_256 := i_natm ((24 * 16) + (sMlengths ((16 : Int32).toNatClampNeg)))
                have I_257 : A_Mlists sMlists_14 := by rw [e_255]; exact (A_Mlists_upd I_sMlists (by show (0 ≤ (a1 : Int32).toInt ∧ (a1 : Int32).toInt ≤ 63) ∨ (100 ≤ (a1 : Int32).toInt ∧ (a1 : Int32).toInt ≤ 115) ∨ (216 ≤ (a1 : Int32).toInt ∧ (a1 : Int32).toInt ≤ 343) ∨ (400 ≤ (a1 : Int32).toInt ∧ (a1 : Int32).toInt ≤ 487) ∨ (501 ≤ (a1 : Int32).toInt ∧ (a1 : Int32).toInt ≤ 516) ∨ (a1 : Int32).toInt = 520; omega))
                refine So.gd (i_in.mpr (by omega)) ?_
                refine So.gd (i_in.mpr (by omega)) ?_
                refine So.lt2 fun sMlengths_17 e_258 => ?_
                first | have f_259 := i_add (a := (sMlengths ((16 : Int32).toNatClampNeg))) (b := 1) (by omega) (by omega) | have f_259 := i_addm (sMlengths ((16 : Int32).toNatClampNeg)) 1
                have I_260 : A_Mlengths sMlengths_17 := by rw [e_258]; exact (A_Mlengths_upd I_sMlengths (by show 0 ≤ (((sMlengths ((16 : Int32).toNatClampNeg)) + 1) : Int32).toInt ∧ (((sMlengths ((16 : Int32).toNatClampNeg)) + 1) : Int32).toInt ≤ 24 ∧ (((16 : Int32).toNatClampNeg) < 16 → (((sMlengths ((16 : Int32).toNatClampNeg)) + 1) : Int32).toInt ≤ 8); omega))
                refine So.gd (i_in.mpr (by omega)) ?_
                exact So.one ⟨I_249, I_257, I_260, (by show 0 ≤ (Mo_thrown sMo_10).toInt; omega), (by show (Mo_thrown sMo_10).toInt ≤ 2; omega)⟩
              · rw [i_le] at c_252
                exact So.one ⟨I_249, I_sMlists, I_sMlengths, (by show 0 ≤ (Mo_thrown sMo_10).toInt; omega), (by show (Mo_thrown sMo_10).toInt ≤ 2; omega)⟩
            · rw [i_eq] at c_244
              have f_261 := A_Mlengths_at I_sMlengths ((16 : Int32).toNatClampNeg)
              have f_262 := i_natm (16 : Int32)
              have k_263 : (8 : Int32).toInt = 8 := by decide
              unfold Mod_append_j70
              refine So.ite (fun c_264 => ?_) (fun c_264 => ?_)
              · rw [i_le] at c_264
                refine So.gd (i_in.mpr (by omega)) ?_
                have k_265 : ((24 * 16) : Int32).toInt = 384 := by decide
                first | have f_266 := i_add (a := ((24 * 16) : Int32)) (b := (sMlengths ((16 : Int32).toNatClampNeg))) (by omega) (by omega) | have f_266 := i_addm ((24 * 16) : Int32) (sMlengths ((16 : Int32).toNatClampNeg))
                refine So.gd (i_in.mpr (by omega)) ?_
                refine So.lt2 fun sMlists_14 e_267 => ?_
                have f_268 := i_natm ((24 * 16) + (sMlengths ((16 : Int32).toNatClampNeg)))
                have I_269 : A_Mlists sMlists_14 := by rw [e_267]; exact (A_Mlists_upd I_sMlists (by show (0 ≤ (a1 : Int32).toInt ∧ (a1 : Int32).toInt ≤ 63) ∨ (100 ≤ (a1 : Int32).toInt ∧ (a1 : Int32).toInt ≤ 115) ∨ (216 ≤ (a1 : Int32).toInt ∧ (a1 : Int32).toInt ≤ 343) ∨ (400 ≤ (a1 : Int32).toInt ∧ (a1 : Int32).toInt ≤ 487) ∨ (501 ≤ (a1 : Int32).toInt ∧ (a1 : Int32).toInt ≤ 516) ∨ (a1 : Int32).toInt = 520; omega))
                refine So.gd (i_in.mpr (by omega)) ?_
                refine So.gd (i_in.mpr (by omega)) ?_
                refine So.lt2 fun sMlengths_17 e_270 => ?_
                first | have f_271 := i_add (a := (sMlengths ((16 : Int32).toNatClampNeg))) (b := 1) (by omega) (by omega) | have f_271 := i_addm (sMlengths ((16 : Int32).toNatClampNeg)) 1
                have I_272 : A_Mlengths sMlengths_17 := by rw [e_270]; exact (A_Mlengths_upd I_sMlengths (by show 0 ≤ (((sMlengths ((16 : Int32).toNatClampNeg)) + 1) : Int32).toInt ∧ (((sMlengths ((16 : Int32).toNatClampNeg)) + 1) : Int32).toInt ≤ 24 ∧ (((16 : Int32).toNatClampNeg) < 16 → (((sMlengths ((16 : Int32).toNatClampNeg)) + 1) : Int32).toInt ≤ 8); omega))
                refine So.gd (i_in.mpr (by omega)) ?_
                exact So.one ⟨I_161, I_269, I_272, (by show 0 ≤ (Mo_thrown sMo_5).toInt; omega), (by show (Mo_thrown sMo_5).toInt ≤ 2; omega)⟩
              · rw [i_le] at c_264
                exact So.one ⟨I_161, I_sMlists, I_sMlengths, (by show 0 ≤ (Mo_thrown sMo_5).toInt; omega), (by show (Mo_thrown sMo_5).toInt ≤ 2; omega)⟩
          · rw [i_le] at c_243
            unfold Mod_append_j62
            refine So.ite (fun c_273 => ?_) (fun c_273 => ?_)
            · rw [i_eq] at c_273
              have f_274 := A_Mlengths_at I_sMlengths ((16 : Int32).toNatClampNeg)
              have f_275 := i_natm (16 : Int32)
              have k_276 : (24 : Int32).toInt = 24 := by decide
              refine So.lt2 fun sMo_10 e_277 => ?_
              have I_278 : I_Mo sMo_10 := by rw [e_277]; exact (I_Mo_set_thrown I_161)
              have k_279 : (2 : Int32).toInt = 2 := by decide
              have f_280 : (Mo_thrown sMo_10).toInt = (2 : Int32).toInt := by subst e_277; rfl
              unfold Mod_append_j70
              refine So.ite (fun c_281 => ?_) (fun c_281 => ?_)
              · rw [i_le] at c_281
                refine So.gd (i_in.mpr (by omega)) ?_
                have k_282 : ((24 * 16) : Int32).toInt = 384 := by decide
                first | have f_283 := i_add (a := ((24 * 16) : Int32)) (b := (sMlengths ((16 : Int32).toNatClampNeg))) (by omega) (by omega) | have f_283 := i_addm ((24 * 16) : Int32) (sMlengths ((16 : Int32).toNatClampNeg))
                refine So.gd (i_in.mpr (by omega)) ?_
                refine So.lt2 fun sMlists_14 e_284 => ?_
                have f_285 := i_natm ((24 * 16) + (sMlengths ((16 : Int32).toNatClampNeg)))
                have I_286 : A_Mlists sMlists_14 := by rw [e_284]; exact (A_Mlists_upd I_sMlists (by show (0 ≤ (a1 : Int32).toInt ∧ (a1 : Int32).toInt ≤ 63) ∨ (100 ≤ (a1 : Int32).toInt ∧ (a1 : Int32).toInt ≤ 115) ∨ (216 ≤ (a1 : Int32).toInt ∧ (a1 : Int32).toInt ≤ 343) ∨ (400 ≤ (a1 : Int32).toInt ∧ (a1 : Int32).toInt ≤ 487) ∨ (501 ≤ (a1 : Int32).toInt ∧ (a1 : Int32).toInt ≤ 516) ∨ (a1 : Int32).toInt = 520; omega))
                refine So.gd (i_in.mpr (by omega)) ?_
                refine So.gd (i_in.mpr (by omega)) ?_
                refine So.lt2 fun sMlengths_17 e_287 => ?_
                first | have f_288 := i_add (a := (sMlengths ((16 : Int32).toNatClampNeg))) (b := 1) (by omega) (by omega) | have f_288 := i_addm (sMlengths ((16 : Int32).toNatClampNeg)) 1
                have I_289 : A_Mlengths sMlengths_17 := by rw [e_287]; exact (A_Mlengths_upd I_sMlengths (by show 0 ≤ (((sMlengths ((16 : Int32).toNatClampNeg)) + 1) : Int32).toInt ∧ (((sMlengths ((16 : Int32).toNatClampNeg)) + 1) : Int32).toInt ≤ 24 ∧ (((16 : Int32).toNatClampNeg) < 16 → (((sMlengths ((16 : Int32).toNatClampNeg)) + 1) : Int32).toInt ≤ 8); omega))
                refine So.gd (i_in.mpr (by omega)) ?_
                exact So.one ⟨I_278, I_286, I_289, (by show 0 ≤ (Mo_thrown sMo_10).toInt; omega), (by show (Mo_thrown sMo_10).toInt ≤ 2; omega)⟩
              · rw [i_le] at c_281
                exact So.one ⟨I_278, I_sMlists, I_sMlengths, (by show 0 ≤ (Mo_thrown sMo_10).toInt; omega), (by show (Mo_thrown sMo_10).toInt ≤ 2; omega)⟩
            · rw [i_eq] at c_273
              have f_290 := A_Mlengths_at I_sMlengths ((16 : Int32).toNatClampNeg)
              have f_291 := i_natm (16 : Int32)
              have k_292 : (24 : Int32).toInt = 24 := by decide
              unfold Mod_append_j70
              refine So.ite (fun c_293 => ?_) (fun c_293 => ?_)
              · rw [i_le] at c_293
                refine So.gd (i_in.mpr (by omega)) ?_
                have k_294 : ((24 * 16) : Int32).toInt = 384 := by decide
                first | have f_295 := i_add (a := ((24 * 16) : Int32)) (b := (sMlengths ((16 : Int32).toNatClampNeg))) (by omega) (by omega) | have f_295 := i_addm ((24 * 16) : Int32) (sMlengths ((16 : Int32).toNatClampNeg))
                refine So.gd (i_in.mpr (by omega)) ?_
                refine So.lt2 fun sMlists_14 e_296 => ?_
                have f_297 := i_natm ((24 * 16) + (sMlengths ((16 : Int32).toNatClampNeg)))
                have I_298 : A_Mlists sMlists_14 := by rw [e_296]; exact (A_Mlists_upd I_sMlists (by show (0 ≤ (a1 : Int32).toInt ∧ (a1 : Int32).toInt ≤ 63) ∨ (100 ≤ (a1 : Int32).toInt ∧ (a1 : Int32).toInt ≤ 115) ∨ (216 ≤ (a1 : Int32).toInt ∧ (a1 : Int32).toInt ≤ 343) ∨ (400 ≤ (a1 : Int32).toInt ∧ (a1 : Int32).toInt ≤ 487) ∨ (501 ≤ (a1 : Int32).toInt ∧ (a1 : Int32).toInt ≤ 516) ∨ (a1 : Int32).toInt = 520; omega))
                refine So.gd (i_in.mpr (by omega)) ?_
                refine So.gd (i_in.mpr (by omega)) ?_
                refine So.lt2 fun sMlengths_17 e_299 => ?_
                first | have f_300 := i_add (a := (sMlengths ((16 : Int32).toNatClampNeg))) (b := 1) (by omega) (by omega) | have f_300 := i_addm (sMlengths ((16 : Int32).toNatClampNeg)) 1
                have I_301 : A_Mlengths sMlengths_17 := by rw [e_299]; exact (A_Mlengths_upd I_sMlengths (by show 0 ≤ (((sMlengths ((16 : Int32).toNatClampNeg)) + 1) : Int32).toInt ∧ (((sMlengths ((16 : Int32).toNatClampNeg)) + 1) : Int32).toInt ≤ 24 ∧ (((16 : Int32).toNatClampNeg) < 16 → (((sMlengths ((16 : Int32).toNatClampNeg)) + 1) : Int32).toInt ≤ 8); omega))
                refine So.gd (i_in.mpr (by omega)) ?_
                exact So.one ⟨I_161, I_298, I_301, (by show 0 ≤ (Mo_thrown sMo_5).toInt; omega), (by show (Mo_thrown sMo_5).toInt ≤ 2; omega)⟩
              · rw [i_le] at c_293
                exact So.one ⟨I_161, I_sMlists, I_sMlengths, (by show 0 ≤ (Mo_thrown sMo_5).toInt; omega), (by show (Mo_thrown sMo_5).toInt ≤ 2; omega)⟩
        · rw [i_eq] at c_241
          unfold Mod_append_j70
          refine So.ite (fun c_302 => ?_) (fun c_302 => ?_)
          · rw [i_le] at c_302
            have k_303 : (16 : Int32).toInt = 16 := by decide
            refine So.gd (i_in.mpr (by omega)) ?_
            have k_304 : ((24 * 16) : Int32).toInt = 384 := by decide
            have f_305 := A_Mlengths_at I_sMlengths ((16 : Int32).toNatClampNeg)
            have f_306 := i_natm (16 : Int32)
            first | have f_307 := i_add (a := ((24 * 16) : Int32)) (b := (sMlengths ((16 : Int32).toNatClampNeg))) (by omega) (by omega) | have f_307 := i_addm ((24 * 16) : Int32) (sMlengths ((16 : Int32).toNatClampNeg))
            refine So.gd (i_in.mpr (by omega)) ?_
            refine So.lt2 fun sMlists_14 e_308 => ?_
            have f_309 := i_natm ((24 * 16) + (sMlengths ((16 : Int32).toNatClampNeg)))
            have I_310 : A_Mlists sMlists_14 := by rw [e_308]; exact (A_Mlists_upd I_sMlists (by show (0 ≤ (a1 : Int32).toInt ∧ (a1 : Int32).toInt ≤ 63) ∨ (100 ≤ (a1 : Int32).toInt ∧ (a1 : Int32).toInt ≤ 115) ∨ (216 ≤ (a1 : Int32).toInt ∧ (a1 : Int32).toInt ≤ 343) ∨ (400 ≤ (a1 : Int32).toInt ∧ (a1 : Int32).toInt ≤ 487) ∨ (501 ≤ (a1 : Int32).toInt ∧ (a1 : Int32).toInt ≤ 516) ∨ (a1 : Int32).toInt = 520; omega))
            refine So.gd (i_in.mpr (by omega)) ?_
            refine So.gd (i_in.mpr (by omega)) ?_
            refine So.lt2 fun sMlengths_17 e_311 => ?_
            first | have f_312 := i_add (a := (sMlengths ((16 : Int32).toNatClampNeg))) (b := 1) (by omega) (by omega) | have f_312 := i_addm (sMlengths ((16 : Int32).toNatClampNeg)) 1
            have I_313 : A_Mlengths sMlengths_17 := by rw [e_311]; exact (A_Mlengths_upd I_sMlengths (by show 0 ≤ (((sMlengths ((16 : Int32).toNatClampNeg)) + 1) : Int32).toInt ∧ (((sMlengths ((16 : Int32).toNatClampNeg)) + 1) : Int32).toInt ≤ 24 ∧ (((16 : Int32).toNatClampNeg) < 16 → (((sMlengths ((16 : Int32).toNatClampNeg)) + 1) : Int32).toInt ≤ 8); omega))
            refine So.gd (i_in.mpr (by omega)) ?_
            exact So.one ⟨I_161, I_310, I_313, (by show 0 ≤ (Mo_thrown sMo_5).toInt; omega), (by show (Mo_thrown sMo_5).toInt ≤ 2; omega)⟩
          · rw [i_le] at c_302
            exact So.one ⟨I_161, I_sMlists, I_sMlengths, (by show 0 ≤ (Mo_thrown sMo_5).toInt; omega), (by show (Mo_thrown sMo_5).toInt ≤ 2; omega)⟩
    · rw [i_lt] at c_158
      have k_314 : (15 : Int32).toInt = 15 := by decide
      refine So.bd (t_Mod_isDescriptor ) fun q1 h_315 => ?_
      have p_316 := h_315
      refine So.ite (fun c_317 => ?_) (fun c_317 => ?_)
      · rw [i_eq] at c_317
        have k_318 : (0 : Int32).toInt = 0 := by decide
        unfold Mod_append_j19
        unfold Mod_append_j24
        refine So.lt2 fun sMo_5 e_319 => ?_
        have I_320 : I_Mo sMo_5 := by rw [e_319]; exact (I_Mo_set_thrown I_sMo)
        have k_321 : (1 : Int32).toInt = 1 := by decide
        have f_322 : (Mo_thrown sMo_5).toInt = (1 : Int32).toInt := by subst e_319; rfl
        refine So.ite (fun c_323 => ?_) (fun c_323 => ?_)
        · rw [i_le] at c_323
          unfold Mod_append_j37
          refine So.ite (fun c_324 => ?_) (fun c_324 => ?_)
          · rw [i_eq] at c_324
            refine So.gd (i_in.mpr (by omega)) ?_
            refine So.ite (fun c_325 => ?_) (fun c_325 => ?_)
            · rw [i_le] at c_325
              unfold Mod_append_j62
              refine So.ite (fun c_326 => ?_) (fun c_326 => ?_)
              · rw [i_eq] at c_326
                have f_327 := A_Mlengths_at I_sMlengths (a0.toNatClampNeg)
                have f_328 := i_natm a0
                have k_329 : (8 : Int32).toInt = 8 := by decide
                refine So.lt2 fun sMo_10 e_330 => ?_
                have I_331 : I_Mo sMo_10 := by rw [e_330]; exact (I_Mo_set_thrown I_320)
                have k_332 : (2 : Int32).toInt = 2 := by decide
                have f_333 : (Mo_thrown sMo_10).toInt = (2 : Int32).toInt := by subst e_330; rfl
                unfold Mod_append_j70
                refine So.ite (fun c_334 => ?_) (fun c_334 => ?_)
                · rw [i_le] at c_334
                  refine So.gd (i_in.mpr (by omega)) ?_
                  have k_335 : (24 : Int32).toInt = 24 := by decide
                  first | have f_336 := i_mull 24 a0 (24) (by decide) (by omega) (by omega) | have f_336 := i_mullm 24 a0 (24) (by decide)
                  first | have f_337 := i_add (a := (24 * a0)) (b := (sMlengths (a0.toNatClampNeg))) (by omega) (by omega) | have f_337 := i_addm (24 * a0) (sMlengths (a0.toNatClampNeg))
                  refine So.gd (i_in.mpr (by omega)) ?_
                  refine So.lt2 fun sMlists_14 e_338 => ?_
                  have f_339 := i_natm ((24 * a0) + (sMlengths (a0.toNatClampNeg)))
                  have I_340 : A_Mlists sMlists_14 := by rw [e_338]; exact (A_Mlists_upd I_sMlists (by show (0 ≤ (a1 : Int32).toInt ∧ (a1 : Int32).toInt ≤ 63) ∨ (100 ≤ (a1 : Int32).toInt ∧ (a1 : Int32).toInt ≤ 115) ∨ (216 ≤ (a1 : Int32).toInt ∧ (a1 : Int32).toInt ≤ 343) ∨ (400 ≤ (a1 : Int32).toInt ∧ (a1 : Int32).toInt ≤ 487) ∨ (501 ≤ (a1 : Int32).toInt ∧ (a1 : Int32).toInt ≤ 516) ∨ (a1 : Int32).toInt = 520; omega))
                  refine So.gd (i_in.mpr (by omega)) ?_
                  refine So.gd (i_in.mpr (by omega)) ?_
                  refine So.lt2 fun sMlengths_17 e_341 => ?_
                  first | have f_342 := i_add (a := (sMlengths (a0.toNatClampNeg))) (b := 1) (by omega) (by omega) | have f_342 := i_addm (sMlengths (a0.toNatClampNeg)) 1
                  have I_343 : A_Mlengths sMlengths_17 := by rw [e_341]; exact (A_Mlengths_upd I_sMlengths (by show 0 ≤ (((sMlengths (a0.toNatClampNeg)) + 1) : Int32).toInt ∧ (((sMlengths (a0.toNatClampNeg)) + 1) : Int32).toInt ≤ 24 ∧ ((a0.toNatClampNeg) < 16 → (((sMlengths (a0.toNatClampNeg)) + 1) : Int32).toInt ≤ 8); omega))
                  refine So.gd (i_in.mpr (by omega)) ?_
                  exact So.one ⟨I_331, I_340, I_343, (by show 0 ≤ (Mo_thrown sMo_10).toInt; omega), (by show (Mo_thrown sMo_10).toInt ≤ 2; omega)⟩
                · rw [i_le] at c_334
                  exact So.one ⟨I_331, I_sMlists, I_sMlengths, (by show 0 ≤ (Mo_thrown sMo_10).toInt; omega), (by show (Mo_thrown sMo_10).toInt ≤ 2; omega)⟩
              · rw [i_eq] at c_326
                have f_344 := A_Mlengths_at I_sMlengths (a0.toNatClampNeg)
                have f_345 := i_natm a0
                have k_346 : (8 : Int32).toInt = 8 := by decide
                unfold Mod_append_j70
                refine So.ite (fun c_347 => ?_) (fun c_347 => ?_)
                · rw [i_le] at c_347
                  refine So.gd (i_in.mpr (by omega)) ?_
                  have k_348 : (24 : Int32).toInt = 24 := by decide
                  first | have f_349 := i_mull 24 a0 (24) (by decide) (by omega) (by omega) | have f_349 := i_mullm 24 a0 (24) (by decide)
                  first | have f_350 := i_add (a := (24 * a0)) (b := (sMlengths (a0.toNatClampNeg))) (by omega) (by omega) | have f_350 := i_addm (24 * a0) (sMlengths (a0.toNatClampNeg))
                  refine So.gd (i_in.mpr (by omega)) ?_
                  refine So.lt2 fun sMlists_14 e_351 => ?_
                  have f_352 := i_natm ((24 * a0) + (sMlengths (a0.toNatClampNeg)))
                  have I_353 : A_Mlists sMlists_14 := by rw [e_351]; exact (A_Mlists_upd I_sMlists (by show (0 ≤ (a1 : Int32).toInt ∧ (a1 : Int32).toInt ≤ 63) ∨ (100 ≤ (a1 : Int32).toInt ∧ (a1 : Int32).toInt ≤ 115) ∨ (216 ≤ (a1 : Int32).toInt ∧ (a1 : Int32).toInt ≤ 343) ∨ (400 ≤ (a1 : Int32).toInt ∧ (a1 : Int32).toInt ≤ 487) ∨ (501 ≤ (a1 : Int32).toInt ∧ (a1 : Int32).toInt ≤ 516) ∨ (a1 : Int32).toInt = 520; omega))
                  refine So.gd (i_in.mpr (by omega)) ?_
                  refine So.gd (i_in.mpr (by omega)) ?_
                  refine So.lt2 fun sMlengths_17 e_354 => ?_
                  first | have f_355 := i_add (a := (sMlengths (a0.toNatClampNeg))) (b := 1) (by omega) (by omega) | have f_355 := i_addm (sMlengths (a0.toNatClampNeg)) 1
                  have I_356 : A_Mlengths sMlengths_17 := by rw [e_354]; exact (A_Mlengths_upd I_sMlengths (by show 0 ≤ (((sMlengths (a0.toNatClampNeg)) + 1) : Int32).toInt ∧ (((sMlengths (a0.toNatClampNeg)) + 1) : Int32).toInt ≤ 24 ∧ ((a0.toNatClampNeg) < 16 → (((sMlengths (a0.toNatClampNeg)) + 1) : Int32).toInt ≤ 8); omega))
                  refine So.gd (i_in.mpr (by omega)) ?_
                  exact So.one ⟨I_320, I_353, I_356, (by show 0 ≤ (Mo_thrown sMo_5).toInt; omega), (by show (Mo_thrown sMo_5).toInt ≤ 2; omega)⟩
                · rw [i_le] at c_347
                  exact So.one ⟨I_320, I_sMlists, I_sMlengths, (by show 0 ≤ (Mo_thrown sMo_5).toInt; omega), (by show (Mo_thrown sMo_5).toInt ≤ 2; omega)⟩
            · rw [i_le] at c_325
              unfold Mod_append_j62
              refine So.ite (fun c_357 => ?_) (fun c_357 => ?_)
              · rw [i_eq] at c_357
                have f_358 := A_Mlengths_at I_sMlengths (a0.toNatClampNeg)
                have f_359 := i_natm a0
                have k_360 : (24 : Int32).toInt = 24 := by decide
                refine So.lt2 fun sMo_10 e_361 => ?_
                have I_362 : I_Mo sMo_10 := by rw [e_361]; exact (I_Mo_set_thrown I_320)
                have k_363 : (2 : Int32).toInt = 2 := by decide
                have f_364 : (Mo_thrown sMo_10).toInt = (2 : Int32).toInt := by subst e_361; rfl
                unfold Mod_append_j70
                refine So.ite (fun c_365 => ?_) (fun c_365 => ?_)
                · rw [i_le] at c_365
                  refine So.gd (i_in.mpr (by omega)) ?_
                  first | have f_366 := i_mull 24 a0 (24) (by decide) (by omega) (by omega) | have f_366 := i_mullm 24 a0 (24) (by decide)
                  first | have f_367 := i_add (a := (24 * a0)) (b := (sMlengths (a0.toNatClampNeg))) (by omega) (by omega) | have f_367 := i_addm (24 * a0) (sMlengths (a0.toNatClampNeg))
                  refine So.gd (i_in.mpr (by omega)) ?_
                  refine So.lt2 fun sMlists_14 e_368 => ?_
                  have f_369 := i_natm ((24 * a0) + (sMlengths (a0.toNatClampNeg)))
                  have I_370 : A_Mlists sMlists_14 := by rw [e_368]; exact (A_Mlists_upd I_sMlists (by show (0 ≤ (a1 : Int32).toInt ∧ (a1 : Int32).toInt ≤ 63) ∨ (100 ≤ (a1 : Int32).toInt ∧ (a1 : Int32).toInt ≤ 115) ∨ (216 ≤ (a1 : Int32).toInt ∧ (a1 : Int32).toInt ≤ 343) ∨ (400 ≤ (a1 : Int32).toInt ∧ (a1 : Int32).toInt ≤ 487) ∨ (501 ≤ (a1 : Int32).toInt ∧ (a1 : Int32).toInt ≤ 516) ∨ (a1 : Int32).toInt = 520; omega))
                  refine So.gd (i_in.mpr (by omega)) ?_
                  refine So.gd (i_in.mpr (by omega)) ?_
                  refine So.lt2 fun sMlengths_17 e_371 => ?_
                  first | have f_372 := i_add (a := (sMlengths (a0.toNatClampNeg))) (b := 1) (by omega) (by omega) | have f_372 := i_addm (sMlengths (a0.toNatClampNeg)) 1
                  have I_373 : A_Mlengths sMlengths_17 := by rw [e_371]; exact (A_Mlengths_upd I_sMlengths (by show 0 ≤ (((sMlengths (a0.toNatClampNeg)) + 1) : Int32).toInt ∧ (((sMlengths (a0.toNatClampNeg)) + 1) : Int32).toInt ≤ 24 ∧ ((a0.toNatClampNeg) < 16 → (((sMlengths (a0.toNatClampNeg)) + 1) : Int32).toInt ≤ 8); omega))
                  refine So.gd (i_in.mpr (by omega)) ?_
                  exact So.one ⟨I_362, I_370, I_373, (by show 0 ≤ (Mo_thrown sMo_10).toInt; omega), (by show (Mo_thrown sMo_10).toInt ≤ 2; omega)⟩
                · rw [i_le] at c_365
                  exact So.one ⟨I_362, I_sMlists, I_sMlengths, (by show 0 ≤ (Mo_thrown sMo_10).toInt; omega), (by show (Mo_thrown sMo_10).toInt ≤ 2; omega)⟩
              · rw [i_eq] at c_357
                have f_374 := A_Mlengths_at I_sMlengths (a0.toNatClampNeg)
                have f_375 := i_natm a0
                have k_376 : (24 : Int32).toInt = 24 := by decide
                unfold Mod_append_j70
                refine So.ite (fun c_377 => ?_) (fun c_377 => ?_)
                · rw [i_le] at c_377
                  refine So.gd (i_in.mpr (by omega)) ?_
                  first | have f_378 := i_mull 24 a0 (24) (by decide) (by omega) (by omega) | have f_378 := i_mullm 24 a0 (24) (by decide)
                  first | have f_379 := i_add (a := (24 * a0)) (b := (sMlengths (a0.toNatClampNeg))) (by omega) (by omega) | have f_379 := i_addm (24 * a0) (sMlengths (a0.toNatClampNeg))
                  refine So.gd (i_in.mpr (by omega)) ?_
                  refine So.lt2 fun sMlists_14 e_380 => ?_
                  have f_381 := i_natm ((24 * a0) + (sMlengths (a0.toNatClampNeg)))
                  have I_382 : A_Mlists sMlists_14 := by rw [e_380]; exact (A_Mlists_upd I_sMlists (by show (0 ≤ (a1 : Int32).toInt ∧ (a1 : Int32).toInt ≤ 63) ∨ (100 ≤ (a1 : Int32).toInt ∧ (a1 : Int32).toInt ≤ 115) ∨ (216 ≤ (a1 : Int32).toInt ∧ (a1 : Int32).toInt ≤ 343) ∨ (400 ≤ (a1 : Int32).toInt ∧ (a1 : Int32).toInt ≤ 487) ∨ (501 ≤ (a1 : Int32).toInt ∧ (a1 : Int32).toInt ≤ 516) ∨ (a1 : Int32).toInt = 520; omega))
                  refine So.gd (i_in.mpr (by omega)) ?_
                  refine So.gd (i_in.mpr (by omega)) ?_
                  refine So.lt2 fun sMlengths_17 e_383 => ?_
                  first | have f_384 := i_add (a := (sMlengths (a0.toNatClampNeg))) (b := 1) (by omega) (by omega) | have f_384 := i_addm (sMlengths (a0.toNatClampNeg)) 1
                  have I_385 : A_Mlengths sMlengths_17 := by rw [e_383]; exact (A_Mlengths_upd I_sMlengths (by show 0 ≤ (((sMlengths (a0.toNatClampNeg)) + 1) : Int32).toInt ∧ (((sMlengths (a0.toNatClampNeg)) + 1) : Int32).toInt ≤ 24 ∧ ((a0.toNatClampNeg) < 16 → (((sMlengths (a0.toNatClampNeg)) + 1) : Int32).toInt ≤ 8); omega))
                  refine So.gd (i_in.mpr (by omega)) ?_
                  exact So.one ⟨I_320, I_382, I_385, (by show 0 ≤ (Mo_thrown sMo_5).toInt; omega), (by show (Mo_thrown sMo_5).toInt ≤ 2; omega)⟩
                · rw [i_le] at c_377
                  exact So.one ⟨I_320, I_sMlists, I_sMlengths, (by show 0 ≤ (Mo_thrown sMo_5).toInt; omega), (by show (Mo_thrown sMo_5).toInt ≤ 2; omega)⟩
          · rw [i_eq] at c_324
            unfold Mod_append_j70
            refine So.ite (fun c_386 => ?_) (fun c_386 => ?_)
            · rw [i_le] at c_386
              refine So.gd (i_in.mpr (by omega)) ?_
              have k_387 : (24 : Int32).toInt = 24 := by decide
              first | have f_388 := i_mull 24 a0 (24) (by decide) (by omega) (by omega) | have f_388 := i_mullm 24 a0 (24) (by decide)
              have f_389 := A_Mlengths_at I_sMlengths (a0.toNatClampNeg)
              have f_390 := i_natm a0
              first | have f_391 := i_add (a := (24 * a0)) (b := (sMlengths (a0.toNatClampNeg))) (by omega) (by omega) | have f_391 := i_addm (24 * a0) (sMlengths (a0.toNatClampNeg))
              refine So.gd (i_in.mpr (by omega)) ?_
              refine So.lt2 fun sMlists_14 e_392 => ?_
              have f_393 := i_natm ((24 * a0) + (sMlengths (a0.toNatClampNeg)))
              have I_394 : A_Mlists sMlists_14 := by rw [e_392]; exact (A_Mlists_upd I_sMlists (by show (0 ≤ (a1 : Int32).toInt ∧ (a1 : Int32).toInt ≤ 63) ∨ (100 ≤ (a1 : Int32).toInt ∧ (a1 : Int32).toInt ≤ 115) ∨ (216 ≤ (a1 : Int32).toInt ∧ (a1 : Int32).toInt ≤ 343) ∨ (400 ≤ (a1 : Int32).toInt ∧ (a1 : Int32).toInt ≤ 487) ∨ (501 ≤ (a1 : Int32).toInt ∧ (a1 : Int32).toInt ≤ 516) ∨ (a1 : Int32).toInt = 520; omega))
              refine So.gd (i_in.mpr (by omega)) ?_
              refine So.gd (i_in.mpr (by omega)) ?_
              refine So.lt2 fun sMlengths_17 e_395 => ?_
              first | have f_396 := i_add (a := (sMlengths (a0.toNatClampNeg))) (b := 1) (by omega) (by omega) | have f_396 := i_addm (sMlengths (a0.toNatClampNeg)) 1
              have I_397 : A_Mlengths sMlengths_17 := by rw [e_395]; exact (A_Mlengths_upd I_sMlengths (by show 0 ≤ (((sMlengths (a0.toNatClampNeg)) + 1) : Int32).toInt ∧ (((sMlengths (a0.toNatClampNeg)) + 1) : Int32).toInt ≤ 24 ∧ ((a0.toNatClampNeg) < 16 → (((sMlengths (a0.toNatClampNeg)) + 1) : Int32).toInt ≤ 8); omega))
              refine So.gd (i_in.mpr (by omega)) ?_
              exact So.one ⟨I_320, I_394, I_397, (by show 0 ≤ (Mo_thrown sMo_5).toInt; omega), (by show (Mo_thrown sMo_5).toInt ≤ 2; omega)⟩
            · rw [i_le] at c_386
              exact So.one ⟨I_320, I_sMlists, I_sMlengths, (by show 0 ≤ (Mo_thrown sMo_5).toInt; omega), (by show (Mo_thrown sMo_5).toInt ≤ 2; omega)⟩
        · rw [i_le] at c_323
          unfold Mod_append_j37
          refine So.ite (fun c_398 => ?_) (fun c_398 => ?_)
          · rw [i_eq] at c_398
            have k_399 : (16 : Int32).toInt = 16 := by decide
            refine So.gd (i_in.mpr (by omega)) ?_
            refine So.ite (fun c_400 => ?_) (fun c_400 => ?_)
            · rw [i_le] at c_400
              unfold Mod_append_j62
              refine So.ite (fun c_401 => ?_) (fun c_401 => ?_)
              · rw [i_eq] at c_401
                have f_402 := A_Mlengths_at I_sMlengths ((16 : Int32).toNatClampNeg)
                have f_403 := i_natm (16 : Int32)
                have k_404 : (8 : Int32).toInt = 8 := by decide
                refine So.lt2 fun sMo_10 e_405 => ?_
                have I_406 : I_Mo sMo_10 := by rw [e_405]; exact (I_Mo_set_thrown I_320)
                have k_407 : (2 : Int32).toInt = 2 := by decide
                have f_408 : (Mo_thrown sMo_10).toInt = (2 : Int32).toInt := by subst e_405; rfl
                unfold Mod_append_j70
                refine So.ite (fun c_409 => ?_) (fun c_409 => ?_)
                · rw [i_le] at c_409
                  refine So.gd (i_in.mpr (by omega)) ?_
                  have k_410 : ((24 * 16) : Int32).toInt = 384 := by decide
                  first | have f_411 := i_add (a := ((24 * 16) : Int32)) (b := (sMlengths ((16 : Int32).toNatClampNeg))) (by omega) (by omega) | have f_411 := i_addm ((24 * 16) : Int32) (sMlengths ((16 : Int32).toNatClampNeg))
                  refine So.gd (i_in.mpr (by omega)) ?_
                  refine So.lt2 fun sMlists_14 e_412 => ?_
                  have f_413 := i_natm ((24 * 16) + (sMlengths ((16 : Int32).toNatClampNeg)))
                  have I_414 : A_Mlists sMlists_14 := by rw [e_412]; exact (A_Mlists_upd I_sMlists (by show (0 ≤ (a1 : Int32).toInt ∧ (a1 : Int32).toInt ≤ 63) ∨ (100 ≤ (a1 : Int32).toInt ∧ (a1 : Int32).toInt ≤ 115) ∨ (216 ≤ (a1 : Int32).toInt ∧ (a1 : Int32).toInt ≤ 343) ∨ (400 ≤ (a1 : Int32).toInt ∧ (a1 : Int32).toInt ≤ 487) ∨ (501 ≤ (a1 : Int32).toInt ∧ (a1 : Int32).toInt ≤ 516) ∨ (a1 : Int32).toInt = 520; omega))
                  refine So.gd (i_in.mpr (by omega)) ?_
                  refine So.gd (i_in.mpr (by omega)) ?_
                  refine So.lt2 fun sMlengths_17 e_415 => ?_
                  first | have f_416 := i_add (a := (sMlengths ((16 : Int32).toNatClampNeg))) (b := 1) (by omega) (by omega) | have f_416 := i_addm (sMlengths ((16 : Int32).toNatClampNeg)) 1
                  have I_417 : A_Mlengths sMlengths_17 := by rw [e_415]; exact (A_Mlengths_upd I_sMlengths (by show 0 ≤ (((sMlengths ((16 : Int32).toNatClampNeg)) + 1) : Int32).toInt ∧ (((sMlengths ((16 : Int32).toNatClampNeg)) + 1) : Int32).toInt ≤ 24 ∧ (((16 : Int32).toNatClampNeg) < 16 → (((sMlengths ((16 : Int32).toNatClampNeg)) + 1) : Int32).toInt ≤ 8); omega))
                  refine So.gd (i_in.mpr (by omega)) ?_
                  exact So.one ⟨I_406, I_414, I_417, (by show 0 ≤ (Mo_thrown sMo_10).toInt; omega), (by show (Mo_thrown sMo_10).toInt ≤ 2; omega)⟩
                · rw [i_le] at c_409
                  exact So.one ⟨I_406, I_sMlists, I_sMlengths, (by show 0 ≤ (Mo_thrown sMo_10).toInt; omega), (by show (Mo_thrown sMo_10).toInt ≤ 2; omega)⟩
              · rw [i_eq] at c_401
                have f_418 := A_Mlengths_at I_sMlengths ((16 : Int32).toNatClampNeg)
                have f_419 := i_natm (16 : Int32)
                have k_420 : (8 : Int32).toInt = 8 := by decide
                unfold Mod_append_j70
                refine So.ite (fun c_421 => ?_) (fun c_421 => ?_)
                · rw [i_le] at c_421
                  refine So.gd (i_in.mpr (by omega)) ?_
                  have k_422 : ((24 * 16) : Int32).toInt = 384 := by decide
                  first | have f_423 := i_add (a := ((24 * 16) : Int32)) (b := (sMlengths ((16 : Int32).toNatClampNeg))) (by omega) (by omega) | have f_423 := i_addm ((24 * 16) : Int32) (sMlengths ((16 : Int32).toNatClampNeg))
                  refine So.gd (i_in.mpr (by omega)) ?_
                  refine So.lt2 fun sMlists_14 e_424 => ?_
                  have f_425 := i_natm ((24 * 16) + (sMlengths ((16 : Int32).toNatClampNeg)))
                  have I_426 : A_Mlists sMlists_14 := by rw [e_424]; exact (A_Mlists_upd I_sMlists (by show (0 ≤ (a1 : Int32).toInt ∧ (a1 : Int32).toInt ≤ 63) ∨ (100 ≤ (a1 : Int32).toInt ∧ (a1 : Int32).toInt ≤ 115) ∨ (216 ≤ (a1 : Int32).toInt ∧ (a1 : Int32).toInt ≤ 343) ∨ (400 ≤ (a1 : Int32).toInt ∧ (a1 : Int32).toInt ≤ 487) ∨ (501 ≤ (a1 : Int32).toInt ∧ (a1 : Int32).toInt ≤ 516) ∨ (a1 : Int32).toInt = 520; omega))
                  refine So.gd (i_in.mpr (by omega)) ?_
                  refine So.gd (i_in.mpr (by omega)) ?_
                  refine So.lt2 fun sMlengths_17 e_427 => ?_
                  first | have f_428 := i_add (a := (sMlengths ((16 : Int32).toNatClampNeg))) (b := 1) (by omega) (by omega) | have f_428 := i_addm (sMlengths ((16 : Int32).toNatClampNeg)) 1
                  have I_429 : A_Mlengths sMlengths_17 := by rw [e_427]; exact (A_Mlengths_upd I_sMlengths (by show 0 ≤ (((sMlengths ((16 : Int32).toNatClampNeg)) + 1) : Int32).toInt ∧ (((sMlengths ((16 : Int32).toNatClampNeg)) + 1) : Int32).toInt ≤ 24 ∧ (((16 : Int32).toNatClampNeg) < 16 → (((sMlengths ((16 : Int32).toNatClampNeg)) + 1) : Int32).toInt ≤ 8); omega))
                  refine So.gd (i_in.mpr (by omega)) ?_
                  exact So.one ⟨I_320, I_426, I_429, (by show 0 ≤ (Mo_thrown sMo_5).toInt; omega), (by show (Mo_thrown sMo_5).toInt ≤ 2; omega)⟩
                · rw [i_le] at c_421
                  exact So.one ⟨I_320, I_sMlists, I_sMlengths, (by show 0 ≤ (Mo_thrown sMo_5).toInt; omega), (by show (Mo_thrown sMo_5).toInt ≤ 2; omega)⟩
            · rw [i_le] at c_400
              unfold Mod_append_j62
              refine So.ite (fun c_430 => ?_) (fun c_430 => ?_)
              · rw [i_eq] at c_430
                have f_431 := A_Mlengths_at I_sMlengths ((16 : Int32).toNatClampNeg)
                have f_432 := i_natm (16 : Int32)
                have k_433 : (24 : Int32).toInt = 24 := by decide
                refine So.lt2 fun sMo_10 e_434 => ?_
                have I_435 : I_Mo sMo_10 := by rw [e_434]; exact (I_Mo_set_thrown I_320)
                have k_436 : (2 : Int32).toInt = 2 := by decide
                have f_437 : (Mo_thrown sMo_10).toInt = (2 : Int32).toInt := by subst e_434; rfl
                unfold Mod_append_j70
                refine So.ite (fun c_438 => ?_) (fun c_438 => ?_)
                · rw [i_le] at c_438
                  refine So.gd (i_in.mpr (by omega)) ?_
                  have k_439 : ((24 * 16) : Int32).toInt = 384 := by decide
                  first | have f_440 := i_add (a := ((24 * 16) : Int32)) (b := (sMlengths ((16 : Int32).toNatClampNeg))) (by omega) (by omega) | have f_440 := i_addm ((24 * 16) : Int32) (sMlengths ((16 : Int32).toNatClampNeg))
                  refine So.gd (i_in.mpr (by omega)) ?_
                  refine So.lt2 fun sMlists_14 e_441 => ?_
                  have f_442 := i_natm ((24 * 16) + (sMlengths ((16 : Int32).toNatClampNeg)))
                  have I_443 : A_Mlists sMlists_14 := by rw [e_441]; exact (A_Mlists_upd I_sMlists (by show (0 ≤ (a1 : Int32).toInt ∧ (a1 : Int32).toInt ≤ 63) ∨ (100 ≤ (a1 : Int32).toInt ∧ (a1 : Int32).toInt ≤ 115) ∨ (216 ≤ (a1 : Int32).toInt ∧ (a1 : Int32).toInt ≤ 343) ∨ (400 ≤ (a1 : Int32).toInt ∧ (a1 : Int32).toInt ≤ 487) ∨ (501 ≤ (a1 : Int32).toInt ∧ (a1 : Int32).toInt ≤ 516) ∨ (a1 : Int32).toInt = 520; omega))
                  refine So.gd (i_in.mpr (by omega)) ?_
                  refine So.gd (i_in.mpr (by omega)) ?_
                  refine So.lt2 fun sMlengths_17 e_444 => ?_
                  first | have f_445 := i_add (a := (sMlengths ((16 : Int32).toNatClampNeg))) (b := 1) (by omega) (by omega) | have f_445 := i_addm (sMlengths ((16 : Int32).toNatClampNeg)) 1
                  have I_446 : A_Mlengths sMlengths_17 := by rw [e_444]; exact (A_Mlengths_upd I_sMlengths (by show 0 ≤ (((sMlengths ((16 : Int32).toNatClampNeg)) + 1) : Int32).toInt ∧ (((sMlengths ((16 : Int32).toNatClampNeg)) + 1) : Int32).toInt ≤ 24 ∧ (((16 : Int32).toNatClampNeg) < 16 → (((sMlengths ((16 : Int32).toNatClampNeg)) + 1) : Int32).toInt ≤ 8); omega))
                  refine So.gd (i_in.mpr (by omega)) ?_
                  exact So.one ⟨I_435, I_443, I_446, (by show 0 ≤ (Mo_thrown sMo_10).toInt; omega), (by show (Mo_thrown sMo_10).toInt ≤ 2; omega)⟩
                · rw [i_le] at c_438
                  exact So.one ⟨I_435, I_sMlists, I_sMlengths, (by show 0 ≤ (Mo_thrown sMo_10).toInt; omega), (by show (Mo_thrown sMo_10).toInt ≤ 2; omega)⟩
              · rw [i_eq] at c_430
                have f_447 := A_Mlengths_at I_sMlengths ((16 : Int32).toNatClampNeg)
                have f_448 := i_natm (16 : Int32)
                have k_449 : (24 : Int32).toInt = 24 := by decide
                unfold Mod_append_j70
                refine So.ite (fun c_450 => ?_) (fun c_450 => ?_)
                · rw [i_le] at c_450
                  refine So.gd (i_in.mpr (by omega)) ?_
                  have k_451 : ((24 * 16) : Int32).toInt = 384 := by decide
                  first | have f_452 := i_add (a := ((24 * 16) : Int32)) (b := (sMlengths ((16 : Int32).toNatClampNeg))) (by omega) (by omega) | have f_452 := i_addm ((24 * 16) : Int32) (sMlengths ((16 : Int32).toNatClampNeg))
                  refine So.gd (i_in.mpr (by omega)) ?_
                  refine So.lt2 fun sMlists_14 e_453 => ?_
                  have f_454 := i_natm ((24 * 16) + (sMlengths ((16 : Int32).toNatClampNeg)))
                  have I_455 : A_Mlists sMlists_14 := by rw [e_453]; exact (A_Mlists_upd I_sMlists (by show (0 ≤ (a1 : Int32).toInt ∧ (a1 : Int32).toInt ≤ 63) ∨ (100 ≤ (a1 : Int32).toInt ∧ (a1 : Int32).toInt ≤ 115) ∨ (216 ≤ (a1 : Int32).toInt ∧ (a1 : Int32).toInt ≤ 343) ∨ (400 ≤ (a1 : Int32).toInt ∧ (a1 : Int32).toInt ≤ 487) ∨ (501 ≤ (a1 : Int32).toInt ∧ (a1 : Int32).toInt ≤ 516) ∨ (a1 : Int32).toInt = 520; omega))
                  refine So.gd (i_in.mpr (by omega)) ?_
                  refine So.gd (i_in.mpr (by omega)) ?_
                  refine So.lt2 fun sMlengths_17 e_456 => ?_
                  first | have f_457 := i_add (a := (sMlengths ((16 : Int32).toNatClampNeg))) (b := 1) (by omega) (by omega) | have f_457 := i_addm (sMlengths ((16 : Int32).toNatClampNeg)) 1
                  have I_458 : A_Mlengths sMlengths_17 := by rw [e_456]; exact (A_Mlengths_upd I_sMlengths (by show 0 ≤ (((sMlengths ((16 : Int32).toNatClampNeg)) + 1) : Int32).toInt ∧ (((sMlengths ((16 : Int32).toNatClampNeg)) + 1) : Int32).toInt ≤ 24 ∧ (((16 : Int32).toNatClampNeg) < 16 → (((sMlengths ((16 : Int32).toNatClampNeg)) + 1) : Int32).toInt ≤ 8); omega))
                  refine So.gd (i_in.mpr (by omega)) ?_
                  exact So.one ⟨I_320, I_455, I_458, (by show 0 ≤ (Mo_thrown sMo_5).toInt; omega), (by show (Mo_thrown sMo_5).toInt ≤ 2; omega)⟩
                · rw [i_le] at c_450
                  exact So.one ⟨I_320, I_sMlists, I_sMlengths, (by show 0 ≤ (Mo_thrown sMo_5).toInt; omega), (by show (Mo_thrown sMo_5).toInt ≤ 2; omega)⟩
          · rw [i_eq] at c_398
            unfold Mod_append_j70
            refine So.ite (fun c_459 => ?_) (fun c_459 => ?_)
            · rw [i_le] at c_459
              have k_460 : (16 : Int32).toInt = 16 := by decide
              refine So.gd (i_in.mpr (by omega)) ?_
              have k_461 : ((24 * 16) : Int32).toInt = 384 := by decide
              have f_462 := A_Mlengths_at I_sMlengths ((16 : Int32).toNatClampNeg)
              have f_463 := i_natm (16 : Int32)
              first | have f_464 := i_add (a := ((24 * 16) : Int32)) (b := (sMlengths ((16 : Int32).toNatClampNeg))) (by omega) (by omega) | have f_464 := i_addm ((24 * 16) : Int32) (sMlengths ((16 : Int32).toNatClampNeg))
              refine So.gd (i_in.mpr (by omega)) ?_
              refine So.lt2 fun sMlists_14 e_465 => ?_
              have f_466 := i_natm ((24 * 16) + (sMlengths ((16 : Int32).toNatClampNeg)))
              have I_467 : A_Mlists sMlists_14 := by rw [e_465]; exact (A_Mlists_upd I_sMlists (by show (0 ≤ (a1 : Int32).toInt ∧ (a1 : Int32).toInt ≤ 63) ∨ (100 ≤ (a1 : Int32).toInt ∧ (a1 : Int32).toInt ≤ 115) ∨ (216 ≤ (a1 : Int32).toInt ∧ (a1 : Int32).toInt ≤ 343) ∨ (400 ≤ (a1 : Int32).toInt ∧ (a1 : Int32).toInt ≤ 487) ∨ (501 ≤ (a1 : Int32).toInt ∧ (a1 : Int32).toInt ≤ 516) ∨ (a1 : Int32).toInt = 520; omega))
              refine So.gd (i_in.mpr (by omega)) ?_
              refine So.gd (i_in.mpr (by omega)) ?_
              refine So.lt2 fun sMlengths_17 e_468 => ?_
              first | have f_469 := i_add (a := (sMlengths ((16 : Int32).toNatClampNeg))) (b := 1) (by omega) (by omega) | have f_469 := i_addm (sMlengths ((16 : Int32).toNatClampNeg)) 1
              have I_470 : A_Mlengths sMlengths_17 := by rw [e_468]; exact (A_Mlengths_upd I_sMlengths (by show 0 ≤ (((sMlengths ((16 : Int32).toNatClampNeg)) + 1) : Int32).toInt ∧ (((sMlengths ((16 : Int32).toNatClampNeg)) + 1) : Int32).toInt ≤ 24 ∧ (((16 : Int32).toNatClampNeg) < 16 → (((sMlengths ((16 : Int32).toNatClampNeg)) + 1) : Int32).toInt ≤ 8); omega))
              refine So.gd (i_in.mpr (by omega)) ?_
              exact So.one ⟨I_320, I_467, I_470, (by show 0 ≤ (Mo_thrown sMo_5).toInt; omega), (by show (Mo_thrown sMo_5).toInt ≤ 2; omega)⟩
            · rw [i_le] at c_459
              exact So.one ⟨I_320, I_sMlists, I_sMlengths, (by show 0 ≤ (Mo_thrown sMo_5).toInt; omega), (by show (Mo_thrown sMo_5).toInt ≤ 2; omega)⟩
      · rw [i_eq] at c_317
        have k_471 : (0 : Int32).toInt = 0 := by decide
        unfold Mod_append_j24
        refine So.lt2 fun sMo_5 e_472 => ?_
        have I_473 : I_Mo sMo_5 := by rw [e_472]; exact (I_Mo_set_thrown I_sMo)
        have f_474 : (Mo_thrown sMo_5).toInt = (0 : Int32).toInt := by subst e_472; rfl
        refine So.ite (fun c_475 => ?_) (fun c_475 => ?_)
        · rw [i_le] at c_475
          unfold Mod_append_j37
          refine So.ite (fun c_476 => ?_) (fun c_476 => ?_)
          · rw [i_eq] at c_476
            refine So.gd (i_in.mpr (by omega)) ?_
            refine So.ite (fun c_477 => ?_) (fun c_477 => ?_)
            · rw [i_le] at c_477
              unfold Mod_append_j62
              refine So.ite (fun c_478 => ?_) (fun c_478 => ?_)
              · rw [i_eq] at c_478
                have f_479 := A_Mlengths_at I_sMlengths (a0.toNatClampNeg)
                have f_480 := i_natm a0
                have k_481 : (8 : Int32).toInt = 8 := by decide
                refine So.lt2 fun sMo_10 e_482 => ?_
                have I_483 : I_Mo sMo_10 := by rw [e_482]; exact (I_Mo_set_thrown I_473)
                have k_484 : (2 : Int32).toInt = 2 := by decide
                have f_485 : (Mo_thrown sMo_10).toInt = (2 : Int32).toInt := by subst e_482; rfl
                unfold Mod_append_j70
                refine So.ite (fun c_486 => ?_) (fun c_486 => ?_)
                · rw [i_le] at c_486
                  refine So.gd (i_in.mpr (by omega)) ?_
                  have k_487 : (24 : Int32).toInt = 24 := by decide
                  first | have f_488 := i_mull 24 a0 (24) (by decide) (by omega) (by omega) | have f_488 := i_mullm 24 a0 (24) (by decide)
                  first | have f_489 := i_add (a := (24 * a0)) (b := (sMlengths (a0.toNatClampNeg))) (by omega) (by omega) | have f_489 := i_addm (24 * a0) (sMlengths (a0.toNatClampNeg))
                  refine So.gd (i_in.mpr (by omega)) ?_
                  refine So.lt2 fun sMlists_14 e_490 => ?_
                  have f_491 := i_natm ((24 * a0) + (sMlengths (a0.toNatClampNeg)))
                  have I_492 : A_Mlists sMlists_14 := by rw [e_490]; exact (A_Mlists_upd I_sMlists (by show (0 ≤ (a1 : Int32).toInt ∧ (a1 : Int32).toInt ≤ 63) ∨ (100 ≤ (a1 : Int32).toInt ∧ (a1 : Int32).toInt ≤ 115) ∨ (216 ≤ (a1 : Int32).toInt ∧ (a1 : Int32).toInt ≤ 343) ∨ (400 ≤ (a1 : Int32).toInt ∧ (a1 : Int32).toInt ≤ 487) ∨ (501 ≤ (a1 : Int32).toInt ∧ (a1 : Int32).toInt ≤ 516) ∨ (a1 : Int32).toInt = 520; omega))
                  refine So.gd (i_in.mpr (by omega)) ?_
                  refine So.gd (i_in.mpr (by omega)) ?_
                  refine So.lt2 fun sMlengths_17 e_493 => ?_
                  have k_494 : (1 : Int32).toInt = 1 := by decide
                  first | have f_495 := i_add (a := (sMlengths (a0.toNatClampNeg))) (b := 1) (by omega) (by omega) | have f_495 := i_addm (sMlengths (a0.toNatClampNeg)) 1
                  have I_496 : A_Mlengths sMlengths_17 := by rw [e_493]; exact (A_Mlengths_upd I_sMlengths (by show 0 ≤ (((sMlengths (a0.toNatClampNeg)) + 1) : Int32).toInt ∧ (((sMlengths (a0.toNatClampNeg)) + 1) : Int32).toInt ≤ 24 ∧ ((a0.toNatClampNeg) < 16 → (((sMlengths (a0.toNatClampNeg)) + 1) : Int32).toInt ≤ 8); omega))
                  refine So.gd (i_in.mpr (by omega)) ?_
                  exact So.one ⟨I_483, I_492, I_496, (by show 0 ≤ (Mo_thrown sMo_10).toInt; omega), (by show (Mo_thrown sMo_10).toInt ≤ 2; omega)⟩
                · rw [i_le] at c_486
                  exact So.one ⟨I_483, I_sMlists, I_sMlengths, (by show 0 ≤ (Mo_thrown sMo_10).toInt; omega), (by show (Mo_thrown sMo_10).toInt ≤ 2; omega)⟩
              · rw [i_eq] at c_478
                have f_497 := A_Mlengths_at I_sMlengths (a0.toNatClampNeg)
                have f_498 := i_natm a0
                have k_499 : (8 : Int32).toInt = 8 := by decide
                unfold Mod_append_j70
                refine So.ite (fun c_500 => ?_) (fun c_500 => ?_)
                · rw [i_le] at c_500
                  refine So.gd (i_in.mpr (by omega)) ?_
                  have k_501 : (24 : Int32).toInt = 24 := by decide
                  first | have f_502 := i_mull 24 a0 (24) (by decide) (by omega) (by omega) | have f_502 := i_mullm 24 a0 (24) (by decide)
                  first | have f_503 := i_add (a := (24 * a0)) (b := (sMlengths (a0.toNatClampNeg))) (by omega) (by omega) | have f_503 := i_addm (24 * a0) (sMlengths (a0.toNatClampNeg))
                  refine So.gd (i_in.mpr (by omega)) ?_
                  refine So.lt2 fun sMlists_14 e_504 => ?_
                  have f_505 := i_natm ((24 * a0) + (sMlengths (a0.toNatClampNeg)))
                  have I_506 : A_Mlists sMlists_14 := by rw [e_504]; exact (A_Mlists_upd I_sMlists (by show (0 ≤ (a1 : Int32).toInt ∧ (a1 : Int32).toInt ≤ 63) ∨ (100 ≤ (a1 : Int32).toInt ∧ (a1 : Int32).toInt ≤ 115) ∨ (216 ≤ (a1 : Int32).toInt ∧ (a1 : Int32).toInt ≤ 343) ∨ (400 ≤ (a1 : Int32).toInt ∧ (a1 : Int32).toInt ≤ 487) ∨ (501 ≤ (a1 : Int32).toInt ∧ (a1 : Int32).toInt ≤ 516) ∨ (a1 : Int32).toInt = 520; omega))
                  refine So.gd (i_in.mpr (by omega)) ?_
                  refine So.gd (i_in.mpr (by omega)) ?_
                  refine So.lt2 fun sMlengths_17 e_507 => ?_
                  have k_508 : (1 : Int32).toInt = 1 := by decide
                  first | have f_509 := i_add (a := (sMlengths (a0.toNatClampNeg))) (b := 1) (by omega) (by omega) | have f_509 := i_addm (sMlengths (a0.toNatClampNeg)) 1
                  have I_510 : A_Mlengths sMlengths_17 := by rw [e_507]; exact (A_Mlengths_upd I_sMlengths (by show 0 ≤ (((sMlengths (a0.toNatClampNeg)) + 1) : Int32).toInt ∧ (((sMlengths (a0.toNatClampNeg)) + 1) : Int32).toInt ≤ 24 ∧ ((a0.toNatClampNeg) < 16 → (((sMlengths (a0.toNatClampNeg)) + 1) : Int32).toInt ≤ 8); omega))
                  refine So.gd (i_in.mpr (by omega)) ?_
                  exact So.one ⟨I_473, I_506, I_510, (by show 0 ≤ (Mo_thrown sMo_5).toInt; omega), (by show (Mo_thrown sMo_5).toInt ≤ 2; omega)⟩
                · rw [i_le] at c_500
                  exact So.one ⟨I_473, I_sMlists, I_sMlengths, (by show 0 ≤ (Mo_thrown sMo_5).toInt; omega), (by show (Mo_thrown sMo_5).toInt ≤ 2; omega)⟩
            · rw [i_le] at c_477
              unfold Mod_append_j62
              refine So.ite (fun c_511 => ?_) (fun c_511 => ?_)
              · rw [i_eq] at c_511
                have f_512 := A_Mlengths_at I_sMlengths (a0.toNatClampNeg)
                have f_513 := i_natm a0
                have k_514 : (24 : Int32).toInt = 24 := by decide
                refine So.lt2 fun sMo_10 e_515 => ?_
                have I_516 : I_Mo sMo_10 := by rw [e_515]; exact (I_Mo_set_thrown I_473)
                have k_517 : (2 : Int32).toInt = 2 := by decide
                have f_518 : (Mo_thrown sMo_10).toInt = (2 : Int32).toInt := by subst e_515; rfl
                unfold Mod_append_j70
                refine So.ite (fun c_519 => ?_) (fun c_519 => ?_)
                · rw [i_le] at c_519
                  refine So.gd (i_in.mpr (by omega)) ?_
                  first | have f_520 := i_mull 24 a0 (24) (by decide) (by omega) (by omega) | have f_520 := i_mullm 24 a0 (24) (by decide)
                  first | have f_521 := i_add (a := (24 * a0)) (b := (sMlengths (a0.toNatClampNeg))) (by omega) (by omega) | have f_521 := i_addm (24 * a0) (sMlengths (a0.toNatClampNeg))
                  refine So.gd (i_in.mpr (by omega)) ?_
                  refine So.lt2 fun sMlists_14 e_522 => ?_
                  have f_523 := i_natm ((24 * a0) + (sMlengths (a0.toNatClampNeg)))
                  have I_524 : A_Mlists sMlists_14 := by rw [e_522]; exact (A_Mlists_upd I_sMlists (by show (0 ≤ (a1 : Int32).toInt ∧ (a1 : Int32).toInt ≤ 63) ∨ (100 ≤ (a1 : Int32).toInt ∧ (a1 : Int32).toInt ≤ 115) ∨ (216 ≤ (a1 : Int32).toInt ∧ (a1 : Int32).toInt ≤ 343) ∨ (400 ≤ (a1 : Int32).toInt ∧ (a1 : Int32).toInt ≤ 487) ∨ (501 ≤ (a1 : Int32).toInt ∧ (a1 : Int32).toInt ≤ 516) ∨ (a1 : Int32).toInt = 520; omega))
                  refine So.gd (i_in.mpr (by omega)) ?_
                  refine So.gd (i_in.mpr (by omega)) ?_
                  refine So.lt2 fun sMlengths_17 e_525 => ?_
                  have k_526 : (1 : Int32).toInt = 1 := by decide
                  first | have f_527 := i_add (a := (sMlengths (a0.toNatClampNeg))) (b := 1) (by omega) (by omega) | have f_527 := i_addm (sMlengths (a0.toNatClampNeg)) 1
                  have I_528 : A_Mlengths sMlengths_17 := by rw [e_525]; exact (A_Mlengths_upd I_sMlengths (by show 0 ≤ (((sMlengths (a0.toNatClampNeg)) + 1) : Int32).toInt ∧ (((sMlengths (a0.toNatClampNeg)) + 1) : Int32).toInt ≤ 24 ∧ ((a0.toNatClampNeg) < 16 → (((sMlengths (a0.toNatClampNeg)) + 1) : Int32).toInt ≤ 8); omega))
                  refine So.gd (i_in.mpr (by omega)) ?_
                  exact So.one ⟨I_516, I_524, I_528, (by show 0 ≤ (Mo_thrown sMo_10).toInt; omega), (by show (Mo_thrown sMo_10).toInt ≤ 2; omega)⟩
                · rw [i_le] at c_519
                  exact So.one ⟨I_516, I_sMlists, I_sMlengths, (by show 0 ≤ (Mo_thrown sMo_10).toInt; omega), (by show (Mo_thrown sMo_10).toInt ≤ 2; omega)⟩
              · rw [i_eq] at c_511
                have f_529 := A_Mlengths_at I_sMlengths (a0.toNatClampNeg)
                have f_530 := i_natm a0
                have k_531 : (24 : Int32).toInt = 24 := by decide
                unfold Mod_append_j70
                refine So.ite (fun c_532 => ?_) (fun c_532 => ?_)
                · rw [i_le] at c_532
                  refine So.gd (i_in.mpr (by omega)) ?_
                  first | have f_533 := i_mull 24 a0 (24) (by decide) (by omega) (by omega) | have f_533 := i_mullm 24 a0 (24) (by decide)
                  first | have f_534 := i_add (a := (24 * a0)) (b := (sMlengths (a0.toNatClampNeg))) (by omega) (by omega) | have f_534 := i_addm (24 * a0) (sMlengths (a0.toNatClampNeg))
                  refine So.gd (i_in.mpr (by omega)) ?_
                  refine So.lt2 fun sMlists_14 e_535 => ?_
                  have f_536 := i_natm ((24 * a0) + (sMlengths (a0.toNatClampNeg)))
                  have I_537 : A_Mlists sMlists_14 := by rw [e_535]; exact (A_Mlists_upd I_sMlists (by show (0 ≤ (a1 : Int32).toInt ∧ (a1 : Int32).toInt ≤ 63) ∨ (100 ≤ (a1 : Int32).toInt ∧ (a1 : Int32).toInt ≤ 115) ∨ (216 ≤ (a1 : Int32).toInt ∧ (a1 : Int32).toInt ≤ 343) ∨ (400 ≤ (a1 : Int32).toInt ∧ (a1 : Int32).toInt ≤ 487) ∨ (501 ≤ (a1 : Int32).toInt ∧ (a1 : Int32).toInt ≤ 516) ∨ (a1 : Int32).toInt = 520; omega))
                  refine So.gd (i_in.mpr (by omega)) ?_
                  refine So.gd (i_in.mpr (by omega)) ?_
                  refine So.lt2 fun sMlengths_17 e_538 => ?_
                  have k_539 : (1 : Int32).toInt = 1 := by decide
                  first | have f_540 := i_add (a := (sMlengths (a0.toNatClampNeg))) (b := 1) (by omega) (by omega) | have f_540 := i_addm (sMlengths (a0.toNatClampNeg)) 1
                  have I_541 : A_Mlengths sMlengths_17 := by rw [e_538]; exact (A_Mlengths_upd I_sMlengths (by show 0 ≤ (((sMlengths (a0.toNatClampNeg)) + 1) : Int32).toInt ∧ (((sMlengths (a0.toNatClampNeg)) + 1) : Int32).toInt ≤ 24 ∧ ((a0.toNatClampNeg) < 16 → (((sMlengths (a0.toNatClampNeg)) + 1) : Int32).toInt ≤ 8); omega))
                  refine So.gd (i_in.mpr (by omega)) ?_
                  exact So.one ⟨I_473, I_537, I_541, (by show 0 ≤ (Mo_thrown sMo_5).toInt; omega), (by show (Mo_thrown sMo_5).toInt ≤ 2; omega)⟩
                · rw [i_le] at c_532
                  exact So.one ⟨I_473, I_sMlists, I_sMlengths, (by show 0 ≤ (Mo_thrown sMo_5).toInt; omega), (by show (Mo_thrown sMo_5).toInt ≤ 2; omega)⟩
          · rw [i_eq] at c_476
            unfold Mod_append_j70
            refine So.ite (fun c_542 => ?_) (fun c_542 => ?_)
            · rw [i_le] at c_542
              refine So.gd (i_in.mpr (by omega)) ?_
              have k_543 : (24 : Int32).toInt = 24 := by decide
              first | have f_544 := i_mull 24 a0 (24) (by decide) (by omega) (by omega) | have f_544 := i_mullm 24 a0 (24) (by decide)
              have f_545 := A_Mlengths_at I_sMlengths (a0.toNatClampNeg)
              have f_546 := i_natm a0
              first | have f_547 := i_add (a := (24 * a0)) (b := (sMlengths (a0.toNatClampNeg))) (by omega) (by omega) | have f_547 := i_addm (24 * a0) (sMlengths (a0.toNatClampNeg))
              refine So.gd (i_in.mpr (by omega)) ?_
              refine So.lt2 fun sMlists_14 e_548 => ?_
              have f_549 := i_natm ((24 * a0) + (sMlengths (a0.toNatClampNeg)))
              have I_550 : A_Mlists sMlists_14 := by rw [e_548]; exact (A_Mlists_upd I_sMlists (by show (0 ≤ (a1 : Int32).toInt ∧ (a1 : Int32).toInt ≤ 63) ∨ (100 ≤ (a1 : Int32).toInt ∧ (a1 : Int32).toInt ≤ 115) ∨ (216 ≤ (a1 : Int32).toInt ∧ (a1 : Int32).toInt ≤ 343) ∨ (400 ≤ (a1 : Int32).toInt ∧ (a1 : Int32).toInt ≤ 487) ∨ (501 ≤ (a1 : Int32).toInt ∧ (a1 : Int32).toInt ≤ 516) ∨ (a1 : Int32).toInt = 520; omega))
              refine So.gd (i_in.mpr (by omega)) ?_
              refine So.gd (i_in.mpr (by omega)) ?_
              refine So.lt2 fun sMlengths_17 e_551 => ?_
              have k_552 : (1 : Int32).toInt = 1 := by decide
              first | have f_553 := i_add (a := (sMlengths (a0.toNatClampNeg))) (b := 1) (by omega) (by omega) | have f_553 := i_addm (sMlengths (a0.toNatClampNeg)) 1
              have I_554 : A_Mlengths sMlengths_17 := by rw [e_551]; exact (A_Mlengths_upd I_sMlengths (by show 0 ≤ (((sMlengths (a0.toNatClampNeg)) + 1) : Int32).toInt ∧ (((sMlengths (a0.toNatClampNeg)) + 1) : Int32).toInt ≤ 24 ∧ ((a0.toNatClampNeg) < 16 → (((sMlengths (a0.toNatClampNeg)) + 1) : Int32).toInt ≤ 8); omega))
              refine So.gd (i_in.mpr (by omega)) ?_
              exact So.one ⟨I_473, I_550, I_554, (by show 0 ≤ (Mo_thrown sMo_5).toInt; omega), (by show (Mo_thrown sMo_5).toInt ≤ 2; omega)⟩
            · rw [i_le] at c_542
              exact So.one ⟨I_473, I_sMlists, I_sMlengths, (by show 0 ≤ (Mo_thrown sMo_5).toInt; omega), (by show (Mo_thrown sMo_5).toInt ≤ 2; omega)⟩
        · rw [i_le] at c_475
          unfold Mod_append_j37
          refine So.ite (fun c_555 => ?_) (fun c_555 => ?_)
          · rw [i_eq] at c_555
            have k_556 : (16 : Int32).toInt = 16 := by decide
            refine So.gd (i_in.mpr (by omega)) ?_
            refine So.ite (fun c_557 => ?_) (fun c_557 => ?_)
            · rw [i_le] at c_557
              unfold Mod_append_j62
              refine So.ite (fun c_558 => ?_) (fun c_558 => ?_)
              · rw [i_eq] at c_558
                have f_559 := A_Mlengths_at I_sMlengths ((16 : Int32).toNatClampNeg)
                have f_560 := i_natm (16 : Int32)
                have k_561 : (8 : Int32).toInt = 8 := by decide
                refine So.lt2 fun sMo_10 e_562 => ?_
                have I_563 : I_Mo sMo_10 := by rw [e_562]; exact (I_Mo_set_thrown I_473)
                have k_564 : (2 : Int32).toInt = 2 := by decide
                have f_565 : (Mo_thrown sMo_10).toInt = (2 : Int32).toInt := by subst e_562; rfl
                unfold Mod_append_j70
                refine So.ite (fun c_566 => ?_) (fun c_566 => ?_)
                · rw [i_le] at c_566
                  refine So.gd (i_in.mpr (by omega)) ?_
                  have k_567 : ((24 * 16) : Int32).toInt = 384 := by decide
                  first | have f_568 := i_add (a := ((24 * 16) : Int32)) (b := (sMlengths ((16 : Int32).toNatClampNeg))) (by omega) (by omega) | have f_568 := i_addm ((24 * 16) : Int32) (sMlengths ((16 : Int32).toNatClampNeg))
                  refine So.gd (i_in.mpr (by omega)) ?_
                  refine So.lt2 fun sMlists_14 e_569 => ?_
                  have f_570 := i_natm ((24 * 16) + (sMlengths ((16 : Int32).toNatClampNeg)))
                  have I_571 : A_Mlists sMlists_14 := by rw [e_569]; exact (A_Mlists_upd I_sMlists (by show (0 ≤ (a1 : Int32).toInt ∧ (a1 : Int32).toInt ≤ 63) ∨ (100 ≤ (a1 : Int32).toInt ∧ (a1 : Int32).toInt ≤ 115) ∨ (216 ≤ (a1 : Int32).toInt ∧ (a1 : Int32).toInt ≤ 343) ∨ (400 ≤ (a1 : Int32).toInt ∧ (a1 : Int32).toInt ≤ 487) ∨ (501 ≤ (a1 : Int32).toInt ∧ (a1 : Int32).toInt ≤ 516) ∨ (a1 : Int32).toInt = 520; omega))
                  refine So.gd (i_in.mpr (by omega)) ?_
                  refine So.gd (i_in.mpr (by omega)) ?_
                  refine So.lt2 fun sMlengths_17 e_572 => ?_
                  have k_573 : (1 : Int32).toInt = 1 := by decide
                  first | have f_574 := i_add (a := (sMlengths ((16 : Int32).toNatClampNeg))) (b := 1) (by omega) (by omega) | have f_574 := i_addm (sMlengths ((16 : Int32).toNatClampNeg)) 1
                  have I_575 : A_Mlengths sMlengths_17 := by rw [e_572]; exact (A_Mlengths_upd I_sMlengths (by show 0 ≤ (((sMlengths ((16 : Int32).toNatClampNeg)) + 1) : Int32).toInt ∧ (((sMlengths ((16 : Int32).toNatClampNeg)) + 1) : Int32).toInt ≤ 24 ∧ (((16 : Int32).toNatClampNeg) < 16 → (((sMlengths ((16 : Int32).toNatClampNeg)) + 1) : Int32).toInt ≤ 8); omega))
                  refine So.gd (i_in.mpr (by omega)) ?_
                  exact So.one ⟨I_563, I_571, I_575, (by show 0 ≤ (Mo_thrown sMo_10).toInt; omega), (by show (Mo_thrown sMo_10).toInt ≤ 2; omega)⟩
                · rw [i_le] at c_566
                  exact So.one ⟨I_563, I_sMlists, I_sMlengths, (by show 0 ≤ (Mo_thrown sMo_10).toInt; omega), (by show (Mo_thrown sMo_10).toInt ≤ 2; omega)⟩
              · rw [i_eq] at c_558
                have f_576 := A_Mlengths_at I_sMlengths ((16 : Int32).toNatClampNeg)
                have f_577 := i_natm (16 : Int32)
                have k_578 : (8 : Int32).toInt = 8 := by decide
                unfold Mod_append_j70
                refine So.ite (fun c_579 => ?_) (fun c_579 => ?_)
                · rw [i_le] at c_579
                  refine So.gd (i_in.mpr (by omega)) ?_
                  have k_580 : ((24 * 16) : Int32).toInt = 384 := by decide
                  first | have f_581 := i_add (a := ((24 * 16) : Int32)) (b := (sMlengths ((16 : Int32).toNatClampNeg))) (by omega) (by omega) | have f_581 := i_addm ((24 * 16) : Int32) (sMlengths ((16 : Int32).toNatClampNeg))
                  refine So.gd (i_in.mpr (by omega)) ?_
                  refine So.lt2 fun sMlists_14 e_582 => ?_
                  have f_583 := i_natm ((24 * 16) + (sMlengths ((16 : Int32).toNatClampNeg)))
                  have I_584 : A_Mlists sMlists_14 := by rw [e_582]; exact (A_Mlists_upd I_sMlists (by show (0 ≤ (a1 : Int32).toInt ∧ (a1 : Int32).toInt ≤ 63) ∨ (100 ≤ (a1 : Int32).toInt ∧ (a1 : Int32).toInt ≤ 115) ∨ (216 ≤ (a1 : Int32).toInt ∧ (a1 : Int32).toInt ≤ 343) ∨ (400 ≤ (a1 : Int32).toInt ∧ (a1 : Int32).toInt ≤ 487) ∨ (501 ≤ (a1 : Int32).toInt ∧ (a1 : Int32).toInt ≤ 516) ∨ (a1 : Int32).toInt = 520; omega))
                  refine So.gd (i_in.mpr (by omega)) ?_
                  refine So.gd (i_in.mpr (by omega)) ?_
                  refine So.lt2 fun sMlengths_17 e_585 => ?_
                  have k_586 : (1 : Int32).toInt = 1 := by decide
                  first | have f_587 := i_add (a := (sMlengths ((16 : Int32).toNatClampNeg))) (b := 1) (by omega) (by omega) | have f_587 := i_addm (sMlengths ((16 : Int32).toNatClampNeg)) 1
                  have I_588 : A_Mlengths sMlengths_17 := by rw [e_585]; exact (A_Mlengths_upd I_sMlengths (by show 0 ≤ (((sMlengths ((16 : Int32).toNatClampNeg)) + 1) : Int32).toInt ∧ (((sMlengths ((16 : Int32).toNatClampNeg)) + 1) : Int32).toInt ≤ 24 ∧ (((16 : Int32).toNatClampNeg) < 16 → (((sMlengths ((16 : Int32).toNatClampNeg)) + 1) : Int32).toInt ≤ 8); omega))
                  refine So.gd (i_in.mpr (by omega)) ?_
                  exact So.one ⟨I_473, I_584, I_588, (by show 0 ≤ (Mo_thrown sMo_5).toInt; omega), (by show (Mo_thrown sMo_5).toInt ≤ 2; omega)⟩
                · rw [i_le] at c_579
                  exact So.one ⟨I_473, I_sMlists, I_sMlengths, (by show 0 ≤ (Mo_thrown sMo_5).toInt; omega), (by show (Mo_thrown sMo_5).toInt ≤ 2; omega)⟩
            · rw [i_le] at c_557
              unfold Mod_append_j62
              refine So.ite (fun c_589 => ?_) (fun c_589 => ?_)
              · rw [i_eq] at c_589
                have f_590 := A_Mlengths_at I_sMlengths ((16 : Int32).toNatClampNeg)
                have f_591 := i_natm (16 : Int32)
                have k_592 : (24 : Int32).toInt = 24 := by decide
                refine So.lt2 fun sMo_10 e_593 => ?_
                have I_594 : I_Mo sMo_10 := by rw [e_593]; exact (I_Mo_set_thrown I_473)
                have k_595 : (2 : Int32).toInt = 2 := by decide
                have f_596 : (Mo_thrown sMo_10).toInt = (2 : Int32).toInt := by subst e_593; rfl
                unfold Mod_append_j70
                refine So.ite (fun c_597 => ?_) (fun c_597 => ?_)
                · rw [i_le] at c_597
                  refine So.gd (i_in.mpr (by omega)) ?_
                  have k_598 : ((24 * 16) : Int32).toInt = 384 := by decide
                  first | have f_599 := i_add (a := ((24 * 16) : Int32)) (b := (sMlengths ((16 : Int32).toNatClampNeg))) (by omega) (by omega) | have f_599 := i_addm ((24 * 16) : Int32) (sMlengths ((16 : Int32).toNatClampNeg))
                  refine So.gd (i_in.mpr (by omega)) ?_
                  refine So.lt2 fun sMlists_14 e_600 => ?_
                  have f_601 := i_natm ((24 * 16) + (sMlengths ((16 : Int32).toNatClampNeg)))
                  have I_602 : A_Mlists sMlists_14 := by rw [e_600]; exact (A_Mlists_upd I_sMlists (by show (0 ≤ (a1 : Int32).toInt ∧ (a1 : Int32).toInt ≤ 63) ∨ (100 ≤ (a1 : Int32).toInt ∧ (a1 : Int32).toInt ≤ 115) ∨ (216 ≤ (a1 : Int32).toInt ∧ (a1 : Int32).toInt ≤ 343) ∨ (400 ≤ (a1 : Int32).toInt ∧ (a1 : Int32).toInt ≤ 487) ∨ (501 ≤ (a1 : Int32).toInt ∧ (a1 : Int32).toInt ≤ 516) ∨ (a1 : Int32).toInt = 520; omega))
                  refine So.gd (i_in.mpr (by omega)) ?_
                  refine So.gd (i_in.mpr (by omega)) ?_
                  refine So.lt2 fun sMlengths_17 e_603 => ?_
                  have k_604 : (1 : Int32).toInt = 1 := by decide
                  first | have f_605 := i_add (a := (sMlengths ((16 : Int32).toNatClampNeg))) (b := 1) (by omega) (by omega) | have f_605 := i_addm (sMlengths ((16 : Int32).toNatClampNeg)) 1
                  have I_606 : A_Mlengths sMlengths_17 := by rw [e_603]; exact (A_Mlengths_upd I_sMlengths (by show 0 ≤ (((sMlengths ((16 : Int32).toNatClampNeg)) + 1) : Int32).toInt ∧ (((sMlengths ((16 : Int32).toNatClampNeg)) + 1) : Int32).toInt ≤ 24 ∧ (((16 : Int32).toNatClampNeg) < 16 → (((sMlengths ((16 : Int32).toNatClampNeg)) + 1) : Int32).toInt ≤ 8); omega))
                  refine So.gd (i_in.mpr (by omega)) ?_
                  exact So.one ⟨I_594, I_602, I_606, (by show 0 ≤ (Mo_thrown sMo_10).toInt; omega), (by show (Mo_thrown sMo_10).toInt ≤ 2; omega)⟩
                · rw [i_le] at c_597
                  exact So.one ⟨I_594, I_sMlists, I_sMlengths, (by show 0 ≤ (Mo_thrown sMo_10).toInt; omega), (by show (Mo_thrown sMo_10).toInt ≤ 2; omega)⟩
              · rw [i_eq] at c_589
                have f_607 := A_Mlengths_at I_sMlengths ((16 : Int32).toNatClampNeg)
                have f_608 := i_natm (16 : Int32)
                have k_609 : (24 : Int32).toInt = 24 := by decide
                unfold Mod_append_j70
                refine So.ite (fun c_610 => ?_) (fun c_610 => ?_)
                · rw [i_le] at c_610
                  refine So.gd (i_in.mpr (by omega)) ?_
                  have k_611 : ((24 * 16) : Int32).toInt = 384 := by decide
                  first | have f_612 := i_add (a := ((24 * 16) : Int32)) (b := (sMlengths ((16 : Int32).toNatClampNeg))) (by omega) (by omega) | have f_612 := i_addm ((24 * 16) : Int32) (sMlengths ((16 : Int32).toNatClampNeg))
                  refine So.gd (i_in.mpr (by omega)) ?_
                  refine So.lt2 fun sMlists_14 e_613 => ?_
                  have f_614 := i_natm ((24 * 16) + (sMlengths ((16 : Int32).toNatClampNeg)))
                  have I_615 : A_Mlists sMlists_14 := by rw [e_613]; exact (A_Mlists_upd I_sMlists (by show (0 ≤ (a1 : Int32).toInt ∧ (a1 : Int32).toInt ≤ 63) ∨ (100 ≤ (a1 : Int32).toInt ∧ (a1 : Int32).toInt ≤ 115) ∨ (216 ≤ (a1 : Int32).toInt ∧ (a1 : Int32).toInt ≤ 343) ∨ (400 ≤ (a1 : Int32).toInt ∧ (a1 : Int32).toInt ≤ 487) ∨ (501 ≤ (a1 : Int32).toInt ∧ (a1 : Int32).toInt ≤ 516) ∨ (a1 : Int32).toInt = 520; omega))
                  refine So.gd (i_in.mpr (by omega)) ?_
                  refine So.gd (i_in.mpr (by omega)) ?_
                  refine So.lt2 fun sMlengths_17 e_616 => ?_
                  have k_617 : (1 : Int32).toInt = 1 := by decide
                  first | have f_618 := i_add (a := (sMlengths ((16 : Int32).toNatClampNeg))) (b := 1) (by omega) (by omega) | have f_618 := i_addm (sMlengths ((16 : Int32).toNatClampNeg)) 1
                  have I_619 : A_Mlengths sMlengths_17 := by rw [e_616]; exact (A_Mlengths_upd I_sMlengths (by show 0 ≤ (((sMlengths ((16 : Int32).toNatClampNeg)) + 1) : Int32).toInt ∧ (((sMlengths ((16 : Int32).toNatClampNeg)) + 1) : Int32).toInt ≤ 24 ∧ (((16 : Int32).toNatClampNeg) < 16 → (((sMlengths ((16 : Int32).toNatClampNeg)) + 1) : Int32).toInt ≤ 8); omega))
                  refine So.gd (i_in.mpr (by omega)) ?_
                  exact So.one ⟨I_473, I_615, I_619, (by show 0 ≤ (Mo_thrown sMo_5).toInt; omega), (by show (Mo_thrown sMo_5).toInt ≤ 2; omega)⟩
                · rw [i_le] at c_610
                  exact So.one ⟨I_473, I_sMlists, I_sMlengths, (by show 0 ≤ (Mo_thrown sMo_5).toInt; omega), (by show (Mo_thrown sMo_5).toInt ≤ 2; omega)⟩
          · rw [i_eq] at c_555
            unfold Mod_append_j70
            refine So.ite (fun c_620 => ?_) (fun c_620 => ?_)
            · rw [i_le] at c_620
              have k_621 : (16 : Int32).toInt = 16 := by decide
              refine So.gd (i_in.mpr (by omega)) ?_
              have k_622 : ((24 * 16) : Int32).toInt = 384 := by decide
              have f_623 := A_Mlengths_at I_sMlengths ((16 : Int32).toNatClampNeg)
              have f_624 := i_natm (16 : Int32)
              first | have f_625 := i_add (a := ((24 * 16) : Int32)) (b := (sMlengths ((16 : Int32).toNatClampNeg))) (by omega) (by omega) | have f_625 := i_addm ((24 * 16) : Int32) (sMlengths ((16 : Int32).toNatClampNeg))
              refine So.gd (i_in.mpr (by omega)) ?_
              refine So.lt2 fun sMlists_14 e_626 => ?_
              have f_627 := i_natm ((24 * 16) + (sMlengths ((16 : Int32).toNatClampNeg)))
              have I_628 : A_Mlists sMlists_14 := by rw [e_626]; exact (A_Mlists_upd I_sMlists (by show (0 ≤ (a1 : Int32).toInt ∧ (a1 : Int32).toInt ≤ 63) ∨ (100 ≤ (a1 : Int32).toInt ∧ (a1 : Int32).toInt ≤ 115) ∨ (216 ≤ (a1 : Int32).toInt ∧ (a1 : Int32).toInt ≤ 343) ∨ (400 ≤ (a1 : Int32).toInt ∧ (a1 : Int32).toInt ≤ 487) ∨ (501 ≤ (a1 : Int32).toInt ∧ (a1 : Int32).toInt ≤ 516) ∨ (a1 : Int32).toInt = 520; omega))
              refine So.gd (i_in.mpr (by omega)) ?_
              refine So.gd (i_in.mpr (by omega)) ?_
              refine So.lt2 fun sMlengths_17 e_629 => ?_
              have k_630 : (1 : Int32).toInt = 1 := by decide
              first | have f_631 := i_add (a := (sMlengths ((16 : Int32).toNatClampNeg))) (b := 1) (by omega) (by omega) | have f_631 := i_addm (sMlengths ((16 : Int32).toNatClampNeg)) 1
              have I_632 : A_Mlengths sMlengths_17 := by rw [e_629]; exact (A_Mlengths_upd I_sMlengths (by show 0 ≤ (((sMlengths ((16 : Int32).toNatClampNeg)) + 1) : Int32).toInt ∧ (((sMlengths ((16 : Int32).toNatClampNeg)) + 1) : Int32).toInt ≤ 24 ∧ (((16 : Int32).toNatClampNeg) < 16 → (((sMlengths ((16 : Int32).toNatClampNeg)) + 1) : Int32).toInt ≤ 8); omega))
              refine So.gd (i_in.mpr (by omega)) ?_
              exact So.one ⟨I_473, I_628, I_632, (by show 0 ≤ (Mo_thrown sMo_5).toInt; omega), (by show (Mo_thrown sMo_5).toInt ≤ 2; omega)⟩
            · rw [i_le] at c_620
              exact So.one ⟨I_473, I_sMlists, I_sMlengths, (by show 0 ≤ (Mo_thrown sMo_5).toInt; omega), (by show (Mo_thrown sMo_5).toInt ≤ 2; omega)⟩
theorem t_Mod_clear {a0 : Int32} {sMo : S_Mo} {sMlengths : (Nat → Int32)} (I_sMo : I_Mo sMo) (I_sMlengths : A_Mlengths sMlengths) : So (Mod_clear a0 sMo sMlengths) (fun r => I_Mo r.1 ∧ A_Mlengths r.2 ∧ (((Mo_thrown r.1).toInt = 0 ∧ (-1 ≤ a0.toInt ∧ a0.toInt < 16)) ∨ ((Mo_thrown r.1).toInt = 1 ∧ ¬ (-1 ≤ a0.toInt ∧ a0.toInt < 16)))) := by
  unfold Mod_clear
  refine So.ite (fun c_1 => ?_) (fun c_1 => ?_)
  · rw [i_lt] at c_1
    have k_2 : ((-1) : Int32).toInt = -1 := by decide
    unfold Mod_clear_j12
    unfold Mod_clear_j17
    refine So.lt2 fun sMo_3 e_3 => ?_
    have I_4 : I_Mo sMo_3 := by rw [e_3]; exact (I_Mo_set_thrown I_sMo)
    have k_5 : (1 : Int32).toInt = 1 := by decide
    have f_6 : (Mo_thrown sMo_3).toInt = (1 : Int32).toInt := by subst e_3; rfl
    refine So.ite (fun c_7 => ?_) (fun c_7 => ?_)
    · rw [i_eq] at c_7
      have k_8 : (0 : Int32).toInt = 0 := by decide
      refine So.ite (fun c_9 => ?_) (fun c_9 => ?_)
      · rw [i_le] at c_9
        refine So.gd (i_in.mpr (by omega)) ?_
        refine So.lt2 fun sMlengths_5 e_10 => ?_
        have f_11 := i_natm a0
        have I_12 : A_Mlengths sMlengths_5 := by rw [e_10]; exact (A_Mlengths_upd I_sMlengths (by show 0 ≤ (0 : Int32).toInt ∧ (0 : Int32).toInt ≤ 24 ∧ ((a0.toNatClampNeg) < 16 → (0 : Int32).toInt ≤ 8); omega))
        exact So.one ⟨I_4, I_12, (by show ((Mo_thrown sMo_3).toInt = 0 ∧ (-1 ≤ a0.toInt ∧ a0.toInt < 16)) ∨ ((Mo_thrown sMo_3).toInt = 1 ∧ ¬ (-1 ≤ a0.toInt ∧ a0.toInt < 16)); omega)⟩
      · rw [i_le] at c_9
        have k_13 : (16 : Int32).toInt = 16 := by decide
        refine So.gd (i_in.mpr (by omega)) ?_
        refine So.lt2 fun sMlengths_7 e_14 => ?_
        have f_15 := i_natm (16 : Int32)
        have I_16 : A_Mlengths sMlengths_7 := by rw [e_14]; exact (A_Mlengths_upd I_sMlengths (by show 0 ≤ (0 : Int32).toInt ∧ (0 : Int32).toInt ≤ 24 ∧ (((16 : Int32).toNatClampNeg) < 16 → (0 : Int32).toInt ≤ 8); omega))
        exact So.one ⟨I_4, I_16, (by show ((Mo_thrown sMo_3).toInt = 0 ∧ (-1 ≤ a0.toInt ∧ a0.toInt < 16)) ∨ ((Mo_thrown sMo_3).toInt = 1 ∧ ¬ (-1 ≤ a0.toInt ∧ a0.toInt < 16)); omega)⟩
    · rw [i_eq] at c_7
      have k_17 : (0 : Int32).toInt = 0 := by decide
      exact So.one ⟨I_4, I_sMlengths, (by show ((Mo_thrown sMo_3).toInt = 0 ∧ (-1 ≤ a0.toInt ∧ a0.toInt < 16)) ∨ ((Mo_thrown sMo_3).toInt = 1 ∧ ¬ (-1 ≤ a0.toInt ∧ a0.toInt < 16)); omega)⟩
  · rw [i_lt] at c_1
    have k_18 : ((-1) : Int32).toInt = -1 := by decide
    refine So.ite (fun c_19 => ?_) (fun c_19 => ?_)
    · rw [i_le] at c_19
      have k_20 : (15 : Int32).toInt = 15 := by decide
      unfold Mod_clear_j17
      refine So.lt2 fun sMo_3 e_21 => ?_
      have I_22 : I_Mo sMo_3 := by rw [e_21]; exact (I_Mo_set_thrown I_sMo)
      have k_23 : (0 : Int32).toInt = 0 := by decide
      have f_24 : (Mo_thrown sMo_3).toInt = (0 : Int32).toInt := by subst e_21; rfl
      refine So.ite (fun c_25 => ?_) (fun c_25 => ?_)
      · rw [i_eq] at c_25
        refine So.ite (fun c_26 => ?_) (fun c_26 => ?_)
        · rw [i_le] at c_26
          refine So.gd (i_in.mpr (by omega)) ?_
          refine So.lt2 fun sMlengths_5 e_27 => ?_
          have f_28 := i_natm a0
          have I_29 : A_Mlengths sMlengths_5 := by rw [e_27]; exact (A_Mlengths_upd I_sMlengths (by show 0 ≤ (0 : Int32).toInt ∧ (0 : Int32).toInt ≤ 24 ∧ ((a0.toNatClampNeg) < 16 → (0 : Int32).toInt ≤ 8); omega))
          exact So.one ⟨I_22, I_29, (by show ((Mo_thrown sMo_3).toInt = 0 ∧ (-1 ≤ a0.toInt ∧ a0.toInt < 16)) ∨ ((Mo_thrown sMo_3).toInt = 1 ∧ ¬ (-1 ≤ a0.toInt ∧ a0.toInt < 16)); omega)⟩
        · rw [i_le] at c_26
          have k_30 : (16 : Int32).toInt = 16 := by decide
          refine So.gd (i_in.mpr (by omega)) ?_
          refine So.lt2 fun sMlengths_7 e_31 => ?_
          have f_32 := i_natm (16 : Int32)
          have I_33 : A_Mlengths sMlengths_7 := by rw [e_31]; exact (A_Mlengths_upd I_sMlengths (by show 0 ≤ (0 : Int32).toInt ∧ (0 : Int32).toInt ≤ 24 ∧ (((16 : Int32).toNatClampNeg) < 16 → (0 : Int32).toInt ≤ 8); omega))
          exact So.one ⟨I_22, I_33, (by show ((Mo_thrown sMo_3).toInt = 0 ∧ (-1 ≤ a0.toInt ∧ a0.toInt < 16)) ∨ ((Mo_thrown sMo_3).toInt = 1 ∧ ¬ (-1 ≤ a0.toInt ∧ a0.toInt < 16)); omega)⟩
      · rw [i_eq] at c_25
        exact So.one ⟨I_22, I_sMlengths, (by show ((Mo_thrown sMo_3).toInt = 0 ∧ (-1 ≤ a0.toInt ∧ a0.toInt < 16)) ∨ ((Mo_thrown sMo_3).toInt = 1 ∧ ¬ (-1 ≤ a0.toInt ∧ a0.toInt < 16)); omega)⟩
    · rw [i_le] at c_19
      have k_34 : (15 : Int32).toInt = 15 := by decide
      unfold Mod_clear_j12
      unfold Mod_clear_j17
      refine So.lt2 fun sMo_3 e_35 => ?_
      have I_36 : I_Mo sMo_3 := by rw [e_35]; exact (I_Mo_set_thrown I_sMo)
      have k_37 : (1 : Int32).toInt = 1 := by decide
      have f_38 : (Mo_thrown sMo_3).toInt = (1 : Int32).toInt := by subst e_35; rfl
      refine So.ite (fun c_39 => ?_) (fun c_39 => ?_)
      · rw [i_eq] at c_39
        have k_40 : (0 : Int32).toInt = 0 := by decide
        refine So.ite (fun c_41 => ?_) (fun c_41 => ?_)
        · rw [i_le] at c_41
          refine So.gd (i_in.mpr (by omega)) ?_
          refine So.lt2 fun sMlengths_5 e_42 => ?_
          have f_43 := i_natm a0
          have I_44 : A_Mlengths sMlengths_5 := by rw [e_42]; exact (A_Mlengths_upd I_sMlengths (by show 0 ≤ (0 : Int32).toInt ∧ (0 : Int32).toInt ≤ 24 ∧ ((a0.toNatClampNeg) < 16 → (0 : Int32).toInt ≤ 8); omega))
          exact So.one ⟨I_36, I_44, (by show ((Mo_thrown sMo_3).toInt = 0 ∧ (-1 ≤ a0.toInt ∧ a0.toInt < 16)) ∨ ((Mo_thrown sMo_3).toInt = 1 ∧ ¬ (-1 ≤ a0.toInt ∧ a0.toInt < 16)); omega)⟩
        · rw [i_le] at c_41
          have k_45 : (16 : Int32).toInt = 16 := by decide
          refine So.gd (i_in.mpr (by omega)) ?_
          refine So.lt2 fun sMlengths_7 e_46 => ?_
          have f_47 := i_natm (16 : Int32)
          have I_48 : A_Mlengths sMlengths_7 := by rw [e_46]; exact (A_Mlengths_upd I_sMlengths (by show 0 ≤ (0 : Int32).toInt ∧ (0 : Int32).toInt ≤ 24 ∧ (((16 : Int32).toNatClampNeg) < 16 → (0 : Int32).toInt ≤ 8); omega))
          exact So.one ⟨I_36, I_48, (by show ((Mo_thrown sMo_3).toInt = 0 ∧ (-1 ≤ a0.toInt ∧ a0.toInt < 16)) ∨ ((Mo_thrown sMo_3).toInt = 1 ∧ ¬ (-1 ≤ a0.toInt ∧ a0.toInt < 16)); omega)⟩
      · rw [i_eq] at c_39
        have k_49 : (0 : Int32).toInt = 0 := by decide
        exact So.one ⟨I_36, I_sMlengths, (by show ((Mo_thrown sMo_3).toInt = 0 ∧ (-1 ≤ a0.toInt ∧ a0.toInt < 16)) ∨ ((Mo_thrown sMo_3).toInt = 1 ∧ ¬ (-1 ≤ a0.toInt ∧ a0.toInt < 16)); omega)⟩
theorem t_Mod_isSubset {a0 : Int32}  : So (Mod_isSubset a0) (fun r => ((r.toInt = 1 ∧ (0 ≤ a0.toInt ∧ a0.toInt < 8)) ∨ (r.toInt = 0 ∧ ¬ (0 ≤ a0.toInt ∧ a0.toInt < 8)))) := by
  unfold Mod_isSubset
  refine So.ite (fun c_1 => ?_) (fun c_1 => ?_)
  · rw [i_lt] at c_1
    have k_2 : (0 : Int32).toInt = 0 := by decide
    exact So.one (by show ((0 : Int32).toInt = 1 ∧ (0 ≤ a0.toInt ∧ a0.toInt < 8)) ∨ ((0 : Int32).toInt = 0 ∧ ¬ (0 ≤ a0.toInt ∧ a0.toInt < 8)); omega)
  · rw [i_lt] at c_1
    have k_3 : (0 : Int32).toInt = 0 := by decide
    refine So.ite (fun c_4 => ?_) (fun c_4 => ?_)
    · rw [i_le] at c_4
      have k_5 : (8 : Int32).toInt = 8 := by decide
      exact So.one (by show ((0 : Int32).toInt = 1 ∧ (0 ≤ a0.toInt ∧ a0.toInt < 8)) ∨ ((0 : Int32).toInt = 0 ∧ ¬ (0 ≤ a0.toInt ∧ a0.toInt < 8)); omega)
    · rw [i_le] at c_4
      have k_6 : (8 : Int32).toInt = 8 := by decide
      have k_7 : (1 : Int32).toInt = 1 := by decide
      exact So.one (by show ((1 : Int32).toInt = 1 ∧ (0 ≤ a0.toInt ∧ a0.toInt < 8)) ∨ ((1 : Int32).toInt = 0 ∧ ¬ (0 ≤ a0.toInt ∧ a0.toInt < 8)); omega)
theorem t_Mod_put {a0 : Int32} {a1 : Int32} {a2 : Int64} {sMo : S_Mo} {sMvalues : (Nat → Int64)} (I_sMo : I_Mo sMo) : So (Mod_put a0 a1 a2 sMo sMvalues) (fun r => I_Mo r.1 ∧ (((Mo_thrown r.1).toInt = 0 ∧ (0 ≤ a0.toInt ∧ a0.toInt < 8 ∧ 0 ≤ a1.toInt ∧ a1.toInt < 100)) ∨ ((Mo_thrown r.1).toInt = 1 ∧ ¬ (0 ≤ a0.toInt ∧ a0.toInt < 8 ∧ 0 ≤ a1.toInt ∧ a1.toInt < 100)))) := by
  unfold Mod_put
  refine So.bd (t_Mod_isSubset ) fun q1 h_1 => ?_
  have p_2 := h_1
  refine So.ite (fun c_3 => ?_) (fun c_3 => ?_)
  · rw [i_eq] at c_3
    have k_4 : (0 : Int32).toInt = 0 := by decide
    unfold Mod_put_j22
    unfold Mod_put_j23
    refine So.lt2 fun sMo_5 e_5 => ?_
    have I_6 : I_Mo sMo_5 := by rw [e_5]; exact (I_Mo_set_thrown I_sMo)
    have k_7 : (1 : Int32).toInt = 1 := by decide
    have f_8 : (Mo_thrown sMo_5).toInt = (1 : Int32).toInt := by subst e_5; rfl
    refine So.ite (fun c_9 => ?_) (fun c_9 => ?_)
    · rw [i_eq] at c_9
      have k_10 : (100 : Int32).toInt = 100 := by decide
      first | have f_11 := i_mull 100 a0 (100) (by decide) (by omega) (by omega) | have f_11 := i_mullm 100 a0 (100) (by decide)
      first | have f_12 := i_add (a := (100 * a0)) (b := a1) (by omega) (by omega) | have f_12 := i_addm (100 * a0) a1
      refine So.gd (i_in.mpr (by omega)) ?_
      refine So.lt2 fun sMvalues_7 e_13 => ?_
      exact So.one ⟨I_6, (by show ((Mo_thrown sMo_5).toInt = 0 ∧ (0 ≤ a0.toInt ∧ a0.toInt < 8 ∧ 0 ≤ a1.toInt ∧ a1.toInt < 100)) ∨ ((Mo_thrown sMo_5).toInt = 1 ∧ ¬ (0 ≤ a0.toInt ∧ a0.toInt < 8 ∧ 0 ≤ a1.toInt ∧ a1.toInt < 100)); omega)⟩
    · rw [i_eq] at c_9
      exact So.one ⟨I_6, (by show ((Mo_thrown sMo_5).toInt = 0 ∧ (0 ≤ a0.toInt ∧ a0.toInt < 8 ∧ 0 ≤ a1.toInt ∧ a1.toInt < 100)) ∨ ((Mo_thrown sMo_5).toInt = 1 ∧ ¬ (0 ≤ a0.toInt ∧ a0.toInt < 8 ∧ 0 ≤ a1.toInt ∧ a1.toInt < 100)); omega)⟩
  · rw [i_eq] at c_3
    have k_14 : (0 : Int32).toInt = 0 := by decide
    refine So.ite (fun c_15 => ?_) (fun c_15 => ?_)
    · rw [i_lt] at c_15
      unfold Mod_put_j22
      unfold Mod_put_j23
      refine So.lt2 fun sMo_5 e_16 => ?_
      have I_17 : I_Mo sMo_5 := by rw [e_16]; exact (I_Mo_set_thrown I_sMo)
      have k_18 : (1 : Int32).toInt = 1 := by decide
      have f_19 : (Mo_thrown sMo_5).toInt = (1 : Int32).toInt := by subst e_16; rfl
      refine So.ite (fun c_20 => ?_) (fun c_20 => ?_)
      · rw [i_eq] at c_20
        have k_21 : (100 : Int32).toInt = 100 := by decide
        first | have f_22 := i_mull 100 a0 (100) (by decide) (by omega) (by omega) | have f_22 := i_mullm 100 a0 (100) (by decide)
        first | have f_23 := i_add (a := (100 * a0)) (b := a1) (by omega) (by omega) | have f_23 := i_addm (100 * a0) a1
        refine So.gd (i_in.mpr (by omega)) ?_
        refine So.lt2 fun sMvalues_7 e_24 => ?_
        exact So.one ⟨I_17, (by show ((Mo_thrown sMo_5).toInt = 0 ∧ (0 ≤ a0.toInt ∧ a0.toInt < 8 ∧ 0 ≤ a1.toInt ∧ a1.toInt < 100)) ∨ ((Mo_thrown sMo_5).toInt = 1 ∧ ¬ (0 ≤ a0.toInt ∧ a0.toInt < 8 ∧ 0 ≤ a1.toInt ∧ a1.toInt < 100)); omega)⟩
      · rw [i_eq] at c_20
        exact So.one ⟨I_17, (by show ((Mo_thrown sMo_5).toInt = 0 ∧ (0 ≤ a0.toInt ∧ a0.toInt < 8 ∧ 0 ≤ a1.toInt ∧ a1.toInt < 100)) ∨ ((Mo_thrown sMo_5).toInt = 1 ∧ ¬ (0 ≤ a0.toInt ∧ a0.toInt < 8 ∧ 0 ≤ a1.toInt ∧ a1.toInt < 100)); omega)⟩
    · rw [i_lt] at c_15
      refine So.ite (fun c_25 => ?_) (fun c_25 => ?_)
      · rw [i_le] at c_25
        have k_26 : (100 : Int32).toInt = 100 := by decide
        unfold Mod_put_j22
        unfold Mod_put_j23
        refine So.lt2 fun sMo_5 e_27 => ?_
        have I_28 : I_Mo sMo_5 := by rw [e_27]; exact (I_Mo_set_thrown I_sMo)
        have k_29 : (1 : Int32).toInt = 1 := by decide
        have f_30 : (Mo_thrown sMo_5).toInt = (1 : Int32).toInt := by subst e_27; rfl
        refine So.ite (fun c_31 => ?_) (fun c_31 => ?_)
        · rw [i_eq] at c_31
          first | have f_32 := i_mull 100 a0 (100) (by decide) (by omega) (by omega) | have f_32 := i_mullm 100 a0 (100) (by decide)
          first | have f_33 := i_add (a := (100 * a0)) (b := a1) (by omega) (by omega) | have f_33 := i_addm (100 * a0) a1
          refine So.gd (i_in.mpr (by omega)) ?_
          refine So.lt2 fun sMvalues_7 e_34 => ?_
          exact So.one ⟨I_28, (by show ((Mo_thrown sMo_5).toInt = 0 ∧ (0 ≤ a0.toInt ∧ a0.toInt < 8 ∧ 0 ≤ a1.toInt ∧ a1.toInt < 100)) ∨ ((Mo_thrown sMo_5).toInt = 1 ∧ ¬ (0 ≤ a0.toInt ∧ a0.toInt < 8 ∧ 0 ≤ a1.toInt ∧ a1.toInt < 100)); omega)⟩
        · rw [i_eq] at c_31
          exact So.one ⟨I_28, (by show ((Mo_thrown sMo_5).toInt = 0 ∧ (0 ≤ a0.toInt ∧ a0.toInt < 8 ∧ 0 ≤ a1.toInt ∧ a1.toInt < 100)) ∨ ((Mo_thrown sMo_5).toInt = 1 ∧ ¬ (0 ≤ a0.toInt ∧ a0.toInt < 8 ∧ 0 ≤ a1.toInt ∧ a1.toInt < 100)); omega)⟩
      · rw [i_le] at c_25
        have k_35 : (100 : Int32).toInt = 100 := by decide
        unfold Mod_put_j23
        refine So.lt2 fun sMo_5 e_36 => ?_
        have I_37 : I_Mo sMo_5 := by rw [e_36]; exact (I_Mo_set_thrown I_sMo)
        have f_38 : (Mo_thrown sMo_5).toInt = (0 : Int32).toInt := by subst e_36; rfl
        refine So.ite (fun c_39 => ?_) (fun c_39 => ?_)
        · rw [i_eq] at c_39
          first | have f_40 := i_mull 100 a0 (100) (by decide) (by omega) (by omega) | have f_40 := i_mullm 100 a0 (100) (by decide)
          first | have f_41 := i_add (a := (100 * a0)) (b := a1) (by omega) (by omega) | have f_41 := i_addm (100 * a0) a1
          refine So.gd (i_in.mpr (by omega)) ?_
          refine So.lt2 fun sMvalues_7 e_42 => ?_
          exact So.one ⟨I_37, (by show ((Mo_thrown sMo_5).toInt = 0 ∧ (0 ≤ a0.toInt ∧ a0.toInt < 8 ∧ 0 ≤ a1.toInt ∧ a1.toInt < 100)) ∨ ((Mo_thrown sMo_5).toInt = 1 ∧ ¬ (0 ≤ a0.toInt ∧ a0.toInt < 8 ∧ 0 ≤ a1.toInt ∧ a1.toInt < 100)); omega)⟩
        · rw [i_eq] at c_39
          exact So.one ⟨I_37, (by show ((Mo_thrown sMo_5).toInt = 0 ∧ (0 ≤ a0.toInt ∧ a0.toInt < 8 ∧ 0 ≤ a1.toInt ∧ a1.toInt < 100)) ∨ ((Mo_thrown sMo_5).toInt = 1 ∧ ¬ (0 ≤ a0.toInt ∧ a0.toInt < 8 ∧ 0 ≤ a1.toInt ∧ a1.toInt < 100)); omega)⟩
theorem t_Mod_get {sMvalues : (Nat → Int64)} {a0 : Int32} {a1 : Int32} {sMo : S_Mo} (I_sMo : I_Mo sMo) : So (Mod_get sMvalues a0 a1 sMo) (fun r => I_Mo r.2) := by
  unfold Mod_get
  refine So.bd (t_Mod_isSubset ) fun q1 h_1 => ?_
  have p_2 := h_1
  refine So.ite (fun c_3 => ?_) (fun c_3 => ?_)
  · rw [i_eq] at c_3
    have k_4 : (0 : Int32).toInt = 0 := by decide
    unfold Mod_get_j22
    unfold Mod_get_j23
    refine So.lt2 fun sMo_5 e_5 => ?_
    have I_6 : I_Mo sMo_5 := by rw [e_5]; exact (I_Mo_set_thrown I_sMo)
    have k_7 : (1 : Int32).toInt = 1 := by decide
    have f_8 : (Mo_thrown sMo_5).toInt = (1 : Int32).toInt := by subst e_5; rfl
    refine So.ite (fun c_9 => ?_) (fun c_9 => ?_)
    · rw [i_eq] at c_9
      have k_10 : (100 : Int32).toInt = 100 := by decide
      first | have f_11 := i_mull 100 a0 (100) (by decide) (by omega) (by omega) | have f_11 := i_mullm 100 a0 (100) (by decide)
      first | have f_12 := i_add (a := (100 * a0)) (b := a1) (by omega) (by omega) | have f_12 := i_addm (100 * a0) a1
      refine So.gd (i_in.mpr (by omega)) ?_
      exact So.one I_6
    · rw [i_eq] at c_9
      exact So.one I_6
  · rw [i_eq] at c_3
    have k_13 : (0 : Int32).toInt = 0 := by decide
    refine So.ite (fun c_14 => ?_) (fun c_14 => ?_)
    · rw [i_lt] at c_14
      unfold Mod_get_j22
      unfold Mod_get_j23
      refine So.lt2 fun sMo_5 e_15 => ?_
      have I_16 : I_Mo sMo_5 := by rw [e_15]; exact (I_Mo_set_thrown I_sMo)
      have k_17 : (1 : Int32).toInt = 1 := by decide
      have f_18 : (Mo_thrown sMo_5).toInt = (1 : Int32).toInt := by subst e_15; rfl
      refine So.ite (fun c_19 => ?_) (fun c_19 => ?_)
      · rw [i_eq] at c_19
        have k_20 : (100 : Int32).toInt = 100 := by decide
        first | have f_21 := i_mull 100 a0 (100) (by decide) (by omega) (by omega) | have f_21 := i_mullm 100 a0 (100) (by decide)
        first | have f_22 := i_add (a := (100 * a0)) (b := a1) (by omega) (by omega) | have f_22 := i_addm (100 * a0) a1
        refine So.gd (i_in.mpr (by omega)) ?_
        exact So.one I_16
      · rw [i_eq] at c_19
        exact So.one I_16
    · rw [i_lt] at c_14
      refine So.ite (fun c_23 => ?_) (fun c_23 => ?_)
      · rw [i_le] at c_23
        have k_24 : (100 : Int32).toInt = 100 := by decide
        unfold Mod_get_j22
        unfold Mod_get_j23
        refine So.lt2 fun sMo_5 e_25 => ?_
        have I_26 : I_Mo sMo_5 := by rw [e_25]; exact (I_Mo_set_thrown I_sMo)
        have k_27 : (1 : Int32).toInt = 1 := by decide
        have f_28 : (Mo_thrown sMo_5).toInt = (1 : Int32).toInt := by subst e_25; rfl
        refine So.ite (fun c_29 => ?_) (fun c_29 => ?_)
        · rw [i_eq] at c_29
          first | have f_30 := i_mull 100 a0 (100) (by decide) (by omega) (by omega) | have f_30 := i_mullm 100 a0 (100) (by decide)
          first | have f_31 := i_add (a := (100 * a0)) (b := a1) (by omega) (by omega) | have f_31 := i_addm (100 * a0) a1
          refine So.gd (i_in.mpr (by omega)) ?_
          exact So.one I_26
        · rw [i_eq] at c_29
          exact So.one I_26
      · rw [i_le] at c_23
        have k_32 : (100 : Int32).toInt = 100 := by decide
        unfold Mod_get_j23
        refine So.lt2 fun sMo_5 e_33 => ?_
        have I_34 : I_Mo sMo_5 := by rw [e_33]; exact (I_Mo_set_thrown I_sMo)
        have f_35 : (Mo_thrown sMo_5).toInt = (0 : Int32).toInt := by subst e_33; rfl
        refine So.ite (fun c_36 => ?_) (fun c_36 => ?_)
        · rw [i_eq] at c_36
          first | have f_37 := i_mull 100 a0 (100) (by decide) (by omega) (by omega) | have f_37 := i_mullm 100 a0 (100) (by decide)
          first | have f_38 := i_add (a := (100 * a0)) (b := a1) (by omega) (by omega) | have f_38 := i_addm (100 * a0) a1
          refine So.gd (i_in.mpr (by omega)) ?_
          exact So.one I_34
        · rw [i_eq] at c_36
          exact So.one I_34
theorem t_Mod_fault {a0 : Int32} {sMo : S_Mo} (I_sMo : I_Mo sMo) : So (Mod_fault a0 sMo) (fun r => I_Mo r.2) := by
  unfold Mod_fault
  refine So.lt2 fun sMo_1 e_1 => ?_
  have I_2 : I_Mo sMo_1 := by rw [e_1]; exact (I_Mo_set_thrown I_sMo)
  have k_3 : (0 : Int32).toInt = 0 := by decide
  have f_4 : (Mo_fault sMo_1).toInt = (Mo_fault sMo).toInt := by subst e_1; rfl
  have f_5 : (Mo_place sMo_1).toInt = (Mo_place sMo).toInt := by subst e_1; rfl
  refine So.ite (fun c_6 => ?_) (fun c_6 => ?_)
  · rw [i_eq] at c_6
    exact So.one I_2
  · rw [i_eq] at c_6
    refine So.ite (fun c_7 => ?_) (fun c_7 => ?_)
    · rw [i_eq] at c_7
      have k_8 : (1 : Int32).toInt = 1 := by decide
      exact So.one I_2
    · rw [i_eq] at c_7
      have k_9 : (1 : Int32).toInt = 1 := by decide
      exact So.one I_2
theorem t_Mod_packedAt {sMpacked : (Nat → Int64)} {a0 : Int32} {sMo : S_Mo} (I_sMo : I_Mo sMo) : So (Mod_packedAt sMpacked a0 sMo) (fun r => I_Mo r.2) := by
  unfold Mod_packedAt
  refine So.lt2 fun sMo_1 e_1 => ?_
  have I_2 : I_Mo sMo_1 := by rw [e_1]; exact (I_Mo_set_thrown I_sMo)
  have k_3 : (0 : Int32).toInt = 0 := by decide
  refine So.ite (fun c_4 => ?_) (fun c_4 => ?_)
  · rw [i_lt] at c_4
    exact So.one I_2
  · rw [i_lt] at c_4
    refine So.ite (fun c_5 => ?_) (fun c_5 => ?_)
    · rw [i_le] at c_5
      have k_6 : (63 : Int32).toInt = 63 := by decide
      refine So.gd (i_in.mpr (by omega)) ?_
      exact So.one I_2
    · rw [i_le] at c_5
      have k_7 : (63 : Int32).toInt = 63 := by decide
      exact So.one I_2
theorem t_Mod_group {sMcost : (Nat → Int64)} {sMends : (Nat → Int32)} {a0 : Int32} {sMo : S_Mo} (I_sMo : I_Mo sMo) : So (Mod_group sMcost sMends a0 sMo) (fun r => I_Mo r.2) := by
  unfold Mod_group
  refine So.lt2 fun sMo_1 e_1 => ?_
  have I_2 : I_Mo sMo_1 := by rw [e_1]; exact (I_Mo_set_thrown I_sMo)
  have k_3 : (0 : Int32).toInt = 0 := by decide
  have f_4 : (Mo_codes sMo_1).toInt = (Mo_codes sMo).toInt := by subst e_1; rfl
  have f_5 : (Mo_groups sMo_1).toInt = (Mo_groups sMo).toInt := by subst e_1; rfl
  refine So.ite (fun c_6 => ?_) (fun c_6 => ?_)
  · rw [i_le] at c_6
    have f_7 := I_Mo_codes I_2
    refine So.ite (fun c_8 => ?_) (fun c_8 => ?_)
    · rw [i_eq] at c_8
      have k_9 : ((-1) : Int32).toInt = -1 := by decide
      exact So.one I_2
    · rw [i_eq] at c_8
      have k_10 : ((-1) : Int32).toInt = -1 := by decide
      refine So.ite (fun c_11 => ?_) (fun c_11 => ?_)
      · rw [i_eq] at c_11
        have k_12 : ((-2) : Int32).toInt = -2 := by decide
        refine So.gd (i_in.mpr (by omega)) ?_
        exact So.one I_2
      · rw [i_eq] at c_11
        have k_13 : ((-2) : Int32).toInt = -2 := by decide
        refine So.ite (fun c_14 => ?_) (fun c_14 => ?_)
        · rw [i_lt] at c_14
          exact So.one I_2
        · rw [i_lt] at c_14
          refine So.ite (fun c_15 => ?_) (fun c_15 => ?_)
          · rw [i_le] at c_15
            have f_16 := I_Mo_groups I_2
            exact So.one I_2
          · rw [i_le] at c_15
            have f_17 := I_Mo_groups I_2
            refine So.gd (i_in.mpr (by omega)) ?_
            exact So.one I_2
  · rw [i_le] at c_6
    have f_18 := I_Mo_codes I_2
    exact So.one I_2
theorem t_Mod_inOrder {a0 : Int32} (g_0 : 0 ≤ a0.toInt) (g_1 : a0.toInt < 64) : So (Mod_inOrder a0) (fun r => (0 ≤ r.toInt) ∧ (r.toInt < 64)) := by
  unfold Mod_inOrder
  refine So.ite (fun c_1 => ?_) (fun c_1 => ?_)
  · rw [i_eq] at c_1
    have k_2 : (8 : Int32).toInt = 8 := by decide
    first | have f_3 := i_divk a0 8 8 (by decide) (by decide) (by omega) | have f_3 := i_diva a0 8 8 (by decide) (by decide)
    have k_4 : (2 : Int32).toInt = 2 := by decide
    first | have f_5 := i_divk (a0 / 8) 2 2 (by decide) (by decide) (by omega) | have f_5 := i_diva (a0 / 8) 2 2 (by decide) (by decide)
    first | have f_6 := i_mulr ((a0 / 8) / 2) 2 (2) (by decide) (by omega) (by omega) | have f_6 := i_mulrm ((a0 / 8) / 2) 2 (2) (by decide)
    first | have f_7 := i_sub (a := (a0 / 8)) (b := (((a0 / 8) / 2) * 2)) (by omega) (by omega) | have f_7 := i_subm (a0 / 8) (((a0 / 8) / 2) * 2)
    have k_8 : (0 : Int32).toInt = 0 := by decide
    exact So.one ⟨(by show 0 ≤ (a0 : Int32).toInt; omega), (by show (a0 : Int32).toInt < 64; omega)⟩
  · rw [i_eq] at c_1
    have k_9 : (8 : Int32).toInt = 8 := by decide
    first | have f_10 := i_divk a0 8 8 (by decide) (by decide) (by omega) | have f_10 := i_diva a0 8 8 (by decide) (by decide)
    have k_11 : (2 : Int32).toInt = 2 := by decide
    first | have f_12 := i_divk (a0 / 8) 2 2 (by decide) (by decide) (by omega) | have f_12 := i_diva (a0 / 8) 2 2 (by decide) (by decide)
    first | have f_13 := i_mulr ((a0 / 8) / 2) 2 (2) (by decide) (by omega) (by omega) | have f_13 := i_mulrm ((a0 / 8) / 2) 2 (2) (by decide)
    first | have f_14 := i_sub (a := (a0 / 8)) (b := (((a0 / 8) / 2) * 2)) (by omega) (by omega) | have f_14 := i_subm (a0 / 8) (((a0 / 8) / 2) * 2)
    have k_15 : (0 : Int32).toInt = 0 := by decide
    first | have f_16 := i_mull 8 (a0 / 8) (8) (by decide) (by omega) (by omega) | have f_16 := i_mullm 8 (a0 / 8) (8) (by decide)
    have k_17 : (7 : Int32).toInt = 7 := by decide
    first | have f_18 := i_add (a := (8 * (a0 / 8))) (b := 7) (by omega) (by omega) | have f_18 := i_addm (8 * (a0 / 8)) 7
    first | have f_19 := i_mulr (a0 / 8) 8 (8) (by decide) (by omega) (by omega) | have f_19 := i_mulrm (a0 / 8) 8 (8) (by decide)
    first | have f_20 := i_sub (a := a0) (b := ((a0 / 8) * 8)) (by omega) (by omega) | have f_20 := i_subm a0 ((a0 / 8) * 8)
    first | have f_21 := i_sub (a := ((8 * (a0 / 8)) + 7)) (b := (a0 - ((a0 / 8) * 8))) (by omega) (by omega) | have f_21 := i_subm ((8 * (a0 / 8)) + 7) (a0 - ((a0 / 8) * 8))
    exact So.one ⟨(by show 0 ≤ ((((8 * (a0 / 8)) + 7) - (a0 - ((a0 / 8) * 8))) : Int32).toInt; omega), (by show ((((8 * (a0 / 8)) + 7) - (a0 - ((a0 / 8) * 8))) : Int32).toInt < 64; omega)⟩
theorem t_Mod_point {a0 : Int32} {a1 : Int64} {sMo : S_Mo} {sMpoints : (Nat → Int64)} (I_sMo : I_Mo sMo) : So (Mod_point a0 a1 sMo sMpoints) (fun r => I_Mo r.1 ∧ (((Mo_thrown r.1).toInt = 1 ∧ ¬ (0 ≤ a0.toInt ∧ a0.toInt < 64)) ∨ ((Mo_thrown r.1).toInt = 2 ∧ (0 ≤ a0.toInt ∧ a0.toInt < 64) ∧ ¬ (a1.toInt = -9000000000000000000 ∨ (-2000000000 ≤ a1.toInt ∧ a1.toInt ≤ 2000000000))) ∨ ((Mo_thrown r.1).toInt = 0 ∧ (0 ≤ a0.toInt ∧ a0.toInt < 64) ∧ (a1.toInt = -9000000000000000000 ∨ (-2000000000 ≤ a1.toInt ∧ a1.toInt ≤ 2000000000))))) := by
  unfold Mod_point
  refine So.ite (fun c_1 => ?_) (fun c_1 => ?_)
  · rw [i_lt] at c_1
    have k_2 : (0 : Int32).toInt = 0 := by decide
    unfold Mod_point_j11
    unfold Mod_point_j44
    refine So.lt2 fun sMo_6 e_3 => ?_
    have I_4 : I_Mo sMo_6 := by rw [e_3]; exact (I_Mo_set_thrown I_sMo)
    have k_5 : (1 : Int32).toInt = 1 := by decide
    have f_6 : (Mo_thrown sMo_6).toInt = (1 : Int32).toInt := by subst e_3; rfl
    refine So.ite (fun c_7 => ?_) (fun c_7 => ?_)
    · rw [i_eq] at c_7
      refine So.gd (i_in.mpr (by omega)) ?_
      refine So.lt2 fun sMpoints_8 e_8 => ?_
      exact So.one ⟨I_4, (by show ((Mo_thrown sMo_6).toInt = 1 ∧ ¬ (0 ≤ a0.toInt ∧ a0.toInt < 64)) ∨ ((Mo_thrown sMo_6).toInt = 2 ∧ (0 ≤ a0.toInt ∧ a0.toInt < 64) ∧ ¬ (a1.toInt = -9000000000000000000 ∨ (-2000000000 ≤ a1.toInt ∧ a1.toInt ≤ 2000000000))) ∨ ((Mo_thrown sMo_6).toInt = 0 ∧ (0 ≤ a0.toInt ∧ a0.toInt < 64) ∧ (a1.toInt = -9000000000000000000 ∨ (-2000000000 ≤ a1.toInt ∧ a1.toInt ≤ 2000000000))); omega)⟩
    · rw [i_eq] at c_7
      exact So.one ⟨I_4, (by show ((Mo_thrown sMo_6).toInt = 1 ∧ ¬ (0 ≤ a0.toInt ∧ a0.toInt < 64)) ∨ ((Mo_thrown sMo_6).toInt = 2 ∧ (0 ≤ a0.toInt ∧ a0.toInt < 64) ∧ ¬ (a1.toInt = -9000000000000000000 ∨ (-2000000000 ≤ a1.toInt ∧ a1.toInt ≤ 2000000000))) ∨ ((Mo_thrown sMo_6).toInt = 0 ∧ (0 ≤ a0.toInt ∧ a0.toInt < 64) ∧ (a1.toInt = -9000000000000000000 ∨ (-2000000000 ≤ a1.toInt ∧ a1.toInt ≤ 2000000000))); omega)⟩
  · rw [i_lt] at c_1
    have k_9 : (0 : Int32).toInt = 0 := by decide
    refine So.ite (fun c_10 => ?_) (fun c_10 => ?_)
    · rw [i_le] at c_10
      have k_11 : (63 : Int32).toInt = 63 := by decide
      refine So.ite (fun c_12 => ?_) (fun c_12 => ?_)
      · rw [i64_eq] at c_12
        have k_13 : ((-9000000000000000000) : Int64).toInt = -9000000000000000000 := by decide
        unfold Mod_point_j43
        unfold Mod_point_j44
        refine So.lt2 fun sMo_6 e_14 => ?_
        have I_15 : I_Mo sMo_6 := by rw [e_14]; exact (I_Mo_set_thrown I_sMo)
        have f_16 : (Mo_thrown sMo_6).toInt = (0 : Int32).toInt := by subst e_14; rfl
        refine So.ite (fun c_17 => ?_) (fun c_17 => ?_)
        · rw [i_eq] at c_17
          refine So.gd (i_in.mpr (by omega)) ?_
          refine So.lt2 fun sMpoints_8 e_18 => ?_
          exact So.one ⟨I_15, (by show ((Mo_thrown sMo_6).toInt = 1 ∧ ¬ (0 ≤ a0.toInt ∧ a0.toInt < 64)) ∨ ((Mo_thrown sMo_6).toInt = 2 ∧ (0 ≤ a0.toInt ∧ a0.toInt < 64) ∧ ¬ (a1.toInt = -9000000000000000000 ∨ (-2000000000 ≤ a1.toInt ∧ a1.toInt ≤ 2000000000))) ∨ ((Mo_thrown sMo_6).toInt = 0 ∧ (0 ≤ a0.toInt ∧ a0.toInt < 64) ∧ (a1.toInt = -9000000000000000000 ∨ (-2000000000 ≤ a1.toInt ∧ a1.toInt ≤ 2000000000))); omega)⟩
        · rw [i_eq] at c_17
          exact So.one ⟨I_15, (by show ((Mo_thrown sMo_6).toInt = 1 ∧ ¬ (0 ≤ a0.toInt ∧ a0.toInt < 64)) ∨ ((Mo_thrown sMo_6).toInt = 2 ∧ (0 ≤ a0.toInt ∧ a0.toInt < 64) ∧ ¬ (a1.toInt = -9000000000000000000 ∨ (-2000000000 ≤ a1.toInt ∧ a1.toInt ≤ 2000000000))) ∨ ((Mo_thrown sMo_6).toInt = 0 ∧ (0 ≤ a0.toInt ∧ a0.toInt < 64) ∧ (a1.toInt = -9000000000000000000 ∨ (-2000000000 ≤ a1.toInt ∧ a1.toInt ≤ 2000000000))); omega)⟩
      · rw [i64_eq] at c_12
        have k_19 : ((-9000000000000000000) : Int64).toInt = -9000000000000000000 := by decide
        refine So.ite (fun c_20 => ?_) (fun c_20 => ?_)
        · rw [i64_lt] at c_20
          have k_21 : ((-2000000000) : Int64).toInt = -2000000000 := by decide
          unfold Mod_point_j39
          unfold Mod_point_j44
          refine So.lt2 fun sMo_6 e_22 => ?_
          have I_23 : I_Mo sMo_6 := by rw [e_22]; exact (I_Mo_set_thrown I_sMo)
          have k_24 : (2 : Int32).toInt = 2 := by decide
          have f_25 : (Mo_thrown sMo_6).toInt = (2 : Int32).toInt := by subst e_22; rfl
          refine So.ite (fun c_26 => ?_) (fun c_26 => ?_)
          · rw [i_eq] at c_26
            refine So.gd (i_in.mpr (by omega)) ?_
            refine So.lt2 fun sMpoints_8 e_27 => ?_
            exact So.one ⟨I_23, (by show ((Mo_thrown sMo_6).toInt = 1 ∧ ¬ (0 ≤ a0.toInt ∧ a0.toInt < 64)) ∨ ((Mo_thrown sMo_6).toInt = 2 ∧ (0 ≤ a0.toInt ∧ a0.toInt < 64) ∧ ¬ (a1.toInt = -9000000000000000000 ∨ (-2000000000 ≤ a1.toInt ∧ a1.toInt ≤ 2000000000))) ∨ ((Mo_thrown sMo_6).toInt = 0 ∧ (0 ≤ a0.toInt ∧ a0.toInt < 64) ∧ (a1.toInt = -9000000000000000000 ∨ (-2000000000 ≤ a1.toInt ∧ a1.toInt ≤ 2000000000))); omega)⟩
          · rw [i_eq] at c_26
            exact So.one ⟨I_23, (by show ((Mo_thrown sMo_6).toInt = 1 ∧ ¬ (0 ≤ a0.toInt ∧ a0.toInt < 64)) ∨ ((Mo_thrown sMo_6).toInt = 2 ∧ (0 ≤ a0.toInt ∧ a0.toInt < 64) ∧ ¬ (a1.toInt = -9000000000000000000 ∨ (-2000000000 ≤ a1.toInt ∧ a1.toInt ≤ 2000000000))) ∨ ((Mo_thrown sMo_6).toInt = 0 ∧ (0 ≤ a0.toInt ∧ a0.toInt < 64) ∧ (a1.toInt = -9000000000000000000 ∨ (-2000000000 ≤ a1.toInt ∧ a1.toInt ≤ 2000000000))); omega)⟩
        · rw [i64_lt] at c_20
          have k_28 : ((-2000000000) : Int64).toInt = -2000000000 := by decide
          refine So.ite (fun c_29 => ?_) (fun c_29 => ?_)
          · rw [i64_le] at c_29
            have k_30 : (2000000000 : Int64).toInt = 2000000000 := by decide
            unfold Mod_point_j43
            unfold Mod_point_j44
            refine So.lt2 fun sMo_6 e_31 => ?_
            have I_32 : I_Mo sMo_6 := by rw [e_31]; exact (I_Mo_set_thrown I_sMo)
            have f_33 : (Mo_thrown sMo_6).toInt = (0 : Int32).toInt := by subst e_31; rfl
            refine So.ite (fun c_34 => ?_) (fun c_34 => ?_)
            · rw [i_eq] at c_34
              refine So.gd (i_in.mpr (by omega)) ?_
              refine So.lt2 fun sMpoints_8 e_35 => ?_
              exact So.one ⟨I_32, (by show ((Mo_thrown sMo_6).toInt = 1 ∧ ¬ (0 ≤ a0.toInt ∧ a0.toInt < 64)) ∨ ((Mo_thrown sMo_6).toInt = 2 ∧ (0 ≤ a0.toInt ∧ a0.toInt < 64) ∧ ¬ (a1.toInt = -9000000000000000000 ∨ (-2000000000 ≤ a1.toInt ∧ a1.toInt ≤ 2000000000))) ∨ ((Mo_thrown sMo_6).toInt = 0 ∧ (0 ≤ a0.toInt ∧ a0.toInt < 64) ∧ (a1.toInt = -9000000000000000000 ∨ (-2000000000 ≤ a1.toInt ∧ a1.toInt ≤ 2000000000))); omega)⟩
            · rw [i_eq] at c_34
              exact So.one ⟨I_32, (by show ((Mo_thrown sMo_6).toInt = 1 ∧ ¬ (0 ≤ a0.toInt ∧ a0.toInt < 64)) ∨ ((Mo_thrown sMo_6).toInt = 2 ∧ (0 ≤ a0.toInt ∧ a0.toInt < 64) ∧ ¬ (a1.toInt = -9000000000000000000 ∨ (-2000000000 ≤ a1.toInt ∧ a1.toInt ≤ 2000000000))) ∨ ((Mo_thrown sMo_6).toInt = 0 ∧ (0 ≤ a0.toInt ∧ a0.toInt < 64) ∧ (a1.toInt = -9000000000000000000 ∨ (-2000000000 ≤ a1.toInt ∧ a1.toInt ≤ 2000000000))); omega)⟩
          · rw [i64_le] at c_29
            have k_36 : (2000000000 : Int64).toInt = 2000000000 := by decide
            unfold Mod_point_j39
            unfold Mod_point_j44
            refine So.lt2 fun sMo_6 e_37 => ?_
            have I_38 : I_Mo sMo_6 := by rw [e_37]; exact (I_Mo_set_thrown I_sMo)
            have k_39 : (2 : Int32).toInt = 2 := by decide
            have f_40 : (Mo_thrown sMo_6).toInt = (2 : Int32).toInt := by subst e_37; rfl
            refine So.ite (fun c_41 => ?_) (fun c_41 => ?_)
            · rw [i_eq] at c_41
              refine So.gd (i_in.mpr (by omega)) ?_
              refine So.lt2 fun sMpoints_8 e_42 => ?_
              exact So.one ⟨I_38, (by show ((Mo_thrown sMo_6).toInt = 1 ∧ ¬ (0 ≤ a0.toInt ∧ a0.toInt < 64)) ∨ ((Mo_thrown sMo_6).toInt = 2 ∧ (0 ≤ a0.toInt ∧ a0.toInt < 64) ∧ ¬ (a1.toInt = -9000000000000000000 ∨ (-2000000000 ≤ a1.toInt ∧ a1.toInt ≤ 2000000000))) ∨ ((Mo_thrown sMo_6).toInt = 0 ∧ (0 ≤ a0.toInt ∧ a0.toInt < 64) ∧ (a1.toInt = -9000000000000000000 ∨ (-2000000000 ≤ a1.toInt ∧ a1.toInt ≤ 2000000000))); omega)⟩
            · rw [i_eq] at c_41
              exact So.one ⟨I_38, (by show ((Mo_thrown sMo_6).toInt = 1 ∧ ¬ (0 ≤ a0.toInt ∧ a0.toInt < 64)) ∨ ((Mo_thrown sMo_6).toInt = 2 ∧ (0 ≤ a0.toInt ∧ a0.toInt < 64) ∧ ¬ (a1.toInt = -9000000000000000000 ∨ (-2000000000 ≤ a1.toInt ∧ a1.toInt ≤ 2000000000))) ∨ ((Mo_thrown sMo_6).toInt = 0 ∧ (0 ≤ a0.toInt ∧ a0.toInt < 64) ∧ (a1.toInt = -9000000000000000000 ∨ (-2000000000 ≤ a1.toInt ∧ a1.toInt ≤ 2000000000))); omega)⟩
    · rw [i_le] at c_10
      have k_43 : (63 : Int32).toInt = 63 := by decide
      unfold Mod_point_j11
      unfold Mod_point_j44
      refine So.lt2 fun sMo_6 e_44 => ?_
      have I_45 : I_Mo sMo_6 := by rw [e_44]; exact (I_Mo_set_thrown I_sMo)
      have k_46 : (1 : Int32).toInt = 1 := by decide
      have f_47 : (Mo_thrown sMo_6).toInt = (1 : Int32).toInt := by subst e_44; rfl
      refine So.ite (fun c_48 => ?_) (fun c_48 => ?_)
      · rw [i_eq] at c_48
        refine So.gd (i_in.mpr (by omega)) ?_
        refine So.lt2 fun sMpoints_8 e_49 => ?_
        exact So.one ⟨I_45, (by show ((Mo_thrown sMo_6).toInt = 1 ∧ ¬ (0 ≤ a0.toInt ∧ a0.toInt < 64)) ∨ ((Mo_thrown sMo_6).toInt = 2 ∧ (0 ≤ a0.toInt ∧ a0.toInt < 64) ∧ ¬ (a1.toInt = -9000000000000000000 ∨ (-2000000000 ≤ a1.toInt ∧ a1.toInt ≤ 2000000000))) ∨ ((Mo_thrown sMo_6).toInt = 0 ∧ (0 ≤ a0.toInt ∧ a0.toInt < 64) ∧ (a1.toInt = -9000000000000000000 ∨ (-2000000000 ≤ a1.toInt ∧ a1.toInt ≤ 2000000000))); omega)⟩
      · rw [i_eq] at c_48
        exact So.one ⟨I_45, (by show ((Mo_thrown sMo_6).toInt = 1 ∧ ¬ (0 ≤ a0.toInt ∧ a0.toInt < 64)) ∨ ((Mo_thrown sMo_6).toInt = 2 ∧ (0 ≤ a0.toInt ∧ a0.toInt < 64) ∧ ¬ (a1.toInt = -9000000000000000000 ∨ (-2000000000 ≤ a1.toInt ∧ a1.toInt ≤ 2000000000))) ∨ ((Mo_thrown sMo_6).toInt = 0 ∧ (0 ≤ a0.toInt ∧ a0.toInt < 64) ∧ (a1.toInt = -9000000000000000000 ∨ (-2000000000 ≤ a1.toInt ∧ a1.toInt ≤ 2000000000))); omega)⟩
theorem t_Mod_byteAt_L95 {fu : Nat} {sMmade : (Nat → Int32)} {x1_L95 : Int32} {sMo_L95 : S_Mo} (hf : 12000 ≤ fu) (I_sMo_L95 : I_Mo sMo_L95) (g_0 : 4 ≤ x1_L95.toInt) (g_1 : x1_L95.toInt ≤ 5005) : ∀ (n : Nat) (x2_L95 : Int32) (x3_L95 : Int32), (8 * (x1_L95.toInt - 4) ≤ x3_L95.toInt) → (x3_L95.toInt ≤ 8 * (x1_L95.toInt - 3)) → (8 * (x1_L95.toInt - 3) - x3_L95.toInt < (n : Nat)) → So (Mod_byteAt_L95 fu sMmade x1_L95 sMo_L95 n x2_L95 x3_L95) (fun r => I_Mo r.2)
  | 0, x2_L95, x3_L95, l_0, l_1, l_2 => absurd l_2 (by omega)
  | n + 1, x2_L95, x3_L95, l_0, l_1, l_2 => by
    rw [Mod_byteAt_L95]
    refine So.ite (fun c_1 => ?_) (fun c_1 => ?_)
    · rw [i_le] at c_1
      have k_2 : (8 : Int32).toInt = 8 := by decide
      have k_3 : (3 : Int32).toInt = 3 := by decide
      first | have f_4 := i_sub (a := x1_L95) (b := 3) (by omega) (by omega) | have f_4 := i_subm x1_L95 3
      first | have f_5 := i_mull 8 (x1_L95 - 3) (8) (by decide) (by omega) (by omega) | have f_5 := i_mullm 8 (x1_L95 - 3) (8) (by decide)
      exact So.one I_sMo_L95
    · rw [i_le] at c_1
      have k_6 : (8 : Int32).toInt = 8 := by decide
      have k_7 : (3 : Int32).toInt = 3 := by decide
      first | have f_8 := i_sub (a := x1_L95) (b := 3) (by omega) (by omega) | have f_8 := i_subm x1_L95 3
      first | have f_9 := i_mull 8 (x1_L95 - 3) (8) (by decide) (by omega) (by omega) | have f_9 := i_mullm 8 (x1_L95 - 3) (8) (by decide)
      refine So.ite (fun c_10 => ?_) (fun c_10 => ?_)
      · rw [i_le] at c_10
        have f_11 := I_Mo_madeMany I_sMo_L95
        unfold Mod_byteAt_j129
        unfold Mod_byteAt_j130
        have k_12 : (1 : Int32).toInt = 1 := by decide
        first | have f_13 := i_add (a := x3_L95) (b := 1) (by omega) (by omega) | have f_13 := i_addm x3_L95 1
        exact t_Mod_byteAt_L95 hf I_sMo_L95 (by show 4 ≤ x1_L95.toInt; omega) (by show x1_L95.toInt ≤ 5005; omega)   n _ _ (by show 8 * (x1_L95.toInt - 4) ≤ (x3_L95 + 1).toInt; omega) (by show (x3_L95 + 1).toInt ≤ 8 * (x1_L95.toInt - 3); omega) (by show 8 * (x1_L95.toInt - 3) - (x3_L95 + 1).toInt < (n : Nat); omega)
      · rw [i_le] at c_10
        have f_14 := I_Mo_madeMany I_sMo_L95
        refine So.gd (i_in.mpr (by omega)) ?_
        refine So.ite (fun c_15 => ?_) (fun c_15 => ?_)
        · rw [i_eq] at c_15
          have k_16 : (0 : Int32).toInt = 0 := by decide
          unfold Mod_byteAt_j129
          unfold Mod_byteAt_j130
          have k_17 : (1 : Int32).toInt = 1 := by decide
          first | have f_18 := i_add (a := x3_L95) (b := 1) (by omega) (by omega) | have f_18 := i_addm x3_L95 1
          exact t_Mod_byteAt_L95 hf I_sMo_L95 (by show 4 ≤ x1_L95.toInt; omega) (by show x1_L95.toInt ≤ 5005; omega)   n _ _ (by show 8 * (x1_L95.toInt - 4) ≤ (x3_L95 + 1).toInt; omega) (by show (x3_L95 + 1).toInt ≤ 8 * (x1_L95.toInt - 3); omega) (by show 8 * (x1_L95.toInt - 3) - (x3_L95 + 1).toInt < (n : Nat); omega)
        · rw [i_eq] at c_15
          have k_19 : (0 : Int32).toInt = 0 := by decide
          unfold Mod_byteAt_j130
          have k_20 : (1 : Int32).toInt = 1 := by decide
          first | have f_21 := i_add (a := x3_L95) (b := 1) (by omega) (by omega) | have f_21 := i_addm x3_L95 1
          exact t_Mod_byteAt_L95 hf I_sMo_L95 (by show 4 ≤ x1_L95.toInt; omega) (by show x1_L95.toInt ≤ 5005; omega)   n _ _ (by show 8 * (x1_L95.toInt - 4) ≤ (x3_L95 + 1).toInt; omega) (by show (x3_L95 + 1).toInt ≤ 8 * (x1_L95.toInt - 3); omega) (by show 8 * (x1_L95.toInt - 3) - (x3_L95 + 1).toInt < (n : Nat); omega)
theorem t_Mod_byteAt {fu : Nat} {sMmade : (Nat → Int32)} {a0 : Int32} {sMo : S_Mo} (hf : 12000 ≤ fu) (I_sMo : I_Mo sMo) : So (Mod_byteAt fu sMmade a0 sMo) (fun r => I_Mo r.2) := by
  unfold Mod_byteAt
  refine So.lt2 fun sMo_1 e_1 => ?_
  have I_2 : I_Mo sMo_1 := by rw [e_1]; exact (I_Mo_set_thrown I_sMo)
  have k_3 : (0 : Int32).toInt = 0 := by decide
  have f_4 : (Mo_madeMany sMo_1).toInt = (Mo_madeMany sMo).toInt := by subst e_1; rfl
  have f_5 : (Mo_madeKind sMo_1).toInt = (Mo_madeKind sMo).toInt := by subst e_1; rfl
  have f_6 : (Mo_madeSubsets sMo_1).toInt = (Mo_madeSubsets sMo).toInt := by subst e_1; rfl
  have f_7 : (Mo_written sMo_1).toInt = (Mo_written sMo).toInt := by subst e_1; rfl
  refine So.ite (fun c_8 => ?_) (fun c_8 => ?_)
  · rw [i_eq] at c_8
    exact So.one I_2
  · rw [i_eq] at c_8
    refine So.ite (fun c_9 => ?_) (fun c_9 => ?_)
    · rw [i_lt] at c_9
      exact So.one I_2
    · rw [i_lt] at c_9
      refine So.ite (fun c_10 => ?_) (fun c_10 => ?_)
      · rw [i_lt] at c_10
        have k_11 : (4 : Int32).toInt = 4 := by decide
        have f_12 := I_Mo_madeMany I_2
        have k_13 : (7 : Int32).toInt = 7 := by decide
        first | have f_14 := i_add (a := (Mo_madeMany sMo_1)) (b := 7) (by omega) (by omega) | have f_14 := i_addm (Mo_madeMany sMo_1) 7
        have k_15 : (8 : Int32).toInt = 8 := by decide
        first | have f_16 := i_divk ((Mo_madeMany sMo_1) + 7) 8 8 (by decide) (by decide) (by omega) | have f_16 := i_diva ((Mo_madeMany sMo_1) + 7) 8 8 (by decide) (by decide)
        first | have f_17 := i_add (a := 4) (b := (((Mo_madeMany sMo_1) + 7) / 8)) (by omega) (by omega) | have f_17 := i_addm 4 (((Mo_madeMany sMo_1) + 7) / 8)
        refine So.ite (fun c_18 => ?_) (fun c_18 => ?_)
        · rw [i_le] at c_18
          first | have f_19 := i_sub (a := a0) (b := 4) (by omega) (by omega) | have f_19 := i_subm a0 4
          first | have f_20 := i_mull 8 (a0 - 4) (8) (by decide) (by omega) (by omega) | have f_20 := i_mullm 8 (a0 - 4) (8) (by decide)
          refine So.imp (t_Mod_byteAt_L95 hf I_2 (by show 4 ≤ a0.toInt; omega) (by show a0.toInt ≤ 5005; omega) fu _ _ (by show 8 * (a0.toInt - 4) ≤ (8 * (a0 - 4)).toInt; omega) (by show (8 * (a0 - 4)).toInt ≤ 8 * (a0.toInt - 3); omega) (by show 8 * (a0.toInt - 3) - (8 * (a0 - 4)).toInt < (fu : Nat); omega)) fun q_z h_z => ?_
          have p_21 := h_z
          exact p_21
        · rw [i_le] at c_18
          refine So.ite (fun c_22 => ?_) (fun c_22 => ?_)
          · rw [i_eq] at c_22
            exact So.one I_2
          · rw [i_eq] at c_22
            refine So.ite (fun c_23 => ?_) (fun c_23 => ?_)
            · rw [i_eq] at c_23
              have k_24 : (1 : Int32).toInt = 1 := by decide
              exact So.one I_2
            · rw [i_eq] at c_23
              have k_25 : (1 : Int32).toInt = 1 := by decide
              refine So.ite (fun c_26 => ?_) (fun c_26 => ?_)
              · rw [i_eq] at c_26
                have k_27 : (2 : Int32).toInt = 2 := by decide
                exact So.one I_2
              · rw [i_eq] at c_26
                have k_28 : (2 : Int32).toInt = 2 := by decide
                exact So.one I_2
      · rw [i_lt] at c_10
        have k_29 : (4 : Int32).toInt = 4 := by decide
        have f_30 := I_Mo_madeMany I_2
        have k_31 : (7 : Int32).toInt = 7 := by decide
        first | have f_32 := i_add (a := (Mo_madeMany sMo_1)) (b := 7) (by omega) (by omega) | have f_32 := i_addm (Mo_madeMany sMo_1) 7
        have k_33 : (8 : Int32).toInt = 8 := by decide
        first | have f_34 := i_divk ((Mo_madeMany sMo_1) + 7) 8 8 (by decide) (by decide) (by omega) | have f_34 := i_diva ((Mo_madeMany sMo_1) + 7) 8 8 (by decide) (by decide)
        first | have f_35 := i_add (a := 4) (b := (((Mo_madeMany sMo_1) + 7) / 8)) (by omega) (by omega) | have f_35 := i_addm 4 (((Mo_madeMany sMo_1) + 7) / 8)
        exact So.one I_2
theorem t_Mod_feed_L33 {fu : Nat} {x1_L33 : Int32} (hf : 12000 ≤ fu) : ∀ (n : Nat) (x3_L33 : Int32) (sMo_L33 : S_Mo) (sMtape_L33 : Nat → Int32), I_Mo sMo_L33 → A_Mtape sMtape_L33 → (-1 ≤ x3_L33.toInt) → (x3_L33.toInt ≤ 3) → ((Mo_taped sMo_L33).toInt + x3_L33.toInt + 1 ≤ 1000) → (x3_L33.toInt + 1 < (n : Nat)) → So (Mod_feed_L33 fu x1_L33 n x3_L33 sMo_L33 sMtape_L33) (fun r => I_Mo r.2.1 ∧ A_Mtape r.2.2)
  | 0, x3_L33, sMo_L33, sMtape_L33, I_sMo_L33, I_sMtape_L33, l_0, l_1, l_2, l_3 => absurd l_3 (by omega)
  | n + 1, x3_L33, sMo_L33, sMtape_L33, I_sMo_L33, I_sMtape_L33, l_0, l_1, l_2, l_3 => by
    rw [Mod_feed_L33]
    refine So.ite (fun c_1 => ?_) (fun c_1 => ?_)
    · rw [i_lt] at c_1
      have k_2 : (0 : Int32).toInt = 0 := by decide
      exact So.one ⟨I_sMo_L33, I_sMtape_L33⟩
    · rw [i_lt] at c_1
      have k_3 : (0 : Int32).toInt = 0 := by decide
      have f_4 := I_Mo_taped I_sMo_L33
      refine So.gd (i_in.mpr (by omega)) ?_
      refine So.lt2 fun sMtape_3 e_5 => ?_
      have k_6 : (8 : Int32).toInt = 8 := by decide
      first | have f_7 := i_mull 8 x3_L33 (8) (by decide) (by omega) (by omega) | have f_7 := i_mullm 8 x3_L33 (8) (by decide)
      have k_8 : (31 : Int32).toInt = 31 := by decide
      have f_9 := i_andm (8 * x3_L33) 31 (by decide)
      have k_10 : (255 : Int32).toInt = 255 := by decide
      have f_11 := i_andm (x1_L33 >>> ((8 * x3_L33) &&& 31)) 255 (by decide)
      have I_12 : A_Mtape sMtape_3 := by rw [e_5]; exact (A_Mtape_upd I_sMtape_L33 (by show 0 ≤ (((x1_L33 >>> ((8 * x3_L33) &&& 31)) &&& 255) : Int32).toInt ∧ (((x1_L33 >>> ((8 * x3_L33) &&& 31)) &&& 255) : Int32).toInt ≤ 255; omega))
      have k_14 : (1 : Int32).toInt = 1 := by decide
      first | have f_15 := i_add (a := (Mo_taped sMo_L33)) (b := 1) (by omega) (by omega) | have f_15 := i_addm (Mo_taped sMo_L33) 1
      refine So.lt2 fun sMo_4 e_13 => ?_
      have I_16 : I_Mo sMo_4 := by rw [e_13]; exact (I_Mo_set_taped I_sMo_L33 (by show 0 ≤ (((Mo_taped sMo_L33) + 1) : Int32).toInt ∧ (((Mo_taped sMo_L33) + 1) : Int32).toInt ≤ 1000; omega))
      have f_17 : (Mo_taped sMo_4).toInt = (((Mo_taped sMo_L33) + 1) : Int32).toInt := by subst e_13; rfl
      have k_18 : ((-1) : Int32).toInt = -1 := by decide
      first | have f_19 := i_add (a := x3_L33) (b := (-1)) (by omega) (by omega) | have f_19 := i_addm x3_L33 (-1)
      have f_20 := I_Mo_taped I_16
      exact t_Mod_feed_L33 hf   n _ _ _ I_16 I_12 (by show -1 ≤ (x3_L33 + (-1)).toInt; ((try generalize (x3_L33 + (-1)).toInt = gv0 at *); omega)) (by show (x3_L33 + (-1)).toInt ≤ 3; ((try generalize (x3_L33 + (-1)).toInt = gv0 at *); omega)) (by show (Mo_taped sMo_4).toInt + (x3_L33 + (-1)).toInt + 1 ≤ 1000; ((try generalize (x3_L33 + (-1)).toInt = gv0 at *); omega)) (by show (x3_L33 + (-1)).toInt + 1 < (n : Nat); ((try generalize (x3_L33 + (-1)).toInt = gv0 at *); omega))
theorem t_Mod_feed {fu : Nat} {a0 : Int32} {a1 : Int32} {sMo : S_Mo} {sMtape : (Nat → Int32)} (hf : 12000 ≤ fu) (I_sMo : I_Mo sMo) (I_sMtape : A_Mtape sMtape) : So (Mod_feed fu a0 a1 sMo sMtape) (fun r => I_Mo r.2.1 ∧ A_Mtape r.2.2) := by
  unfold Mod_feed
  refine So.lt2 fun sMo_1 e_1 => ?_
  have I_2 : I_Mo sMo_1 := by rw [e_1]; exact (I_Mo_set_thrown I_sMo)
  have k_3 : (0 : Int32).toInt = 0 := by decide
  have f_4 : (Mo_taped sMo_1).toInt = (Mo_taped sMo).toInt := by subst e_1; rfl
  refine So.ite (fun c_5 => ?_) (fun c_5 => ?_)
  · rw [i_lt] at c_5
    have k_6 : (1 : Int32).toInt = 1 := by decide
    exact So.one ⟨I_2, I_sMtape⟩
  · rw [i_lt] at c_5
    have k_7 : (1 : Int32).toInt = 1 := by decide
    refine So.ite (fun c_8 => ?_) (fun c_8 => ?_)
    · rw [i_lt] at c_8
      have k_9 : (4 : Int32).toInt = 4 := by decide
      exact So.one ⟨I_2, I_sMtape⟩
    · rw [i_lt] at c_8
      have k_10 : (4 : Int32).toInt = 4 := by decide
      refine So.ite (fun c_11 => ?_) (fun c_11 => ?_)
      · rw [i_le] at c_11
        have f_12 := I_Mo_taped I_2
        first | have f_13 := i_add (a := (Mo_taped sMo_1)) (b := a1) (by omega) (by omega) | have f_13 := i_addm (Mo_taped sMo_1) a1
        have k_14 : (1000 : Int32).toInt = 1000 := by decide
        first | have f_15 := i_sub (a := a1) (b := 1) (by omega) (by omega) | have f_15 := i_subm a1 1
        refine So.imp (t_Mod_feed_L33 hf fu _ _ _ I_2 I_sMtape (by show -1 ≤ (a1 - 1).toInt; omega) (by show (a1 - 1).toInt ≤ 3; omega) (by show (Mo_taped sMo_1).toInt + (a1 - 1).toInt + 1 ≤ 1000; omega) (by show (a1 - 1).toInt + 1 < (fu : Nat); omega)) fun q_z h_z => ?_
        obtain ⟨p_16, p_17⟩ := h_z
        exact ⟨p_16, p_17⟩
      · rw [i_le] at c_11
        have f_18 := I_Mo_taped I_2
        first | have f_19 := i_add (a := (Mo_taped sMo_1)) (b := a1) (by omega) (by omega) | have f_19 := i_addm (Mo_taped sMo_1) a1
        have k_20 : (1000 : Int32).toInt = 1000 := by decide
        exact So.one ⟨I_2, I_sMtape⟩
theorem t_Mod_isIn {a0 : Int32} {a1 : Int32} {a2 : Int32}  : So (Mod_isIn a0 a1 a2) (fun r => ((r.toInt = 1 ∧ (a1.toInt ≤ a0.toInt ∧ a0.toInt ≤ a2.toInt)) ∨ (r.toInt = 0 ∧ ¬ (a1.toInt ≤ a0.toInt ∧ a0.toInt ≤ a2.toInt)))) := by
  unfold Mod_isIn
  refine So.ite (fun c_1 => ?_) (fun c_1 => ?_)
  · rw [i_lt] at c_1
    have k_2 : (0 : Int32).toInt = 0 := by decide
    exact So.one (by show ((0 : Int32).toInt = 1 ∧ (a1.toInt ≤ a0.toInt ∧ a0.toInt ≤ a2.toInt)) ∨ ((0 : Int32).toInt = 0 ∧ ¬ (a1.toInt ≤ a0.toInt ∧ a0.toInt ≤ a2.toInt)); omega)
  · rw [i_lt] at c_1
    refine So.ite (fun c_3 => ?_) (fun c_3 => ?_)
    · rw [i_lt] at c_3
      have k_4 : (0 : Int32).toInt = 0 := by decide
      exact So.one (by show ((0 : Int32).toInt = 1 ∧ (a1.toInt ≤ a0.toInt ∧ a0.toInt ≤ a2.toInt)) ∨ ((0 : Int32).toInt = 0 ∧ ¬ (a1.toInt ≤ a0.toInt ∧ a0.toInt ≤ a2.toInt)); omega)
    · rw [i_lt] at c_3
      have k_5 : (1 : Int32).toInt = 1 := by decide
      exact So.one (by show ((1 : Int32).toInt = 1 ∧ (a1.toInt ≤ a0.toInt ∧ a0.toInt ≤ a2.toInt)) ∨ ((1 : Int32).toInt = 0 ∧ ¬ (a1.toInt ≤ a0.toInt ∧ a0.toInt ≤ a2.toInt)); omega)
theorem t_Mod_fresh {sMo : S_Mo} (I_sMo : I_Mo sMo) : So (Mod_fresh sMo) (fun r => I_Mo r ∧ ((Mo_fault r).toInt = 0)) := by
  unfold Mod_fresh
  refine So.lt2 fun sMo_1 e_1 => ?_
  have I_2 : I_Mo sMo_1 := by rw [e_1]; exact (I_Mo_set_fault I_sMo)
  have k_3 : (0 : Int32).toInt = 0 := by decide
  have f_4 : (Mo_fault sMo_1).toInt = (0 : Int32).toInt := by subst e_1; rfl
  refine So.lt2 fun sMo_2 e_5 => ?_
  have I_6 : I_Mo sMo_2 := by rw [e_5]; exact (I_Mo_set_place I_2)
  have k_7 : ((-1) : Int32).toInt = -1 := by decide
  have f_8 : (Mo_fault sMo_2).toInt = (Mo_fault sMo_1).toInt := by subst e_5; rfl
  exact So.one ⟨I_6, (by show (Mo_fault sMo_2).toInt = 0; omega)⟩
theorem t_Mod_most {a0 : Int32}  : So (Mod_most a0) (fun r => True) := by
  unfold Mod_most
  exact So.one trivial

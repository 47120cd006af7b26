-- coming to an element, to bits (class)
theorem ce_plain {d : Int32} {W : S_Walk} (h : Walk_countedEnd W = (-1)) : Walk_comeToElement d W = some (Walk_set_dueKind (Walk_set_dueCode W d) (if Walk_settings W 2 ≤ 0 then 0 else 1)) := by
  have h' : Walk_countedEnd (Walk_set_dueCode W d) = (-1) := h
  unfold Walk_comeToElement o_lt
  dsimp only
  rw [if_pos h', gd_t (show o_in 2 4 = true by decide)]
  show (if Walk_settings W 2 ≤ 0 then some (Walk_set_dueKind (Walk_set_dueCode W d) 0) else some (Walk_set_dueKind (Walk_set_dueCode W d) 1)) = _
  by_cases c : Walk_settings W 2 ≤ 0
  · rw [if_pos c, if_pos c]
  · rw [if_neg c, if_neg c]
theorem ce_count {d : Int32} {W : S_Walk} (h : ¬ Walk_countedEnd W = (-1)) : Walk_comeToElement d W = some (Walk_set_dueKind (Walk_set_dueCode W d) 2) := by
  have h' : ¬ Walk_countedEnd (Walk_set_dueCode W d) = (-1) := h
  unfold Walk_comeToElement o_lt
  dsimp only
  rw [if_neg h']
theorem cb_ok {q : Int32} {Fl : S_Fld} {W : S_Walk} (h : q ≤ Walk_elementCount W) : Walk_comeToBits Fl q W = some (Walk_set_dueBits (Walk_set_dueKind (Walk_set_nextPointed (Walk_set_pointedCount W 0) 0) 3) q) := by
  unfold Walk_comeToBits
  rw [if_pos h]
  rfl
theorem cb_f {q : Int32} {Fl : S_Fld} {W : S_Walk} (h : ¬ q ≤ Walk_elementCount W) : ∃ W', Walk_comeToBits Fl q W = some W' ∧ ¬ Walk_fault W' = 0 := by
  refine ⟨Walk_set_place (Walk_set_fault W 7) (Fld_count Fl), ?_, by show ¬ (7 : Int32) = 0; decide⟩
  unfold Walk_comeToBits
  rw [if_neg h]
  rfl
theorem cr_count {t e : Int32} {W : S_Walk} {L : S_Lps} (h : t ≤ 0) : Walk_comeToRepeat t e W L = some (Walk_set_countedEnd W e, L) := by
  unfold Walk_comeToRepeat
  rw [if_pos h]
  rfl
-- the reference's element and bits
theorem we_inv {fu : Nat} {th sc rf wi : Nat → Int32} {va : Nat → Int64} {tu op bi : Nat → Int32} {d : Int32} {s : S_Mo} {rd : Nat → Int64} {ki co wd sca lk rp : Nat → Int32} {ba : Nat → Int64} {ea : Nat → Int32} {w : QE} (h : Mod_walkElement fu th sc rf wi va tu op bi d s rd ki co wd sca lk rp ba ea = some w) : ∃ q1, Mod_force fu s th d = some q1 ∧ ((op 2 = (-100) ∧ Mod_walkElement_j38 fu th sc rf wi va tu op bi d q1 s rd ki co wd sca lk rp ba ea = some w) ∨ (¬ op 2 = (-100) ∧ ∃ q : QC, Mod_come fu va tu bi 1 (-1) (op 2) 0 0 (Mo_fields s + 1) s rd ki co wd sca lk rp ba = some q ∧ Mod_walkElement_j38 fu th sc rf wi va tu op bi d q1 q.2.1 q.2.2.1 q.2.2.2.1 q.2.2.2.2.1 q.2.2.2.2.2.1 q.2.2.2.2.2.2.1 q.2.2.2.2.2.2.2.1 q.2.2.2.2.2.2.2.2.1 q.2.2.2.2.2.2.2.2.2 ea = some w)) := by
  unfold Mod_walkElement at h
  obtain ⟨q1, e1, h⟩ := oi_bd h
  refine ⟨q1, e1, ?_⟩
  have h := oe_gd h
  have h : (if op 2 = (-100) then _ else _) = some w := h
  by_cases c : op 2 = (-100)
  · rw [if_pos c] at h
    exact Or.inl ⟨c, h⟩
  · rw [if_neg c] at h
    have h := oe_gd h
    obtain ⟨q, e, h⟩ := oi_bd h
    exact Or.inr ⟨c, q, e, h⟩
theorem wbits_inv {fu : Nat} {va : Nat → Int64} {tu ea bi : Nat → Int32} {x : Int32} {s : S_Mo} {rd : Nat → Int64} {ki co wd sca lk rp : Nat → Int32} {ba : Nat → Int64} {pa : Nat → Int32} {w : QE} (h : Mod_walkBits fu va tu ea bi x s rd ki co wd sca lk rp ba pa = some w) : (x ≤ Mo_elements s ∧ Mod_walkBits_L30 fu va tu ea bi x fu 0 (Mo_set_pointer (Mo_set_pointed s 0) 0) rd ki co wd sca lk rp ba pa = some w) ∨ (¬ x ≤ Mo_elements s ∧ ¬ Mo_fault w.1 = 0 ∧ Mo_fields w.1 = Mo_fields s ∧ w.2 = (rd, ki, co, wd, sca, lk, rp, ba, pa)) := by
  unfold Mod_walkBits at h
  by_cases c : x ≤ Mo_elements s
  · rw [if_pos c] at h
    exact Or.inl ⟨c, h⟩
  · rw [if_neg c] at h
    obtain ⟨s7, e7, h⟩ := oi_bd h
    have x7 := wrong_x (by decide) e7
    have h : Mod_walkBits_L30 fu va tu ea bi x fu 0 (Mo_set_pointer (Mo_set_pointed s7 0) 0) rd ki co wd sca lk rp ba pa = some w := h
    have e := L30_out (Or.inl (show ¬ Mo_fault (Mo_set_pointer (Mo_set_pointed s7 0) 0) = 0 from x7.1)) h
    rw [e]
    exact Or.inr ⟨c, x7.1, x7.2.1, rfl⟩

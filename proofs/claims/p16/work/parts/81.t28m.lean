-- the class's compiling: what it leaves in the program
theorem el_inv {fu : Nat} {t : S_Tab} {d : Int32} {P P' : S_Prog} (h : Prog_lookAtElement fu t d P = some P') (h0 : Prog_fault P' = 0) : P' = P := by
  have bad : ∀ a : Int32, ¬ a = 0 → (o_bd (Prog_fail a P) fun q => some q) = some P' → False := by
    intro a ha g
    obtain ⟨Q, e, hQ⟩ := fail_x a P
    rw [bd_s e] at g
    cases g
    exact ha (hQ.symm.trans h0)
  unfold Prog_lookAtElement at h
  obtain ⟨q1, _, h⟩ := oi_bd h
  split at h
  · exact (bad 1 (by decide) h).elim
  · have h := oe_gd (oe_gd h)
    obtain ⟨q4, _, h⟩ := oi_bd h
    unfold o_lt at h
    have h := oe_gd (oe_gd h)
    obtain ⟨q8, _, h⟩ := oi_bd h
    obtain ⟨q10, _, h⟩ := oi_bd h
    split at h
    · exact (bad 5 (by decide) h).elim
    · obtain ⟨q12, _, h⟩ := oi_bd h
      split at h
      · exact (bad 5 (by decide) h).elim
      · cases h
        rfl
def SD (a b : S_Prog) : Prop := Prog_descriptors a = Prog_descriptors b ∧ Prog_bodyEnds a = Prog_bodyEnds b ∧ Prog_size a = Prog_size b ∧ Prog_open a = Prog_open b ∧ Prog_openAts a = Prog_openAts b ∧ Prog_openEnds a = Prog_openEnds b ∧ Prog_openRepeats a = Prog_openRepeats b
theorem op_inv {q q11 : Int32} {P P' : S_Prog} (h : Prog_lookAtOperator q q11 P = some P') (h0 : Prog_fault P' = 0) : SD P' P := by
  have j24 : ∀ a b : Int32, Prog_lookAtOperator_j24 q q11 a b P = some P' → SD P' P := by
    intro a b g
    unfold Prog_lookAtOperator_j24 at g
    split at g
    · obtain ⟨Q, e, hQ⟩ := fail_x 4 P
      rw [bd_s e] at g
      cases g
      exact absurd (hQ.symm.trans h0) (by decide)
    · have g := oe_gd g
      cases g
      exact ⟨rfl, rfl, rfl, rfl, rfl, rfl, rfl⟩
  unfold Prog_lookAtOperator Prog_lookAtOperator_j14 at h
  have h := oe_gd h
  split at h
  · split at h
    · exact j24 _ _ h
    · exact j24 _ _ h
  · split at h
    · exact j24 _ _ h
    · exact j24 _ _ h
def OpL (P P' : S_Prog) (k : Nat) (a0 a1 a3 : Int32) : Prop := Prog_descriptors P' = Prog_descriptors P ∧ Prog_bodyEnds P' = Prog_bodyEnds P ∧ Prog_size P' = Prog_size P ∧ Prog_open P' = Prog_open P + 1 ∧ Prog_openAts P' = upd (Prog_openAts P) k a0 ∧ Prog_openEnds P' = upd (Prog_openEnds P) k a1 ∧ Prog_openRepeats P' = upd (Prog_openRepeats P) k a3
theorem openList_inv {a0 a1 a2 a3 : Int32} {P P' : S_Prog} (h : Prog_openList a0 a1 a2 a3 P = some P') (h0 : Prog_fault P' = 0) : OpL P P' (Prog_open P).toNatClampNeg a0 a1 a3 := by
  unfold Prog_openList o_lt at h
  split at h
  · have h := oe_gd (oe_gd (oe_gd (oe_gd (oe_gd h))))
    cases h
    exact ⟨rfl, rfl, rfl, rfl, rfl, rfl, rfl⟩
  · obtain ⟨Q, e, hQ⟩ := fail_x 2 P
    rw [bd_s e] at h
    cases h
    exact absurd (hQ.symm.trans h0) (by decide)
theorem seq_inv {fu : Nat} {t : S_Tab} {a : Int32} {P P' : S_Prog} (h : Prog_lookAtSequence fu t a P = some P') (h0 : Prog_fault P' = 0) (ha0 : 0 ≤ a.toInt) (ha : a.toInt < 16) (I : I_Tab t) : ∃ a0 a1 : Int32, a0.toInt = 8 * a.toInt ∧ a1.toInt = 8 * a.toInt + (Tab_sizes t a.toNatClampNeg).toInt ∧ ¬ Tab_sizes t a.toNatClampNeg = 0 ∧ OpL P P' (Prog_open P).toNatClampNeg a0 a1 (-1) := by
  have bad : ∀ b : Int32, ¬ b = 0 → (o_bd (Prog_fail b P) fun q => some q) = some P' → False := by
    intro b hb g
    obtain ⟨Q, e, hQ⟩ := fail_x b P
    rw [bd_s e] at g
    cases g
    exact hb (hQ.symm.trans h0)
  unfold Prog_lookAtSequence at h
  have h := oe_gd h
  split at h
  · exact (bad 1 (by decide) h).elim
  · rename_i cz
    obtain ⟨q2, _, h⟩ := oi_bd h
    split at h
    · obtain ⟨q3, e3, d3, h⟩ := oe_bd (t_Tab_startOf (a0 := a) ha0 (by omega)) h
      obtain ⟨q4, e4, d4, h⟩ := oe_bd (t_Tab_endOf (sTab := t) (a0 := a) I ha0 (by omega)) h
      rw [bd_some] at h
      exact ⟨q3, q4, d3, d4.2.1, cz, openList_inv h h0⟩
    · exact (bad 2 (by decide) h).elim
def TkU (P P' : S_Prog) (d : Int32) : Prop := Prog_descriptors P' = upd (Prog_descriptors P) (Prog_size P).toNatClampNeg d ∧ Prog_bodyEnds P' = Prog_bodyEnds P ∧ Prog_size P' = Prog_size P + 1 ∧ Prog_open P' = Prog_open P ∧ Prog_openAts P' = Prog_openAts P ∧ Prog_openEnds P' = Prog_openEnds P ∧ Prog_openRepeats P' = Prog_openRepeats P ∧ (Prog_size P).toInt < 1000 ∧ Prog_fault P' = Prog_fault P
theorem takeUp_inv {a0 d k : Int32} {P P' : S_Prog} (h : Prog_takeUp a0 d P = some (k, P')) (h0 : ¬ k = 0) : TkU P P' d := by
  have kt : (1000 : Int32).toInt = 1000 := by decide
  have j : ∀ Q : S_Prog, Prog_takeUp_j16 d Q = some (k, P') → TkU Q P' d := by
    intro Q g
    unfold Prog_takeUp_j16 o_lt at g
    split at g
    · rename_i c
      have g := oe_gd g
      cases g
      exact ⟨rfl, rfl, rfl, rfl, rfl, rfl, rfl, by rw [i_lt, kt] at c; exact c, rfl⟩
    · obtain ⟨Q', e, hQ⟩ := fail_x 2 Q
      rw [bd_s e] at g
      cases g
      exact absurd rfl h0
  unfold Prog_takeUp o_lt at h
  split at h
  · exact j P h
  · have g := j (Prog_set_templatePlace P (a0 - 128)) h
    exact g
theorem takeUp_inv0 {a0 d : Int32} {P P' : S_Prog} (h : Prog_takeUp a0 d P = some (0, P')) : ¬ Prog_fault P' = 0 := by
  have j : ∀ Q : S_Prog, Prog_takeUp_j16 d Q = some (0, P') → ¬ Prog_fault P' = 0 := by
    intro Q g
    unfold Prog_takeUp_j16 o_lt at g
    split at g
    · have g := oe_gd g
      have e : (1 : Int32) = 0 := congrArg Prod.fst (Option.some.inj g)
      exact absurd e (by decide)
    · obtain ⟨Q', e, hQ⟩ := fail_x 2 Q
      rw [bd_s e] at g
      cases g
      rw [hQ]
      decide
  unfold Prog_takeUp o_lt at h
  split at h
  · exact j P h
  · exact j _ h
def RpL (P P' : S_Prog) (o : Nat) (y5 y6 y7 : Int32) : Prop := Prog_descriptors P' = Prog_descriptors P ∧ Prog_bodyEnds P' = Prog_bodyEnds P ∧ Prog_size P' = Prog_size P ∧ Prog_open P' = Prog_open P + 1 ∧ Prog_openAts P' = upd (upd (Prog_openAts P) o y6) (Prog_open P).toNatClampNeg y5 ∧ Prog_openEnds P' = upd (Prog_openEnds P) (Prog_open P).toNatClampNeg y6 ∧ Prog_openRepeats P' = upd (Prog_openRepeats P) (Prog_open P).toNatClampNeg y7
theorem j139_inv {fu : Nat} {t : S_Tab} {x3 x5 x6 x7 : Int32} {P P' : S_Prog} (h : Prog_lookAtRepeat_j139 fu t x3 x5 x6 x7 P = some P') (h0 : Prog_fault P' = 0) : RpL P P' x3.toNatClampNeg x5 x6 x7 := by
  unfold Prog_lookAtRepeat_j139 o_lt at h
  split at h
  · have h : o_bd (Prog_openList x5 x6 (-1) x7 (Prog_put_openAts P x3.toNatClampNeg x6)) (fun q23 => some q23) = some P' := oe_gd h
    rw [bd_some] at h
    obtain ⟨a, b, c, d, e, f, g⟩ := openList_inv h h0
    exact ⟨a, b, c, d, e, f, g⟩
  · rename_i c
    cases h
    exact absurd h0 c

-- the descriptor behind a REPEAT with a count
theorem d_next {o : Nat} {t : S_Tab} {u x : Int32} {th sc rf wi ls le li ne : Nat → Int32} (T : TbR t u th sc rf wi ls le) (h0 : 0 ≤ (ne o).toInt) (hx : x.toInt = (ne o).toInt + 1) (h2 : x.toInt < (le (li o).toNatClampNeg).toInt) (h24 : x.toInt ≤ 24) (h3 : 0 ≤ (li o).toInt) (h4 : (li o).toInt ≤ 16) : ls (24 * li o + x).toNatClampNeg = Tab_listed t (fp li ne o + 1) ∧ KDi (ls (24 * li o + x).toNatClampNeg).toInt := by
  have nli := i_nat h3
  have nne := i_nat h0
  have m1 := i_mull 24 (li o) 24 (by decide) (by omega) (by omega)
  have m2 : (24 * li o + x).toInt = 24 * (li o).toInt + ((ne o).toInt + 1) := by
    rw [i_add (a := 24 * li o) (b := x) (by rw [m1, hx]; clear m1; omega) (by rw [m1, hx]; clear m1; omega), m1, hx]
  have q1 := i_nat (a := 24 * li o + x) (by rw [m2]; clear m1 m2; omega)
  rw [m2] at q1
  have e : (24 * li o + x).toNatClampNeg = 24 * (li o).toNatClampNeg + ((ne o).toNatClampNeg + 1) := by
    clear m1 m2
    omega
  rw [e]
  have g := T.2.2.2.2 (li o).toNatClampNeg ((ne o).toNatClampNeg + 1) (by clear m1 m2; omega) (by clear m1 m2; omega)
  exact ⟨g.1.symm, g.2⟩
-- a turn of advance that only comes (class): the walk's place stays where the loops say
theorem on_stay {fu o a : Nat} {F : Nat → Int32} {Z : Nat → Nat} {D B : Nat → Int32} {sz b : Nat} {li ne en be lf tu : Nat → Int32} {L : S_Lps} {x : Int32} (hf : 12000 ≤ fu) (hx : x.toInt = (a : Int)) (hab : a < b) (H : St F Z D B sz li ne en be lf tu L o b) (hL : (Lps_open L).toInt = (rn tu (o + 1) : Int)) : Lps_onFrom fu x L = some (x, L) := by
  have k0 : (0 : Int32).toInt = 0 := by decide
  have t0 := St_t0 o b H
  have rl := rn_le t0.1 o
  obtain ⟨m, rfl⟩ : ∃ m, fu = m + 1 := ⟨fu - 1, by omega⟩
  unfold Lps_onFrom
  by_cases c : rn tu (o + 1) = 0
  · refine lp_stay (Or.inl ?_)
    rw [i_le, hL, c, k0]
    exact Int.le_refl _
  · have e := (St_end o b H c).1
    refine lp_stay (Or.inr ⟨rn tu (o + 1) - 1, by omega, by omega, fun ex => ?_⟩)
    rw [← ex, hx] at e
    omega

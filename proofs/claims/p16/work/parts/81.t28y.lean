-- a field is given: what agrees behind it
theorem shl_mul (a b : Int64) : a * (1 <<< b) = a <<< b := by
  apply Int64.toBitVec_inj.1
  rw [Int64.toBitVec_mul, Int64.toBitVec_shiftLeft, Int64.toBitVec_shiftLeft]
  generalize b.toBitVec.smod 64 = c
  apply BitVec.eq_of_toNat_eq
  rw [BitVec.toNat_mul, BitVec.shiftLeft_eq', BitVec.shiftLeft_eq', BitVec.toNat_shiftLeft, BitVec.toNat_shiftLeft, Nat.shiftLeft_eq, Nat.shiftLeft_eq]
  have h1 : (1 : Int64).toBitVec.toNat = 1 := by decide
  rw [h1, Nat.one_mul, Nat.mul_mod_mod]
theorem WB_come {i : Nat} {t : S_Tab} {P : S_Prog} {W : S_Walk} {Fl : S_Fld} {L : S_Lps} {s s' : S_Mo} {li ne en be lf tu op ki co wd sca lk rp : Nat → Int32} {ba : Nat → Int64} {ea pa : Nat → Int32} {o a : Nat} {a0 a1 a2 a3 a5 q : Int32} {a4 : Int64} (R : WB t P W Fl L s li ne en be lf tu op ki co wd sca lk rp ba ea pa o a) (hi : (Mo_fields s).toInt = (i : Int)) (h100 : i < 100) (hz : Mo_fault s' = 0) (e1 : (Mo_open s').toInt = (Mo_open s).toInt) (e2 : (Mo_looked s').toInt = (Mo_looked s).toInt) (e3 : (Mo_elements s').toInt = (Mo_elements s).toInt) (e4 : (Mo_pointed s').toInt = (Mo_pointed s).toInt) (e5 : (Mo_pointer s').toInt = (Mo_pointer s).toInt) (e6 : Mo_fields s' = Mo_fields s + 1) (h3 : (a0 = 3 → a4 = 0) ∧ BB a4 ∧ 1 ≤ a2.toInt) : WB t P W (gvF Fl i a0 a1 a2 a3 a4 a5 q) L s' li ne en be lf tu op (upd ki i a0) (upd co i a1) (upd wd i a2) (upd sca i a3) (upd lk i a5) (upd rp i q) (vp_updL ba i a4) ea pa o a := by
  obtain ⟨r1, r2, r3, r4, r5, r6, r7, r8, ⟨x1, x2, x3, x4⟩, ⟨y1, y2, y3, y4, y5, y6, y7⟩, r11, r12, r13⟩ := R
  have k1 : (1 : Int32).toInt = 1 := by decide
  have f1 : (Mo_fields s').toInt = (i : Int) + 1 := by
    rw [e6, i_add (a := Mo_fields s) (b := 1) (by omega) (by omega), hi, k1]
  refine ⟨r1, hz, e1.trans r3, r4, r5.trans (i_eq.mpr e2).symm, by omega, by omega, r8, ⟨x1.trans (i_eq.mpr e3).symm, by omega, by omega, fun j hj => ?_⟩, ⟨y1.trans (i_eq.mpr e4).symm, by omega, by omega, y4.trans (i_eq.mpr e5).symm, by omega, by omega, fun j hj => ?_⟩, FdR_give r11 hi h100 e6 h3, r12, r13⟩
  · have g := x4 j (by omega)
    exact ⟨g.1, g.2.1, by omega⟩
  · have g := y7 j (by omega)
    exact ⟨g.1, g.2.1, by omega⟩
-- an element's field is kept in the row of elements
theorem WB_elem {i : Nat} {t : S_Tab} {P : S_Prog} {W : S_Walk} {Fl : S_Fld} {L : S_Lps} {s : S_Mo} {li ne en be lf tu op ki co wd sca lk rp : Nat → Int32} {ba : Nat → Int64} {ea pa : Nat → Int32} {o a : Nat} {c : Int32} (R : WB t P W Fl L s li ne en be lf tu op ki co wd sca lk rp ba ea pa o a) (hc : c.toInt = (i : Int)) (hi : (Mo_fields s).toInt = (i : Int) + 1) (hlt : (Mo_elements s).toInt ≤ (i : Int)) : WB t P (Walk_set_elementCount (Walk_put_elements W (Walk_elementCount W).toNatClampNeg c) (Walk_elementCount W + 1)) Fl L (Mo_set_elements s (Mo_elements s + 1)) li ne en be lf tu op ki co wd sca lk rp ba (upd ea (Mo_elements s).toNatClampNeg c) pa o a := by
  obtain ⟨r1, r2, r3, r4, r5, r6, r7, r8, ⟨x1, x2, x3, x4⟩, r10, r11, r12, r13⟩ := R
  have k1 : (1 : Int32).toInt = 1 := by decide
  have h100 := r11.2.2.1
  have e1 : (Mo_elements s + 1).toInt = (Mo_elements s).toInt + 1 := by
    rw [i_add (a := Mo_elements s) (b := 1) (by omega) (by omega), k1]
  have ne_ := i_nat x2
  refine ⟨r1, r2, r3, r4, r5, r6, r7, r8, ⟨?_, ?_, ?_, fun j hj => ?_⟩, r10, r11, r12, r13⟩
  · show Walk_elementCount W + 1 = Mo_elements s + 1
    rw [x1]
  · show 0 ≤ (Mo_elements s + 1).toInt
    rw [e1]
    clear e1
    omega
  · show (Mo_elements s + 1).toInt ≤ (Mo_fields s).toInt
    rw [e1]
    clear e1
    omega
  · have hj : (j : Int) < (Mo_elements s + 1).toInt := hj
    rw [e1] at hj
    clear e1
    show upd (Walk_elements W) (Walk_elementCount W).toNatClampNeg c j = upd ea (Mo_elements s).toNatClampNeg c j ∧ 0 ≤ (upd ea (Mo_elements s).toNatClampNeg c j).toInt ∧ (upd ea (Mo_elements s).toNatClampNeg c j).toInt < (Mo_fields s).toInt
    rw [x1]
    by_cases ej : j = (Mo_elements s).toNatClampNeg
    · rw [ej, upd_at, upd_at]
      exact ⟨rfl, by omega, by omega⟩
    · rw [upd_ne ej, upd_ne ej]
      exact x4 j (by omega)
-- settle, by kind
theorem settle_other {Fl : S_Fld} {v : Int64} {W : S_Walk} {L : S_Lps} {i : Nat} (hi : (Fld_count Fl).toInt = (i : Int) + 1) (h100 : i < 100) (h2 : ¬ Fld_kinds Fl i = 2) (h3 : ¬ Fld_kinds Fl i = 3) : Walk_settle Fl v W L = some (W, L) := by
  have k0 : (0 : Int32).toInt = 0 := by decide
  have k1 : (1 : Int32).toInt = 1 := by decide
  have e : (Fld_count Fl - 1).toInt = (i : Int) := by
    rw [i_sub (a := Fld_count Fl) (b := 1) (by omega) (by omega), hi, k1]
    omega
  have c : ¬ Fld_count Fl - 1 < 0 := by rw [i_lt, e, k0]; clear e; omega
  have g : o_in (Fld_count Fl - 1) 100 = true := i_in.mpr (by rw [e]; clear e; omega)
  have n : (Fld_count Fl - 1).toNatClampNeg = i := by
    have := i_nat (a := Fld_count Fl - 1) (by rw [e]; clear e; omega)
    rw [e] at this
    clear e
    omega
  have ec : Fld_isCountOrBit Fl (Fld_count Fl - 1) = some 0 := by
    unfold Fld_isCountOrBit
    rw [gd_t g, n, if_neg h2, gd_t g, if_neg h3]
  unfold Walk_settle
  rw [if_neg c, bd_s ec, if_pos rfl]
theorem settle_top {Fl : S_Fld} {v : Int64} {W : S_Walk} {L : S_Lps} {i : Nat} (hi : (Fld_count Fl).toInt = (i : Int) + 1) (h100 : i < 100) (h : Fld_kinds Fl i = 2 ∨ Fld_kinds Fl i = 3) : Walk_settle Fl v W L = (if Fld_kinds Fl i = 2 then Walk_settle_j70 Fl v (Fld_count Fl - 1) 1 1 30 W L else Walk_settle_j70 Fl v (Fld_count Fl - 1) 0 0 1 W L) ∧ o_in (Fld_count Fl - 1) 100 = true ∧ (Fld_count Fl - 1).toNatClampNeg = i := by
  have k0 : (0 : Int32).toInt = 0 := by decide
  have k1 : (1 : Int32).toInt = 1 := by decide
  have e : (Fld_count Fl - 1).toInt = (i : Int) := by
    rw [i_sub (a := Fld_count Fl) (b := 1) (by omega) (by omega), hi, k1]
    omega
  have c : ¬ Fld_count Fl - 1 < 0 := by rw [i_lt, e, k0]; clear e; omega
  have g : o_in (Fld_count Fl - 1) 100 = true := i_in.mpr (by rw [e]; clear e; omega)
  have n : (Fld_count Fl - 1).toNatClampNeg = i := by
    have := i_nat (a := Fld_count Fl - 1) (by rw [e]; clear e; omega)
    rw [e] at this
    clear e
    omega
  refine ⟨?_, g, n⟩
  have n10 : ¬ (1 : Int32) = 0 := by decide
  have ec : Fld_isCountOrBit Fl (Fld_count Fl - 1) = some 1 := by
    unfold Fld_isCountOrBit
    rw [gd_t g, n]
    by_cases c2 : Fld_kinds Fl i = 2
    · rw [if_pos c2]
    · have c3 : Fld_kinds Fl i = 3 := by
        rcases h with x | x
        · exact absurd x c2
        · exact x
      rw [if_neg c2, gd_t g, if_pos c3]
  unfold Walk_settle
  rw [if_neg c, bd_s ec, if_neg n10, gd_t g, n]
  by_cases c2 : Fld_kinds Fl i = 2
  · rw [if_pos c2, if_pos c2]
    unfold Walk_settle_j44
    rw [if_neg n10]
    unfold Walk_settle_j56
    rw [if_neg n10]
  · rw [if_neg c2, if_neg c2]
    unfold Walk_settle_j44
    rw [if_pos rfl]
    unfold Walk_settle_j56
    rw [if_pos rfl]
theorem l_nlt {a b : Int64} : ¬ a < b ↔ b ≤ a := by
  rw [Int64.lt_iff_toInt_lt, Int64.le_iff_toInt_le]
  omega
theorem settle_count {Fl : S_Fld} {v : Int64} {W : S_Walk} {L L' : S_Lps} {i : Nat} (hi : (Fld_count Fl).toInt = (i : Int) + 1) (h100 : i < 100) (h2 : Fld_kinds Fl i = 2) (hv : okv 2 v) (hL : Lps_enter (Walk_at W) (Walk_countedEnd W) v.toInt32 L = some L') : Walk_settle Fl v W L = some (Walk_set_countedEnd W (-1), L') := by
  have g := (settle_top (v := v) (W := W) (L := L) hi h100 (Or.inl h2)).1
  have hv := hv.1 rfl
  rw [g, if_pos h2]
  unfold Walk_settle_j70
  rw [if_neg hv.1, if_pos (l_nlt.mp hv.2), if_neg (show ¬ (1 : Int32) = 0 by decide), bd_s hL]
  rfl
theorem settle_bad {Fl : S_Fld} {v : Int64} {W : S_Walk} {L : S_Lps} {i : Nat} (hi : (Fld_count Fl).toInt = (i : Int) + 1) (h100 : i < 100) (h : ¬ okv (Fld_kinds Fl i) v) : ∃ W', Walk_settle Fl v W L = some (W', L) ∧ ¬ Walk_fault W' = 0 := by
  have fa : ∀ x3 : Int32, ∃ W', (o_bd (Walk_fail 6 x3 W) fun q8 => some (q8, L)) = some (W', L) ∧ ¬ Walk_fault W' = 0 := fun x3 => ⟨Walk_set_place (Walk_set_fault W 6) x3, rfl, by show ¬ (6 : Int32) = 0; decide⟩
  by_cases c2 : Fld_kinds Fl i = 2
  · have g := (settle_top (v := v) (W := W) (L := L) hi h100 (Or.inl c2)).1
    rw [if_pos c2] at g
    rw [g]
    unfold Walk_settle_j70
    by_cases c1 : v < 1
    · rw [if_pos c1]
      exact fa _
    · rw [if_neg c1]
      by_cases c3 : v ≤ 30
      · exfalso
        apply h
        rw [c2]
        exact ⟨fun _ => ⟨c1, l_nlt.mpr c3⟩, fun e => absurd e (by decide)⟩
      · rw [if_neg c3]
        exact fa _
  · by_cases c3 : Fld_kinds Fl i = 3
    · have g := (settle_top (v := v) (W := W) (L := L) hi h100 (Or.inr c3)).1
      rw [if_neg c2] at g
      rw [g]
      unfold Walk_settle_j70
      by_cases c1 : v < 0
      · rw [if_pos c1]
        exact fa _
      · rw [if_neg c1]
        by_cases c4 : v ≤ 1
        · exfalso
          apply h
          rw [c3]
          refine ⟨fun e => absurd e (by decide), fun _ => ?_⟩
          rw [Int64.lt_iff_toInt_lt] at c1
          rw [Int64.le_iff_toInt_le] at c4
          have z0 : (0 : Int64).toInt = 0 := by decide
          have z1 : (1 : Int64).toInt = 1 := by decide
          rw [z0] at c1
          rw [z1] at c4
          have cc : v.toInt = 0 ∨ v.toInt = 1 := by omega
          rcases cc with x | x
          · exact Or.inl (Int64.toInt_inj.1 (by rw [x, z0]))
          · exact Or.inr (Int64.toInt_inj.1 (by rw [x, z1]))
        · rw [if_neg c4]
          exact fa _
    · exfalso
      exact h ⟨fun e => absurd e c2, fun e => absurd e c3⟩
theorem settle_bit0 {Fl : S_Fld} {W : S_Walk} {L : S_Lps} {i : Nat} (hi : (Fld_count Fl).toInt = (i : Int) + 1) (h100 : i < 100) (h3 : Fld_kinds Fl i = 3) : Walk_settle Fl 0 W L = some (W, L) := by
  have g := (settle_top (v := 0) (W := W) (L := L) hi h100 (Or.inr h3)).1
  have n2 : ¬ Fld_kinds Fl i = 2 := by rw [h3]; decide
  rw [g, if_neg n2]
  unfold Walk_settle_j70
  rw [if_neg (show ¬ (0 : Int64) < 0 by decide), if_pos (show (0 : Int64) ≤ 1 by decide), if_pos rfl, if_neg (show ¬ (0 : Int64) = 1 by decide)]
theorem settle_bit1 {Fl : S_Fld} {W : S_Walk} {L : S_Lps} {i k : Nat} (hi : (Fld_count Fl).toInt = (i : Int) + 1) (h100 : i < 100) (h3 : Fld_kinds Fl i = 3) (hp : (Walk_pointedCount W).toInt = (k : Int)) (hk : k < 16) : Walk_settle Fl 1 W L = some (Walk_set_pointedCount (Walk_put_pointed W k (Fld_targets Fl i)) (Walk_pointedCount W + 1), L) := by
  obtain ⟨g, g2, g3⟩ := settle_top (v := 1) (W := W) (L := L) hi h100 (Or.inr h3)
  have n2 : ¬ Fld_kinds Fl i = 2 := by rw [h3]; decide
  have k16 : (Int32.ofNat 16).toInt = 16 := by decide
  have c : ¬ Int32.ofNat 16 ≤ Walk_pointedCount W := by rw [i_le, k16, hp]; omega
  have gp : o_in (Walk_pointedCount W) 16 = true := i_in.mpr (by omega)
  have np : (Walk_pointedCount W).toNatClampNeg = k := by
    have := i_nat (a := Walk_pointedCount W) (by omega)
    omega
  rw [g, if_neg n2]
  unfold Walk_settle_j70
  rw [if_neg (show ¬ (1 : Int64) < 0 by decide), if_pos (show (1 : Int64) ≤ 1 by decide), if_pos rfl, if_pos rfl, if_neg c, gd_t g2, gd_t gp, np, g3]
  rfl

-- compiling on both sides: REPEAT
theorem j139_f {fu : Nat} {t : S_Tab} {x3 x5 x6 x7 : Int32} {P : S_Prog} (h : ¬ Prog_fault P = 0) : Prog_lookAtRepeat_j139 fu t x3 x5 x6 x7 P = some P := by
  unfold Prog_lookAtRepeat_j139
  rw [if_neg h]
theorem j290_f {fu : Nat} {th sc wi ls le li ne en be lf tu fo op : Nat → Int32} {x2 x5 x7 : Int32} {s : S_Mo} (g : o_in x2 90 = true) (h : ¬ Mo_fault s = 0) : ∃ r : B9, Mod_look_j290 fu th sc wi ls le x2 x5 x7 s li ne en be lf tu fo op = some r ∧ r.1 = s := by
  unfold Mod_look_j290
  rw [gd_t g]
  show ∃ r : B9, (if Mo_fault s = 0 then _ else _) = some r ∧ _
  rw [if_neg h]
  exact ⟨_, rfl, rfl⟩
theorem c_j139 {fu o : Nat} {t : S_Tab} {P : S_Prog} {s : S_Mo} {u : Int32} {th sc wi ls le li ne en be lf tu fo op : Nat → Int32} {x2 x5 x7 y5 y6 y7 : Int32} (hf : 12000 ≤ fu) (C : CSt u le P s li ne en be tu fo op (o + 1)) (hx : x2.toInt = (o : Int)) (h5 : 1 ≤ x5.toInt) (h5' : x5.toInt ≤ 8) (hy5 : y5.toInt = 8 * (li o).toInt + x7.toInt) (hy6 : y6.toInt = 8 * (li o).toInt + (x7.toInt + x5.toInt)) (hy7 : -1 ≤ y7.toInt) (hy7' : y7.toInt ≤ 999) (hb : (be o).toInt + 1 ≤ x7.toInt) (he : x7.toInt + x5.toInt ≤ (en o).toInt) (hen : (en o).toInt ≤ 24) : ∃ (P' : S_Prog) (r : B9), Prog_lookAtRepeat_j139 fu t x2 y5 y6 y7 P = some P' ∧ Mod_look_j290 fu th sc wi ls le x2 x5 x7 s li ne en be lf tu fo op = some r ∧ LkR u le (o + 1) (Mo_looked s).toInt P' r := by
  have h56 := CS_open C
  have C' := C
  obtain ⟨c1, c2, c3, c4, c5, c6, c7, c8, c9, c10, c11⟩ := C
  have Bo := (c11 o (by omega)).2
  obtain ⟨b1, b2, b3, b4, b5, b6, b7, b8⟩ := Bo
  have g64 : o_in x2 64 = true := i_in.mpr (by omega)
  have g90 : o_in x2 90 = true := i_in.mpr (by omega)
  have n2 : x2.toNatClampNeg = o := by have := i_nat (a := x2) (by omega); omega
  have e75 : (x7 + x5).toInt = x7.toInt + x5.toInt := i_add (a := x7) (b := x5) (by omega) (by omega)
  have ho : (Prog_open P).toInt = ((o + 1 : Nat) : Int) := by rw [c4]; exact c3
  have A := CS_at (v := y6) (w := x7 + x5) C' (by rw [e75]; exact hy6) (by rw [e75]; clear e75; omega) (by rw [e75]; exact he)
  unfold Prog_lookAtRepeat_j139 Mod_look_j290
  rw [if_pos c8, gd_t g64, gd_t g90, n2]
  show ∃ (P' : S_Prog) (r : B9), o_bd (Prog_openList y5 y6 (-1) y7 (Prog_put_openAts P o y6)) (fun q23 => some q23) = some P' ∧ (if Mo_fault s = 0 then o_gd (o_in x2 90) (o_bd (Mod_enter fu op (li o) x7 (x7 + x5) 1 0 s li (upd ne o (x7 + x5)) en be lf tu fo) fun q47 => some ((q47.1, q47.2.1, q47.2.2.1, q47.2.2.2.1, q47.2.2.2.2.1, q47.2.2.2.2.2.1, q47.2.2.2.2.2.2.1, q47.2.2.2.2.2.2.2, op) : B9)) else some ((s, li, upd ne o (x7 + x5), en, be, lf, tu, fo, op) : B9)) = some r ∧ _
  rw [if_pos c9, gd_t g90, bd_s (openList_x (P := Prog_put_openAts P o y6) ho (by clear e75; omega)), bd_s (enter_eq hf c3 (by clear e75; omega))]
  refine ⟨_, _, rfl, rfl, Or.inr ⟨o + 1 + 1, Nat.le_refl _, ?_, Int.le_refl _⟩⟩
  have h0 : 0 ≤ (upd tu (o + 1) 0 (o + 1)).toInt := by rw [upd_at]; decide
  refine CS_enter A hy5 (by rw [e75]; exact hy6) (Or.inr ⟨by decide, rfl⟩) hy7 hy7' ?_
  unfold FrB
  rw [upd_at, upd_at, upd_at, upd_at, cn_ge h0, cn_upd o (by clear e75; omega), e75]
  clear e75 A
  refine ⟨by omega, Int.le_refl _, by omega, by omega, b5, b6, b7, Or.inr ⟨by omega, by omega, ?_⟩⟩
  have : ((o + 1 : Nat) : Int) = (o : Int) + 1 := by omega
  rw [this]
  rcases b8 with ⟨z, _⟩ | ⟨z1, z2, z3⟩
  · have hz : cn tu o = 0 := by rw [z]; rfl
    omega
  · omega
theorem c_rep0 {fu o : Nat} {t : S_Tab} {P : S_Prog} {s : S_Mo} {u : Int32} {th sc wi ls le li ne en be lf tu fo op : Nat → Int32} {d at_ x2 w x : Int32} (hf : 12000 ≤ fu) (C : CSt u le P s li ne en be tu fo op (o + 1)) (hx : x2.toInt = (o : Int)) (hl : Desc_lengthOf d = some x) (h5 : 1 ≤ x.toInt) (h5' : x.toInt ≤ 8) (hat : at_.toInt + 1 = 8 * (li o).toInt + (ne o).toInt) (hb : (be o).toInt + 1 ≤ (ne o).toInt) (hen : (en o).toInt ≤ 24) (hs : 1 ≤ (Prog_size P).toInt) : ∃ (P' : S_Prog) (r : B9), Prog_lookAtRepeat_j12 fu t d at_ x2 0 P = some P' ∧ Mod_look_j137 fu th sc wi ls le x2 w x 0 s li ne en be lf tu fo op = some r ∧ LkR u le (o + 1) (Mo_looked s).toInt P' r := by
  have h56 := CS_open C
  have C' := C
  obtain ⟨c1, c2, c3, c4, c5, c6, c7, c8, c9, c10, c11⟩ := C
  obtain ⟨⟨⟨a1, a2, a3, a4⟩, a5⟩, b1, b2, b3, b4, b5, b6, b7, b8⟩ := c11 o (by omega)
  have k1 : (1 : Int32).toInt = 1 := by decide
  have k0 : (0 : Int32).toInt = 0 := by decide
  have g64 : o_in x2 64 = true := i_in.mpr (by omega)
  have g90 : o_in x2 90 = true := i_in.mpr (by omega)
  have n2 : x2.toNatClampNeg = o := by have := i_nat (a := x2) (by omega); omega
  have e1 : (at_ + 1).toInt = 8 * (li o).toInt + (ne o).toInt := by
    rw [i_add (a := at_) (b := 1) (by omega) (by omega), k1]
    exact hat
  have e2 : (at_ + 1 + x).toInt = 8 * (li o).toInt + ((ne o).toInt + x.toInt) := by
    rw [i_add (a := at_ + 1) (b := x) (by rw [e1]; clear e1; omega) (by rw [e1]; clear e1; omega), e1]
    clear e1
    omega
  have e3 : (ne o + 0).toInt = (ne o).toInt := by
    clear e1 e2
    rw [i_add (a := ne o) (b := 0) (by omega) (by omega), k0]
    omega
  have e4 : (ne o + 0 + x).toInt = (ne o).toInt + x.toInt := by
    clear e1 e2
    rw [i_add (a := ne o + 0) (b := x) (by rw [e3]; clear e3; omega) (by rw [e3]; clear e3; omega), e3]
  have e5 : (Prog_size P - 1).toInt = (Prog_size P).toInt - 1 := by
    clear e1 e2 e3 e4
    rw [i_sub (a := Prog_size P) (b := 1) (by rw [c5]; omega) (by rw [c5]; omega), k1]
  have hsz : (Prog_size P).toInt ≤ 1000 := by rw [c5]; exact c7
  have cond : Prog_openEnds P o < at_ + 1 + x ↔ en o < ne o + 0 + x := by
    rw [i_lt, i_lt, a2, e2, e4]
    clear e1 e2 e3 e4 e5
    omega
  have hX : Prog_lookAtRepeat_j12 fu t d at_ x2 0 P = (if Prog_openEnds P o < at_ + 1 + x then o_bd (Prog_fail 3 P) fun q6 => some q6 else Prog_lookAtRepeat_j139 fu t x2 (at_ + 1) (at_ + 1 + x) (Prog_size P - 1) P) := by
    unfold Prog_lookAtRepeat_j12 Prog_lookAtRepeat_j28 Prog_lookAtRepeat_j78
    rw [if_pos rfl, bd_s hl, gd_t g64, n2]
    by_cases c : Prog_openEnds P o < at_ + 1 + x
    · rw [if_pos c, if_pos c]
    · rw [if_neg c, if_neg c, if_pos rfl, if_pos rfl]
  have hM : Mod_look_j137 fu th sc wi ls le x2 w x 0 s li ne en be lf tu fo op = (if en o < ne o + 0 + x then some ((wr 3 w s, li, ne, en, be, lf, tu, fo, op) : B9) else Mod_look_j290 fu th sc wi ls le x2 x (ne o + 0) s li ne en be lf tu fo op) := by
    unfold Mod_look_j137
    rw [gd_t g90, if_pos rfl, n2]
    unfold Mod_look_j155 Mod_look_j210
    rw [gd_t g90, n2]
    by_cases c : en o < ne o + 0 + x
    · rw [if_pos c, if_pos c, bd_s (wrong_eq _ _ _)]
    · rw [if_neg c, if_neg c, if_pos rfl, if_pos rfl]
  rw [hX, hM]
  by_cases c : en o < ne o + 0 + x
  · obtain ⟨P', e, hP⟩ := fail_x 3 P
    refine ⟨P', (wr 3 w s, li, ne, en, be, lf, tu, fo, op), ?_, ?_, Or.inl ⟨by rw [hP]; decide, wr_ge (by decide)⟩⟩
    · rw [if_pos (cond.mpr c), bd_s e]
    · rw [if_pos c]
  · rw [if_neg (fun h => c (cond.mp h)), if_neg c]
    rw [i_lt, e4] at c
    exact c_j139 hf C' hx h5 h5' (by rw [e1, e3]) (by rw [e2, e3]) (by rw [e5]; clear e1 e2 e3 e4 e5; omega) (by rw [e5]; clear e1 e2 e3 e4 e5; omega) (by rw [e3]; exact hb) (by rw [e3]; clear e1 e2 e3 e4 e5; omega) hen
theorem c_rep1 {fu o : Nat} {t : S_Tab} {P : S_Prog} {s : S_Mo} {u : Int32} {th sc rf wi ls le li ne en be lf tu fo op : Nat → Int32} {d at_ x2 w x : Int32} (hf : 12000 ≤ fu) (I : I_Tab t) (T : TbR t u th sc rf wi ls le) (C : CSt u le P s li ne en be tu fo op (o + 1)) (hx : x2.toInt = (o : Int)) (hl : Desc_lengthOf d = some x) (h5 : 1 ≤ x.toInt) (h5' : x.toInt ≤ 8) (hat : at_.toInt + 1 = 8 * (li o).toInt + (ne o).toInt) (hb : (be o).toInt + 1 ≤ (ne o).toInt) (hen : (en o).toInt ≤ 24) (hs : 1 ≤ (Prog_size P).toInt) : ∃ (P' : S_Prog) (r : B9), Prog_lookAtRepeat_j12 fu t d at_ x2 1 P = some P' ∧ Mod_look_j137 fu th sc wi ls le x2 w x 1 s li ne en be lf tu fo op = some r ∧ LkR u le (o + 1) (Mo_looked s).toInt P' r := by
  have h56 := CS_open C
  have C' := C
  obtain ⟨c1, c2, c3, c4, c5, c6, c7, c8, c9, c10, c11⟩ := C
  obtain ⟨⟨⟨a1, a2, a3, a4⟩, a5⟩, b1, b2, b3, b4, b5, b6, b7, b8⟩ := c11 o (by omega)
  have k1 : (1 : Int32).toInt = 1 := by decide
  have k2 : (2 : Int32).toInt = 2 := by decide
  have k63 : (63 : Int32).toInt = 63 := by decide
  have km : ((-1) : Int32).toInt = -1 := by decide
  have g64 : o_in x2 64 = true := i_in.mpr (by omega)
  have g90 : o_in x2 90 = true := i_in.mpr (by omega)
  have n2 : x2.toNatClampNeg = o := by have := i_nat (a := x2) (by omega); omega
  have e1 : (at_ + 1).toInt = 8 * (li o).toInt + (ne o).toInt := by
    rw [i_add (a := at_) (b := 1) (by omega) (by omega), k1]
    exact hat
  have en1 : (at_ + 1).toNatClampNeg = 8 * (li o).toNatClampNeg + (ne o).toNatClampNeg := by
    have q1 := i_nat (a := at_ + 1) (by rw [e1]; clear e1; omega)
    have q2 := i_nat b5
    have q3 := i_nat (a := ne o) (by clear e1; omega)
    rw [e1] at q1
    clear e1
    omega
  have e12 : (at_ + 2).toInt = 8 * (li o).toInt + ((ne o).toInt + 1) := by
    clear e1
    rw [i_add (a := at_) (b := 2) (by omega) (by omega), k2]
    omega
  have e2 : (at_ + 2 + x).toInt = 8 * (li o).toInt + ((ne o).toInt + 1 + x.toInt) := by
    rw [i_add (a := at_ + 2) (b := x) (by rw [e12]; clear e1 e12; omega) (by rw [e12]; clear e1 e12; omega), e12]
    clear e1 e12
    omega
  have e3 : (ne o + 1).toInt = (ne o).toInt + 1 := by
    clear e1 e2 e12
    rw [i_add (a := ne o) (b := 1) (by omega) (by omega), k1]
  have e4 : (ne o + 1 + x).toInt = (ne o).toInt + 1 + x.toInt := by
    clear e1 e2 e12
    rw [i_add (a := ne o + 1) (b := x) (by rw [e3]; clear e3; omega) (by rw [e3]; clear e3; omega), e3]
  have e5 : (Prog_size P - 1).toInt = (Prog_size P).toInt - 1 := by
    clear e1 e2 e3 e4 e12
    rw [i_sub (a := Prog_size P) (b := 1) (by rw [c5]; omega) (by rw [c5]; omega), k1]
  have hsz : (Prog_size P).toInt ≤ 1000 := by rw [c5]; exact c7
  have n10 : ¬ (1 : Int32) = 0 := by decide
  have cond : Prog_openEnds P o < at_ + 2 + x ↔ en o < ne o + 1 + x := by
    rw [i_lt, i_lt, a2, e2, e4]
    clear e1 e2 e3 e4 e5 e12
    omega
  by_cases c : en o < ne o + 1 + x
  · obtain ⟨P', e, hP⟩ := fail_x 3 P
    refine ⟨P', (wr 3 w s, li, ne, en, be, lf, tu, fo, op), ?_, ?_, Or.inl ⟨by rw [hP]; decide, wr_ge (by decide)⟩⟩
    · unfold Prog_lookAtRepeat_j12 Prog_lookAtRepeat_j28
      rw [if_neg n10, bd_s hl, gd_t g64, n2, if_pos (cond.mpr c), bd_s e]
    · unfold Mod_look_j137
      rw [gd_t g90, if_neg n10, n2]
      unfold Mod_look_j155
      rw [gd_t g90, n2, if_pos c, bd_s (wrong_eq _ _ _)]
  · have c0 := c
    have nc : ¬ Prog_openEnds P o < at_ + 2 + x := fun h => c (cond.mp h)
    rw [i_lt, e4] at c
    have g152 : o_in (at_ + 1) 152 = true := i_in.mpr (by rw [e1]; clear e1 e2 e3 e4 e5 e12; omega)
    have eix : (24 * li o + ne o).toNatClampNeg = 24 * (li o).toNatClampNeg + (ne o).toNatClampNeg ∧ o_in (24 * li o + ne o) 408 = true := by
      clear e1 e2 e3 e4 e5 e12
      have m1 := i_mull 24 (li o) 24 (by decide) (by omega) (by omega)
      have m2 : (24 * li o + ne o).toInt = 24 * (li o).toInt + (ne o).toInt := by
        rw [i_add (a := 24 * li o) (b := ne o) (by rw [m1]; clear m1; omega) (by rw [m1]; clear m1; omega), m1]
      have q1 := i_nat (a := 24 * li o + ne o) (by rw [m2]; clear m1 m2; omega)
      have q2 := i_nat b5
      have q3 := i_nat (a := ne o) (by clear m1 m2 q1; omega)
      rw [m2] at q1
      exact ⟨by clear m1 m2; omega, i_in.mpr (by rw [m2]; clear m1 m2 q1; omega)⟩
    obtain ⟨T1, T2, T3, T4, T5⟩ := T
    obtain ⟨dl, dk⟩ := T5 (li o).toNatClampNeg (ne o).toNatClampNeg (by have := i_nat b5; clear e1 e2 e3 e4 e5 e12; omega) (by have := i_nat (a := ne o) (by clear e1 e2 e3 e4 e5 e12; omega); clear e1 e2 e3 e4 e5 e12; omega)
    obtain ⟨D, hD⟩ : ∃ D, D = ls (24 * (li o).toNatClampNeg + (ne o).toNatClampNeg) := ⟨_, rfl⟩
    rw [← hD] at dk dl
    rw [← en1] at dl
    obtain ⟨q8, e8, h8⟩ := t_Desc_isElement (a0 := D)
    have hX0 : Prog_lookAtRepeat_j12 fu t d at_ x2 1 P = (if q8 = 0 then o_bd (Prog_fail 3 P) fun q9 => some q9 else Prog_lookAtRepeat_j78 fu t at_ x2 1 (at_ + 2) (at_ + 2 + x) P) := by
      unfold Prog_lookAtRepeat_j12 Prog_lookAtRepeat_j28
      rw [if_neg n10, bd_s hl, gd_t g64, n2, if_neg nc, if_neg n10, gd_t g152, dl, bd_s e8]
    have hM0 : Mod_look_j137 fu th sc wi ls le x2 w x 1 s li ne en be lf tu fo op = (if D ≤ 63 then Mod_look_j210 fu th sc wi ls le x2 w x 1 (ne o + 1) s li ne en be lf tu fo op else some ((wr 3 w s, li, ne, en, be, lf, tu, fo, op) : B9)) := by
      unfold Mod_look_j137
      rw [gd_t g90, if_neg n10, n2]
      unfold Mod_look_j155
      rw [gd_t g90, n2, if_neg c0, if_neg n10, gd_t g90, gd_t g90, eix.1, gd_t eix.2, ← hD, bd_s (wrong_eq _ _ _)]
    rw [hX0, hM0]
    by_cases c3' : D ≤ 63
    · have hD0 : 0 ≤ D.toInt ∧ D.toInt < 64 := by
        rw [i_le, k63] at c3'
        unfold KDi at dk
        clear e1 e2 e3 e4 e5 e12
        omega
      have n8 : ¬ q8 = 0 := fun e => by
        rw [e] at h8
        have k0 : (0 : Int32).toInt = 0 := by decide
        clear e1 e2 e3 e4 e5 e12
        omega
      rw [if_neg n8, if_pos c3']
      obtain ⟨tc, htc⟩ : ∃ tc, tc = (if li o = 16 then ne o else w) := ⟨_, rfl⟩
      have hX : ∀ (k : Int32) (Q : S_Prog), Prog_takeUp (at_ + 1) D P = some (k, Q) → Prog_lookAtRepeat_j78 fu t at_ x2 1 (at_ + 2) (at_ + 2 + x) P = (if k = 0 then Prog_lookAtRepeat_j139 fu t x2 (at_ + 2) (at_ + 2 + x) (Prog_size P - 1) Q else o_bd (Tab_inForce fu t D) fun q16 => if q16 = (-1) then o_bd (Prog_fail 1 Q) fun q17 => Prog_lookAtRepeat_j139 fu t x2 (at_ + 2) (at_ + 2 + x) (Prog_size P - 1) q17 else Prog_lookAtRepeat_j139 fu t x2 (at_ + 2) (at_ + 2 + x) (Prog_size P - 1) Q) := by
        intro k Q e14
        unfold Prog_lookAtRepeat_j78
        rw [if_neg n10, gd_t g152, dl, bd_s e14]
        show (if k = 0 then _ else o_gd (o_in (at_ + 1) 152) _) = _
        rw [gd_t g152]
      have hM : ∀ (k : Int32) (s' : S_Mo), Mod_count tc s = some (k, s') → Mod_look_j210 fu th sc wi ls le x2 w x 1 (ne o + 1) s li ne en be lf tu fo op = (if k = 0 then Mod_look_j290 fu th sc wi ls le x2 x (ne o + 1) s' li ne en be lf tu fo op else o_bd (Mod_lookElement fu th sc wi op D tc 0 s') fun q43 => Mod_look_j290 fu th sc wi ls le x2 x (ne o + 1) q43 li ne en be lf tu fo op) := by
        intro k s' e35
        unfold Mod_look_j210
        rw [if_neg n10, gd_t g90, n2]
        by_cases cl : li o = 16
        · rw [if_pos cl] at htc
          rw [if_pos cl, gd_t g90]
          unfold Mod_look_j237 Mod_look_j286
          rw [← htc, bd_s e35, n2]
          show (if k = 0 then _ else o_gd (o_in x2 90) (o_gd (o_in x2 90) (o_gd (o_in (24 * li o + ne o) 408) (o_gd (o_in x2 90) (if li o = 16 then o_gd (o_in x2 90) (o_bd (Mod_lookElement fu th sc wi op (ls (24 * li o + ne o).toNatClampNeg) (ne o) 0 s') _) else _))))) = _
          rw [gd_t g90, gd_t g90, gd_t eix.2, gd_t g90, if_pos cl, gd_t g90, eix.1, ← hD, ← htc]
        · rw [if_neg cl] at htc
          rw [if_neg cl]
          unfold Mod_look_j237 Mod_look_j286
          rw [← htc, bd_s e35, n2]
          show (if k = 0 then _ else o_gd (o_in x2 90) (o_gd (o_in x2 90) (o_gd (o_in (24 * li o + ne o) 408) (o_gd (o_in x2 90) (if li o = 16 then _ else o_bd (Mod_lookElement fu th sc wi op (ls (24 * li o + ne o).toNatClampNeg) tc 0 s') _))))) = _
          rw [gd_t g90, gd_t g90, gd_t eix.2, gd_t g90, if_neg cl, eix.1, ← hD]
      by_cases cf : (Mo_looked s).toInt = 1000
      · obtain ⟨P1, f1, f2⟩ := takeUp_f (a0 := at_ + 1) (d := D) (P := P) (by rw [c5, cf]; exact Int.le_refl _)
        obtain ⟨s1, m1, m2, m3⟩ := count_f (w := tc) cf
        obtain ⟨r, er, hr⟩ := j290_f (fu := fu) (th := th) (sc := sc) (wi := wi) (ls := ls) (le := le) (li := li) (ne := ne) (en := en) (be := be) (lf := lf) (tu := tu) (fo := fo) (op := op) (x5 := x) (x7 := ne o + 1) g90 m2
        refine ⟨P1, r, ?_, ?_, Or.inl ⟨f2, by rw [hr]; exact m2⟩⟩
        · rw [hX _ _ f1, if_pos rfl]
          exact j139_f f2
        · rw [hM _ _ m1, if_pos rfl]
          exact er
      · have hlk : (Mo_looked s).toInt < 1000 := by clear e1 e2 e3 e4 e5 e12; omega
        obtain ⟨P1, f1, f2, f3⟩ := takeUp_x (a0 := at_ + 1) (d := D) (P := P) (by rw [c5]; exact c6) (by rw [c5]; exact hlk)
        have m1 := count_x (w := tc) c6 hlk
        obtain ⟨C1, lk1⟩ := CS_size C' f2 f3 hlk
        rw [hX _ _ f1, hM _ _ m1, if_neg n10, if_neg n10]
        have U1 : Tab_versionInUse t = Mo_used (Mo_set_looked s (Mo_looked s + 1)) := T3.trans C1.2.1.symm
        obtain ⟨r, ex, em, r0, r1, _, rt⟩ := c_force (fu := fu) hf I C1.1 T1 U1 hD0.1 hD0.2
        rw [bd_s ex]
        by_cases cr : r = (-1)
        · obtain ⟨P2, fe, fP⟩ := fail_x 1 P1
          have le0 : Mod_lookElement fu th sc wi op D tc 0 (Mo_set_looked s (Mo_looked s + 1)) = some (wr 1 tc (Mo_set_looked s (Mo_looked s + 1))) := by
            unfold Mod_lookElement
            rw [bd_s em, if_neg (by rw [cr]; decide), bd_s (wrong_eq _ _ _)]
          have wf : ¬ Mo_fault (wr 1 tc (Mo_set_looked s (Mo_looked s + 1))) = 0 := wr_ge (by decide)
          obtain ⟨r', er, hr⟩ := j290_f (fu := fu) (th := th) (sc := sc) (wi := wi) (ls := ls) (le := le) (li := li) (ne := ne) (en := en) (be := be) (lf := lf) (tu := tu) (fo := fo) (op := op) (x5 := x) (x7 := ne o + 1) g90 wf
          have f2' : ¬ Prog_fault P2 = 0 := by rw [fP]; decide
          refine ⟨P2, r', ?_, ?_, Or.inl ⟨f2', by rw [hr]; exact wf⟩⟩
          · rw [if_pos cr]
            show o_bd (Prog_fail 1 P1) _ = _
            rw [bd_s fe]
            exact j139_f f2'
          · show o_bd (Mod_lookElement fu th sc wi op D tc 0 (Mo_set_looked s (Mo_looked s + 1))) _ = _
            rw [bd_s le0]
            exact er
        · have rp : (0 : Int32) ≤ r := by
            rw [i_eq, km] at cr
            have k0 : (0 : Int32).toInt = 0 := by decide
            rw [i_le]
            clear e1 e2 e3 e4 e5 e12
            omega
          have le1 : Mod_lookElement fu th sc wi op D tc 0 (Mo_set_looked s (Mo_looked s + 1)) = some (Mo_set_looked s (Mo_looked s + 1)) := by
            unfold Mod_lookElement
            rw [bd_s em, if_pos rp, if_pos rfl]
          obtain ⟨P', r', q1, q2, q3⟩ := c_j139 (t := t) (th := th) (sc := sc) (wi := wi) (ls := ls) (lf := lf) (x7 := ne o + 1) (y5 := at_ + 2) (y6 := at_ + 2 + x) (y7 := Prog_size P - 1) hf C1 hx h5 h5' (by rw [e12, e3]) (by rw [e2, e3]) (by rw [e5]; clear e1 e2 e3 e4 e5 e12; omega) (by rw [e5]; clear e1 e2 e3 e4 e5 e12; omega) (by rw [e3]; clear e1 e2 e3 e4 e5 e12; omega) (by rw [e3]; clear e1 e2 e3 e4 e5 e12; omega) hen
          refine ⟨P', r', ?_, ?_, ?_⟩
          · rw [if_neg cr]
            exact q1
          · show o_bd (Mod_lookElement fu th sc wi op D tc 0 (Mo_set_looked s (Mo_looked s + 1))) _ = _
            rw [bd_s le1]
            exact q2
          · rcases q3 with q3 | ⟨o', z1, z2, z3⟩
            · exact Or.inl q3
            · refine Or.inr ⟨o', z1, z2, Int.le_trans ?_ z3⟩
              show (Mo_looked s).toInt ≤ (Mo_looked s + 1).toInt
              rw [lk1]
              clear e1 e2 e3 e4 e5 e12 lk1
              omega
    · have z8 : q8 = 0 := by
        rw [i_le, k63] at c3'
        have k0 : (0 : Int32).toInt = 0 := by decide
        refine i_eq.mpr ?_
        clear e1 e2 e3 e4 e5 e12
        omega
      obtain ⟨P', e, hP⟩ := fail_x 3 P
      refine ⟨P', (wr 3 w s, li, ne, en, be, lf, tu, fo, op), ?_, ?_, Or.inl ⟨by rw [hP]; decide, wr_ge (by decide)⟩⟩
      · rw [if_pos z8, bd_s e]
      · rw [if_neg c3']

-- compiling on both sides: looking at a descriptor
def LkR (u : Int32) (le : Nat → Int32) (o : Nat) (lk : Int) (P' : S_Prog) (r : B9) : Prop := (¬ Prog_fault P' = 0 ∧ ¬ Mo_fault r.1 = 0) ∨ (∃ o', o' ≤ o + 1 ∧ CSt u le P' r.1 r.2.1 r.2.2.1 r.2.2.2.1 r.2.2.2.2.1 r.2.2.2.2.2.2.1 r.2.2.2.2.2.2.2.1 r.2.2.2.2.2.2.2.2 o' ∧ lk ≤ (Mo_looked r.1).toInt)
theorem c_el {fu : Nat} {t : S_Tab} {P : S_Prog} {s : S_Mo} {th sc rf wi ls le op : Nat → Int32} {d w : Int32} (hf : 12000 ≤ fu) (I : I_Tab t) (Im : I_Mo s) (T : TbR t (Mo_used s) th sc rf wi ls le) (S : ∀ k, k < 4 → om k (Prog_settings P k) (op k)) (hs : Mo_fault s = 0) (h0 : 0 ≤ d.toInt) (h1 : d.toInt < 64) : ∃ (P' : S_Prog) (s' : S_Mo), Prog_lookAtElement fu t d P = some P' ∧ Mod_lookElement fu th sc wi op d w 1 s = some s' ∧ ((P' = P ∧ s' = s) ∨ (¬ Prog_fault P' = 0 ∧ ¬ Mo_fault s' = 0)) := by
  obtain ⟨T1, T2, T3, T4, T5⟩ := T
  obtain ⟨r, ex, em, r0, r1, _, rt⟩ := c_force (fu := fu) hf I Im T1 T3 h0 h1
  have km : ((-1) : Int32).toInt = -1 := by decide
  have k0 : (0 : Int32).toInt = 0 := by decide
  unfold Prog_lookAtElement Mod_lookElement
  rw [bd_s ex, bd_s em]
  by_cases c : r = (-1)
  · obtain ⟨P', e, hP⟩ := fail_x 1 P
    refine ⟨P', wr 1 w s, ?_, ?_, Or.inr ⟨by rw [hP]; decide, wr_ge (by decide)⟩⟩
    · rw [if_pos c, bd_s e]
    · rw [if_neg (by rw [c]; decide), bd_s (wrong_eq _ _ _)]
  · have rp : 0 ≤ r.toInt := by
      rw [i_eq, km] at c
      omega
    have gr : o_in r 320 = true := i_in.mpr (by omega)
    obtain ⟨w1, w2, w3⟩ := T2 r.toNatClampNeg (rt rp)
    obtain ⟨q4, f4, v4⟩ := x_addedWidth (S 0 (by decide))
    obtain ⟨q8, f8, v8⟩ := x_addedScale (S 1 (by decide))
    obtain ⟨p4, g4, z4⟩ := t_Mod_added (s := s) (op := op) (a0 := 0) (by decide) (by decide)
    obtain ⟨p8, g8, z8⟩ := t_Mod_added (s := s) (op := op) (a0 := 1) (by decide) (by decide)
    have n0 : (0 : Int32).toNatClampNeg = 0 := by decide
    have n1 : (1 : Int32).toNatClampNeg = 1 := by decide
    rw [n0] at z4
    rw [n1] at z8
    have e4 : p4 = q4 := i_eq.mpr (by rw [v4, z4])
    have e8 : p8 = q8 := i_eq.mpr (by rw [v8, z8])
    rw [e4] at g4
    rw [e8] at g8
    obtain ⟨qa, ea, ha⟩ := t_Tab_isWidth (a0 := wi r.toNatClampNeg + q4)
    obtain ⟨qb, eb, hb⟩ := t_Mod_isIn (a0 := wi r.toNatClampNeg + q4) (a1 := 1) (a2 := 32)
    obtain ⟨qc, ec, hc⟩ := t_Tab_isScale (a0 := sc r.toNatClampNeg + q8)
    obtain ⟨qd, ed, hd⟩ := t_Mod_isIn (a0 := sc r.toNatClampNeg + q8) (a1 := (-8)) (a2 := 8)
    have k1 : (1 : Int32).toInt = 1 := by decide
    have k32 : (32 : Int32).toInt = 32 := by decide
    have k8 : (8 : Int32).toInt = 8 := by decide
    have km8 : ((-8) : Int32).toInt = -8 := by decide
    rw [if_neg c, gd_t gr, gd_t (by decide), n0, bd_s f4, w1]
    show ∃ (P' : S_Prog) (s' : S_Mo), o_gd (o_in r 320) (o_gd (o_in 1 4) (o_bd (Desc_addedScale (Prog_settings P (1 : Int32).toNatClampNeg)) _)) = some P' ∧ _ ∧ _
    rw [gd_t gr, gd_t (by decide), n1, bd_s f8, w2]
    show ∃ (P' : S_Prog) (s' : S_Mo), o_bd (Tab_isWidth (wi r.toNatClampNeg + q4)) _ = some P' ∧ _ ∧ _
    have rp' : (0 : Int32) ≤ r := by rw [i_le]; omega
    rw [bd_s ea, if_pos rp', if_neg (show ¬ (1 : Int32) = 0 by decide), gd_t gr, bd_s g4, bd_s eb]
    by_cases ca : qa = 0
    · have cb : qb = 0 := i_eq.mpr (by rw [i_eq] at ca; omega)
      obtain ⟨P', e, hP⟩ := fail_x 5 P
      refine ⟨P', wr 5 w s, ?_, ?_, Or.inr ⟨by rw [hP]; decide, wr_ge (by decide)⟩⟩
      · rw [if_pos ca, bd_s e]
      · rw [if_pos cb, bd_s (wrong_eq _ _ _)]
    · have cb : ¬ qb = 0 := fun e => ca (i_eq.mpr (by rw [i_eq] at e; omega))
      rw [if_neg ca, if_neg cb, bd_s ec, gd_t gr, bd_s g8, bd_s ed]
      by_cases cc : qc = 0
      · have cd : qd = 0 := i_eq.mpr (by rw [i_eq] at cc; omega)
        obtain ⟨P', e, hP⟩ := fail_x 5 P
        refine ⟨P', wr 5 w s, ?_, ?_, Or.inr ⟨by rw [hP]; decide, wr_ge (by decide)⟩⟩
        · rw [if_pos cc, bd_s e]
        · rw [if_pos cd, bd_s (wrong_eq _ _ _)]
      · have cd : ¬ qd = 0 := fun e => cc (i_eq.mpr (by rw [i_eq] at e; omega))
        exact ⟨P, s, by rw [if_neg cc], by rw [if_neg cd], Or.inl ⟨rfl, rfl⟩⟩
theorem c_seq {fu o : Nat} {t : S_Tab} {P : S_Prog} {s : S_Mo} {u : Int32} {th sc rf wi ls le li ne en be lf tu fo op : Nat → Int32} {a w : Int32} (hf : 12000 ≤ fu) (I : I_Tab t) (Ile : A_Mlengths le) (T : TbR t u th sc rf wi ls le) (C : CSt u le P s li ne en be tu fo op (o + 1)) (h0 : 0 ≤ a.toInt) (h1 : a.toInt < 16) : ∃ (P' : S_Prog) (r : B9), Prog_lookAtSequence fu t a P = some P' ∧ (o_gd (o_in a 17) (if le a.toNatClampNeg = 0 then o_bd (Mod_wrong 1 w s) fun q15 => some ((q15, li, ne, en, be, lf, tu, fo, op) : B9) else o_bd (Mod_sequences fu s li tu a) fun q10 => if q10 < 6 then o_gd (o_in a 17) (o_bd (Mod_enter fu op a 0 (le a.toNatClampNeg) 1 (-1) s li ne en be lf tu fo) fun q12 => some ((q12.1, q12.2.1, q12.2.2.1, q12.2.2.2.1, q12.2.2.2.2.1, q12.2.2.2.2.2.1, q12.2.2.2.2.2.2.1, q12.2.2.2.2.2.2.2, op) : B9)) else o_bd (Mod_wrong 2 w s) fun q13 => some ((q13, li, ne, en, be, lf, tu, fo, op) : B9))) = some r ∧ LkR u le (o + 1) (Mo_looked s).toInt P' r := by
  have h56 := CS_open C
  have C' := C
  obtain ⟨c1, c2, c3, c4, c5, c6, c7, c8, c9, c10, c11⟩ := C
  obtain ⟨T1, T2, T3, T4, T5⟩ := T
  have g17 : o_in a 17 = true := i_in.mpr (by omega)
  have k0 : (0 : Int32).toInt = 0 := by decide
  have k6 : (6 : Int32).toInt = 6 := by decide
  have na := i_nat h0
  unfold Prog_lookAtSequence
  rw [gd_t g17, gd_t g17, T4]
  by_cases cz : le a.toNatClampNeg = 0
  · obtain ⟨P', e, hP⟩ := fail_x 1 P
    refine ⟨P', (wr 1 w s, li, ne, en, be, lf, tu, fo, op), ?_, ?_, Or.inl ⟨by rw [hP]; decide, wr_ge (by decide)⟩⟩
    · rw [if_pos cz, bd_s e]
    · rw [if_pos cz, bd_s (wrong_eq _ _ _)]
  · rw [if_neg cz, if_neg cz]
    have ho : (Prog_open P).toInt = (o : Int) + 1 := by rw [c4, c3]; omega
    have n00 : (0 : Int32).toInt = ((0 : Nat) : Int) := by decide
    obtain ⟨q2, e2, d2⟩ := x_deep_L (fu := fu) (a := a) (li := li) (tu := tu) ho (by omega) h0 (fun f hf => (c11 f (by omega)).1.1.2.2.1) (o + 1) fu 0 0 0 n00 (by omega) (by omega) n00 (fun f f1 f2 => absurd f1 (by omega))
    have e2 : Prog_isTooDeep fu P a = some q2 := by
      unfold Prog_isTooDeep
      exact e2
    obtain ⟨q10, e10, d10⟩ := m_seq_L (fu := fu) (o := o) (li := li) (tu := tu) (s := s) (a := a) (by rw [c3]; omega) (by omega) o fu 0 0 1 (by decide) (by omega) (by omega) n00 (fun f f1 f2 => absurd f1 (by omega))
    have e10 : Mod_sequences fu s li tu a = some q10 := by
      unfold Mod_sequences
      exact e10
    rw [bd_s e2, bd_s e10]
    have hcn := (c11 o (by omega)).2.2.2.2.2.2.2.1
    by_cases c2' : q2 = 0
    · have dd : ¬ Hit o a li tu ∧ cn tu o < 6 := by
        rcases d2 with ⟨x, _⟩ | ⟨_, y⟩
        · exact absurd (x.symm.trans c2') (by decide)
        · exact y
      have q6 : q10 < 6 := by
        rcases d10 with ⟨_, y⟩ | ⟨x, _⟩
        · exact absurd y dd.1
        · rw [i_lt]
          omega
      have hl := A_Mlengths_at Ile a.toNatClampNeg
      have hl8 := hl.2.2 (by omega)
      have hz : (le a.toNatClampNeg).toInt ≠ 0 := fun e => cz (i_eq.mpr (by omega))
      obtain ⟨q3, e3, d3⟩ := t_Tab_startOf (a0 := a) h0 (by omega)
      obtain ⟨q4, e4, d4⟩ := t_Tab_endOf (sTab := t) (a0 := a) I h0 (by omega)
      rw [T4] at d4
      have hopen : (Mo_open s).toInt = ((o + 1 : Nat) : Int) := c3
      rw [if_pos c2', if_pos q6, gd_t g17, bd_s e3, bd_s e4, bd_s (openList_x (by rw [ho]; omega : (Prog_open P).toInt = ((o + 1 : Nat) : Int)) (by omega)), bd_s (enter_eq hf hopen (by omega))]
      refine ⟨_, _, rfl, rfl, Or.inr ⟨o + 1 + 1, Nat.le_refl _, ?_, Int.le_refl _⟩⟩
      have km : ((-1) : Int32).toInt = -1 := by decide
      have Bo := (c11 o (by omega)).2
      have hlt : (upd tu (o + 1) (-1) (o + 1)).toInt < 0 := by rw [upd_at]; decide
      refine CS_enter C' (by rw [d3, k0]; omega) (by omega) (Or.inl ⟨by decide, rfl, h0, h1⟩) (by decide) (by decide) ?_
      unfold FrB
      rw [upd_at, upd_at, upd_at, upd_at, cn_lt hlt, cn_upd o (by omega)]
      obtain ⟨b1, b2, b3, b4, b5, b6, b7, b8⟩ := Bo
      refine ⟨by omega, Int.le_refl _, by omega, Int.le_refl _, h0, by omega, by omega, Or.inr ⟨by omega, by omega, ?_⟩⟩
      have : ((o + 1 : Nat) : Int) = (o : Int) + 1 := by omega
      rw [this]
      have : ((cn tu o + 1 : Nat) : Int) = (cn tu o : Int) + 1 := by omega
      rw [this]
      omega
    · have dd : Hit o a li tu ∨ 6 ≤ cn tu o := by
        rcases d2 with ⟨_, y⟩ | ⟨x, _⟩
        · exact y
        · exact absurd x c2'
      have q6 : ¬ q10 < 6 := by
        rw [i_lt]
        rcases d10 with ⟨x, _⟩ | ⟨x, y⟩
        · omega
        · rcases dd with dd | dd
          · exact absurd dd y
          · omega
      obtain ⟨P', e, hP⟩ := fail_x 2 P
      refine ⟨P', (wr 2 w s, li, ne, en, be, lf, tu, fo, op), ?_, ?_, Or.inl ⟨by rw [hP]; decide, wr_ge (by decide)⟩⟩
      · rw [if_neg c2', bd_s e]
      · rw [if_neg q6, bd_s (wrong_eq _ _ _)]

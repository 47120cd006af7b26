-- the class's walk: one turn of advance
def NW (W : S_Walk) : S_Walk := Walk_set_at (Walk_set_come W (Walk_come W + 1)) (Walk_at W + 1)
def CN (fu : Nat) (P : S_Prog) (d : Int32) (Fl : S_Fld) (W : S_Walk) (L : S_Lps) : Option (S_Walk × S_Lps) := o_bd (Desc_operatorOf fu d) fun q5 => (o_bd (Desc_isElement d) fun q6 => (if q6 = 0 then o_bd (Desc_isRepeat d) fun q7 => (if q7 = 0 then if q5 = ((-1)) then o_bd (Desc_bitsOf d) fun q8 => (if q8 = ((-1)) then o_bd (Desc_isMark d) fun q9 => (if q9 = 0 then some ((W, L)) else some ((Walk_set_dueKind W 4, L))) else o_bd (Desc_bitsOf d) fun q12 => (o_bd (Walk_comeToBits Fl q12 W) fun q13 => (some ((q13, L))))) else o_bd (Desc_settingOf d q5) fun q15 => (o_gd (o_in q5 4) (some ((Walk_put_settings W q5.toNatClampNeg q15, L)))) else o_bd (Desc_timesOf d) fun q19 => (o_gd (o_in (Walk_at W - 1) 1000) (o_bd (Walk_comeToRepeat q19 (Prog_bodyEnds P (Walk_at W - 1).toNatClampNeg) W L) fun q21 => (some ((q21.1, q21.2)))))) else o_bd (Walk_comeToElement d W) fun q23 => (some ((q23, L)))))
theorem cn_eq {fu : Nat} {P : S_Prog} {Fl : S_Fld} {W : S_Walk} {L : S_Lps} (ha : o_in (Walk_at W) 1000 = true) (hc : Walk_come W + 1 ≤ 2000) : Walk_comeToNext fu P Fl W L = CN fu P (Prog_descriptors P (Walk_at W).toNatClampNeg) Fl (NW W) L := by
  unfold Walk_comeToNext
  show (if Walk_come W + 1 ≤ 2000 then o_gd (o_in (Walk_at W) 1000) (CN fu P (Prog_descriptors P (Walk_at W).toNatClampNeg) Fl (NW W) L) else _) = _
  rw [if_pos hc, gd_t ha]
theorem cn_f {fu : Nat} {P : S_Prog} {Fl : S_Fld} {W : S_Walk} {L : S_Lps} (hc : ¬ Walk_come W + 1 ≤ 2000) : ∃ W', Walk_comeToNext fu P Fl W L = some (W', L) ∧ ¬ Walk_fault W' = 0 := by
  refine ⟨Walk_set_place (Walk_set_fault (Walk_set_come W (Walk_come W + 1)) 8) (Fld_count Fl), ?_, by show ¬ (8 : Int32) = 0; decide⟩
  unfold Walk_comeToNext
  show (if Walk_come W + 1 ≤ 2000 then _ else some (Walk_set_place (Walk_set_fault (Walk_set_come W (Walk_come W + 1)) 8) (Fld_count Fl), L)) = _
  rw [if_neg hc]
theorem CN_el {fu : Nat} {P : S_Prog} {d : Int32} {Fl : S_Fld} {W : S_Walk} {L : S_Lps} (hf : 12000 ≤ fu) (h0 : 0 ≤ d.toInt) (h1 : d.toInt ≤ 63) : CN fu P d Fl W L = o_bd (Walk_comeToElement d W) fun q23 => some (q23, L) := by
  obtain ⟨q5, e5, h5⟩ := t_Desc_operatorOf (fu := fu) (a0 := d) hf
  obtain ⟨q6, e6, h6⟩ := t_Desc_isElement (a0 := d)
  have k0 : (0 : Int32).toInt = 0 := by decide
  have n6 : ¬ q6 = 0 := by rw [i_eq]; omega
  unfold CN
  rw [bd_s e5, bd_s e6, if_neg n6]
theorem CN_seq {fu : Nat} {P : S_Prog} {d : Int32} {Fl : S_Fld} {W : S_Walk} {L : S_Lps} (hf : 12000 ≤ fu) (h0 : 100 ≤ d.toInt) (h1 : d.toInt ≤ 115) : CN fu P d Fl W L = some (W, L) := by
  obtain ⟨q5, e5, h5⟩ := t_Desc_operatorOf (fu := fu) (a0 := d) hf
  obtain ⟨q6, e6, h6⟩ := t_Desc_isElement (a0 := d)
  obtain ⟨q7, e7, h7⟩ := t_Desc_isRepeat (a0 := d)
  obtain ⟨q8, e8, h8⟩ := t_Desc_bitsOf (a0 := d)
  obtain ⟨q9, e9, h9⟩ := t_Desc_isMark (a0 := d)
  have k0 : (0 : Int32).toInt = 0 := by decide
  have km : ((-1) : Int32).toInt = -1 := by decide
  have z6 : q6 = 0 := i_eq.mpr (by omega)
  have z7 : q7 = 0 := i_eq.mpr (by omega)
  have z5 : q5 = (-1) := i_eq.mpr (by omega)
  have z8 : q8 = (-1) := i_eq.mpr (by omega)
  have z9 : q9 = 0 := i_eq.mpr (by omega)
  unfold CN
  rw [bd_s e5, bd_s e6, if_pos z6, bd_s e7, if_pos z7, if_pos z5, bd_s e8, if_pos z8, bd_s e9, if_pos z9]
theorem CN_rep {fu : Nat} {P : S_Prog} {d : Int32} {Fl : S_Fld} {W : S_Walk} {L : S_Lps} (hf : 12000 ≤ fu) (h0 : 216 ≤ d.toInt) (h1 : d.toInt ≤ 343) (ha : o_in (Walk_at W - 1) 1000 = true) : CN fu P d Fl W L = o_bd (Walk_comeToRepeat ((d - 200) - (d - 200) / 16 * 16) (Prog_bodyEnds P (Walk_at W - 1).toNatClampNeg) W L) fun q21 => some (q21.1, q21.2) := by
  obtain ⟨q5, e5, h5⟩ := t_Desc_operatorOf (fu := fu) (a0 := d) hf
  obtain ⟨q6, e6, h6⟩ := t_Desc_isElement (a0 := d)
  obtain ⟨q7, e7, h7⟩ := t_Desc_isRepeat (a0 := d)
  have k0 : (0 : Int32).toInt = 0 := by decide
  have z6 : q6 = 0 := i_eq.mpr (by omega)
  have n7 : ¬ q7 = 0 := by rw [i_eq]; omega
  have et : Desc_timesOf d = some ((d - 200) - (d - 200) / 16 * 16) := rfl
  unfold CN
  rw [bd_s e5, bd_s e6, if_pos z6, bd_s e7, if_neg n7, bd_s et, gd_t ha]
theorem CN_op {fu k : Nat} {P : S_Prog} {d q q11 : Int32} {Fl : S_Fld} {W : S_Walk} {L : S_Lps} (hk : k < 4) (hq : q.toInt = (k : Int)) (h0 : 400 ≤ d.toInt) (h1 : d.toInt ≤ 487) (e5 : Desc_operatorOf fu d = some q) (e15 : Desc_settingOf d q = some q11) : CN fu P d Fl W L = some (Walk_put_settings W k q11, L) := by
  obtain ⟨q6, e6, h6⟩ := t_Desc_isElement (a0 := d)
  obtain ⟨q7, e7, h7⟩ := t_Desc_isRepeat (a0 := d)
  have k0 : (0 : Int32).toInt = 0 := by decide
  have km : ((-1) : Int32).toInt = -1 := by decide
  have z6 : q6 = 0 := i_eq.mpr (by omega)
  have z7 : q7 = 0 := i_eq.mpr (by omega)
  have n5 : ¬ q = (-1) := by rw [i_eq]; omega
  have g4 : o_in q 4 = true := i_in.mpr (by omega)
  have nq : q.toNatClampNeg = k := by
    have := i_nat (a := q) (by omega)
    omega
  unfold CN
  rw [bd_s e5, bd_s e6, if_pos z6, bd_s e7, if_pos z7, if_neg n5, bd_s e15, gd_t g4, nq]
theorem CN_bits {fu : Nat} {P : S_Prog} {d : Int32} {Fl : S_Fld} {W : S_Walk} {L : S_Lps} (hf : 12000 ≤ fu) (h0 : 501 ≤ d.toInt) (h1 : d.toInt ≤ 516) : ∃ q : Int32, q.toInt = d.toInt - 500 ∧ CN fu P d Fl W L = o_bd (Walk_comeToBits Fl q W) fun q13 => some (q13, L) := by
  obtain ⟨q5, e5, h5⟩ := t_Desc_operatorOf (fu := fu) (a0 := d) hf
  obtain ⟨q6, e6, h6⟩ := t_Desc_isElement (a0 := d)
  obtain ⟨q7, e7, h7⟩ := t_Desc_isRepeat (a0 := d)
  obtain ⟨q8, e8, h8⟩ := t_Desc_bitsOf (a0 := d)
  have k0 : (0 : Int32).toInt = 0 := by decide
  have km : ((-1) : Int32).toInt = -1 := by decide
  have z6 : q6 = 0 := i_eq.mpr (by omega)
  have z7 : q7 = 0 := i_eq.mpr (by omega)
  have z5 : q5 = (-1) := i_eq.mpr (by omega)
  have n8 : ¬ q8 = (-1) := by rw [i_eq]; omega
  refine ⟨q8, by omega, ?_⟩
  unfold CN
  rw [bd_s e5, bd_s e6, if_pos z6, bd_s e7, if_pos z7, if_pos z5, bd_s e8, if_neg n8, bd_s e8]
theorem CN_mark {fu : Nat} {P : S_Prog} {d : Int32} {Fl : S_Fld} {W : S_Walk} {L : S_Lps} (hf : 12000 ≤ fu) (h0 : d.toInt = 520) : CN fu P d Fl W L = some (Walk_set_dueKind W 4, L) := by
  obtain ⟨q5, e5, h5⟩ := t_Desc_operatorOf (fu := fu) (a0 := d) hf
  obtain ⟨q6, e6, h6⟩ := t_Desc_isElement (a0 := d)
  obtain ⟨q7, e7, h7⟩ := t_Desc_isRepeat (a0 := d)
  obtain ⟨q8, e8, h8⟩ := t_Desc_bitsOf (a0 := d)
  obtain ⟨q9, e9, h9⟩ := t_Desc_isMark (a0 := d)
  have k0 : (0 : Int32).toInt = 0 := by decide
  have km : ((-1) : Int32).toInt = -1 := by decide
  have z6 : q6 = 0 := i_eq.mpr (by omega)
  have z7 : q7 = 0 := i_eq.mpr (by omega)
  have z5 : q5 = (-1) := i_eq.mpr (by omega)
  have z8 : q8 = (-1) := i_eq.mpr (by omega)
  have n9 : ¬ q9 = 0 := by rw [i_eq]; omega
  unfold CN
  rw [bd_s e5, bd_s e6, if_pos z6, bd_s e7, if_pos z7, if_pos z5, bd_s e8, if_pos z8, bd_s e9, if_neg n9]
-- one turn of advance
abbrev WO : Type := Int32 × S_Walk × S_Fld × S_Lps
theorem adv_come {fu n : Nat} {t : S_Tab} {P : S_Prog} {x1 x2 y : Int32} {ke : S_Walk → S_Fld → S_Lps → Option WO} {W : S_Walk} {Fl : S_Fld} {L L' : S_Lps} (hx : x2.toInt ≤ 2000) (hz : Walk_fault W = 0) (hc : Fld_count Fl = x1) (hd : Walk_dueKind W = (-1)) (hon : Lps_onFrom fu (Walk_at W) L = some (y, L')) : Walk_advance_L10 fu t P x1 ke (n + 1) x2 W Fl L = (if y < Prog_size P then o_bd (Walk_comeToNext fu P Fl (Walk_set_at W y) L') fun q13 => Walk_advance_L10 fu t P x1 ke n (x2 + 1) q13.1 Fl q13.2 else some (0, Walk_set_at W y, Fl, L')) := by
  have kt : (2000 : Int32).toInt = 2000 := by decide
  have nx : ¬ (2000 : Int32) < x2 := by rw [i_lt]; omega
  have d0 : ¬ Walk_dueKind W = 0 := by rw [hd]; decide
  have d1 : ¬ Walk_dueKind W = 1 := by rw [hd]; decide
  have d2 : ¬ Walk_dueKind W = 2 := by rw [hd]; decide
  have d3 : ¬ Walk_dueKind W = 3 := by rw [hd]; decide
  have d4 : ¬ Walk_dueKind W = 4 := by rw [hd]; decide
  rw [Walk_advance_L10, if_neg nx, if_pos hz, if_pos hc, if_neg d0, if_neg d1, if_neg d2, if_neg d3, if_neg d4, bd_s hon]
  rfl
theorem adv_f {fu n : Nat} {t : S_Tab} {P : S_Prog} {x1 x2 : Int32} {ke : S_Walk → S_Fld → S_Lps → Option WO} {W : S_Walk} {Fl : S_Fld} {L : S_Lps} (hz : ¬ Walk_fault W = 0) : Walk_advance_L10 fu t P x1 ke (n + 1) x2 W Fl L = ke W Fl L := by
  rw [Walk_advance_L10]
  by_cases c : (2000 : Int32) < x2
  · rw [if_pos c]
  · rw [if_neg c, if_neg hz]
theorem adv_more {fu n : Nat} {t : S_Tab} {P : S_Prog} {x1 x2 : Int32} {ke : S_Walk → S_Fld → S_Lps → Option WO} {W : S_Walk} {Fl : S_Fld} {L : S_Lps} (hc : ¬ Fld_count Fl = x1) : Walk_advance_L10 fu t P x1 ke (n + 1) x2 W Fl L = ke W Fl L := by
  rw [Walk_advance_L10]
  by_cases c : (2000 : Int32) < x2
  · rw [if_pos c]
  · rw [if_neg c]
    by_cases c2 : Walk_fault W = 0
    · rw [if_pos c2, if_neg hc]
    · rw [if_neg c2]
theorem adv_due {fu n : Nat} {t : S_Tab} {P : S_Prog} {x1 x2 k : Int32} {ke : S_Walk → S_Fld → S_Lps → Option WO} {W W' : S_Walk} {Fl Fl' : S_Fld} {L : S_Lps} (hx : x2.toInt ≤ 2000) (hz : Walk_fault W = 0) (hc : Fld_count Fl = x1) (hd : Walk_dueKind W = k) (hk : (k = 0 ∧ Walk_giveFromEntry fu t L W Fl = some (W', Fl')) ∨ (k = 1 ∧ Walk_giveQuality L W Fl = some (W', Fl')) ∨ (k = 2 ∧ Walk_giveFromEntry fu t L W Fl = some (W', Fl')) ∨ (k = 3 ∧ Walk_giveBit L W Fl = some (W', Fl')) ∨ (k = 4 ∧ Walk_giveMark L W Fl = some (W', Fl'))) : Walk_advance_L10 fu t P x1 ke (n + 1) x2 W Fl L = Walk_advance_L10 fu t P x1 ke n (x2 + 1) W' Fl' L := by
  have kt : (2000 : Int32).toInt = 2000 := by decide
  have nx : ¬ (2000 : Int32) < x2 := by rw [i_lt]; omega
  rw [Walk_advance_L10, if_neg nx, if_pos hz, if_pos hc]
  rcases hk with ⟨e, g⟩ | ⟨e, g⟩ | ⟨e, g⟩ | ⟨e, g⟩ | ⟨e, g⟩ <;> rw [e] at hd
  · rw [if_pos hd, bd_s g]
    rfl
  · rw [if_neg (show ¬ Walk_dueKind W = 0 by rw [hd]; decide), if_pos hd, bd_s g]
    rfl
  · rw [if_neg (show ¬ Walk_dueKind W = 0 by rw [hd]; decide), if_neg (show ¬ Walk_dueKind W = 1 by rw [hd]; decide), if_pos hd, bd_s g]
    rfl
  · rw [if_neg (show ¬ Walk_dueKind W = 0 by rw [hd]; decide), if_neg (show ¬ Walk_dueKind W = 1 by rw [hd]; decide), if_neg (show ¬ Walk_dueKind W = 2 by rw [hd]; decide), if_pos hd, bd_s g]
    rfl
  · rw [if_neg (show ¬ Walk_dueKind W = 0 by rw [hd]; decide), if_neg (show ¬ Walk_dueKind W = 1 by rw [hd]; decide), if_neg (show ¬ Walk_dueKind W = 2 by rw [hd]; decide), if_neg (show ¬ Walk_dueKind W = 3 by rw [hd]; decide), if_pos hd, bd_s g]
    rfl

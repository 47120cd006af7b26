-- an element's field, on both sides
theorem gfe_0 {fu : Nat} {t : S_Tab} {L : S_Lps} {W : S_Walk} {Fl : S_Fld} {r q4 q8 : Int32} (hd : Walk_dueKind W = 0) (er : Tab_inForce fu t (Walk_dueCode W) = some r) (h0 : 0 ≤ r.toInt) (h1 : r.toInt < 320) (e4 : Desc_addedWidth (Walk_settings W 0) = some q4) (e8 : Desc_addedScale (Walk_settings W 1) = some q8) : Walk_giveFromEntry fu t L W Fl = Walk_give L 0 (Walk_dueCode W) (Tab_widths t r.toNatClampNeg + q4) (Tab_scales t r.toNatClampNeg + q8) ((Tab_references t r.toNatClampNeg).toInt64 * (1 <<< ((Walk_settings W 3).toInt64 &&& 63))) (-1) (Walk_set_dueKind W (-1)) Fl := by
  have km : ((-1) : Int32).toInt = -1 := by decide
  have c : ¬ r = (-1) := by rw [i_eq]; omega
  have g : o_in r 320 = true := i_in.mpr (by omega)
  have er' : Tab_inForce fu t (Walk_dueCode (Walk_set_dueKind W (-1))) = some r := er
  have e4' : Desc_addedWidth (Walk_settings (Walk_set_dueKind W (-1)) (0 : Int32).toNatClampNeg) = some q4 := e4
  have e8' : Desc_addedScale (Walk_settings (Walk_set_dueKind W (-1)) (1 : Int32).toNatClampNeg) = some q8 := e8
  unfold Walk_giveFromEntry o_lt
  dsimp only
  rw [bd_s er', if_neg c, gd_t g, gd_t g, gd_t g, if_pos hd, gd_t (show o_in 0 4 = true by decide), bd_s e4']
  show o_gd (o_in 1 4) _ = _
  rw [gd_t (show o_in 1 4 = true by decide), bd_s e8']
  show o_gd (o_in 3 4) _ = _
  rw [gd_t (show o_in 3 4 = true by decide), hd]
  unfold Walk_giveFromEntry_j104
  exact bd_some _
theorem gfe_2 {fu : Nat} {t : S_Tab} {L : S_Lps} {W : S_Walk} {Fl : S_Fld} {r : Int32} (hd : Walk_dueKind W = 2) (er : Tab_inForce fu t (Walk_dueCode W) = some r) (h0 : 0 ≤ r.toInt) (h1 : r.toInt < 320) : Walk_giveFromEntry fu t L W Fl = Walk_give L 2 (Walk_dueCode W) (Tab_widths t r.toNatClampNeg) (Tab_scales t r.toNatClampNeg) (Tab_references t r.toNatClampNeg).toInt64 (-1) (Walk_set_dueKind W (-1)) Fl := by
  have km : ((-1) : Int32).toInt = -1 := by decide
  have c : ¬ r = (-1) := by rw [i_eq]; omega
  have g : o_in r 320 = true := i_in.mpr (by omega)
  have er' : Tab_inForce fu t (Walk_dueCode (Walk_set_dueKind W (-1))) = some r := er
  have n0 : ¬ Walk_dueKind W = 0 := by rw [hd]; decide
  unfold Walk_giveFromEntry o_lt
  dsimp only
  rw [bd_s er', if_neg c, gd_t g, gd_t g, gd_t g, if_neg n0, hd]
  unfold Walk_giveFromEntry_j104
  exact bd_some _
theorem j38_inv {fu : Nat} {th sc rf wi : Nat → Int32} {va : Nat → Int64} {tu op bi : Nat → Int32} {d r p4 p8 p11 : Int32} {s : S_Mo} {rd : Nat → Int64} {ki co wd sca lk rp : Nat → Int32} {ba : Nat → Int64} {ea : Nat → Int32} {w : QE} (g4 : Mod_added s op 0 = some p4) (g8 : Mod_added s op 1 = some p8) (g11 : Mod_added s op 3 = some p11) (h : Mod_walkElement_j38 fu th sc rf wi va tu op bi d r s rd ki co wd sca lk rp ba ea = some w) : ∃ q : QC, Mod_come fu va tu bi 0 d (wi r.toNatClampNeg + p4) (sc r.toNatClampNeg + p8) ((rf r.toNatClampNeg).toInt64 <<< (p11.toInt64 &&& 63)) (-1) s rd ki co wd sca lk rp ba = some q ∧ ((Mo_fields q.2.1 = Mo_fields s ∧ w = (q.2.1, q.2.2.1, q.2.2.2.1, q.2.2.2.2.1, q.2.2.2.2.2.1, q.2.2.2.2.2.2.1, q.2.2.2.2.2.2.2.1, q.2.2.2.2.2.2.2.2.1, q.2.2.2.2.2.2.2.2.2, ea)) ∨ (¬ Mo_fields q.2.1 = Mo_fields s ∧ w = (Mo_set_elements q.2.1 (Mo_elements q.2.1 + 1), q.2.2.1, q.2.2.2.1, q.2.2.2.2.1, q.2.2.2.2.2.1, q.2.2.2.2.2.2.1, q.2.2.2.2.2.2.2.1, q.2.2.2.2.2.2.2.2.1, q.2.2.2.2.2.2.2.2.2, upd ea (Mo_elements q.2.1).toNatClampNeg (Mo_fields s)))) := by
  unfold Mod_walkElement_j38 o_lt at h
  have h := oe_gd h
  rw [bd_s g4] at h
  have h := oe_gd h
  rw [bd_s g8] at h
  have h := oe_gd h
  rw [bd_s g11] at h
  obtain ⟨q, e, h⟩ := oi_bd h
  refine ⟨q, e, ?_⟩
  by_cases c : Mo_fields q.2.1 = Mo_fields s
  · rw [if_pos c] at h
    exact Or.inl ⟨c, (Option.some.inj h).symm⟩
  · rw [if_neg c] at h
    have h := oe_gd h
    exact Or.inr ⟨c, (Option.some.inj h).symm⟩
-- what both sides give for an element
theorem el_args {fu : Nat} {t : S_Tab} {W : S_Walk} {s : S_Mo} {u : Int32} {th sc rf wi ls le op : Nat → Int32} {d : Int32} (hf : 12000 ≤ fu) (I : I_Tab t) (Im : I_Mo s) (hu : Mo_used s = u) (T : TbR t u th sc rf wi ls le) (S : ∀ k, k < 4 → om k (Walk_settings W k) (op k)) (h0 : 0 ≤ d.toInt) (h1 : d.toInt ≤ 63) (E : EOK th wi u d op) : ∃ (r q4 q8 q11 : Int32), Tab_inForce fu t d = some r ∧ Mod_force fu s th d = some r ∧ 0 ≤ r.toInt ∧ r.toInt < 320 ∧ Desc_addedWidth (Walk_settings W 0) = some q4 ∧ Desc_addedScale (Walk_settings W 1) = some q8 ∧ Mod_added s op 0 = some q4 ∧ Mod_added s op 1 = some q8 ∧ Mod_added s op 3 = some q11 ∧ q11 = Walk_settings W 3 ∧ Tab_widths t r.toNatClampNeg = wi r.toNatClampNeg ∧ Tab_scales t r.toNatClampNeg = sc r.toNatClampNeg ∧ Tab_references t r.toNatClampNeg = rf r.toNatClampNeg ∧ 1 ≤ (wi r.toNatClampNeg + q4).toInt ∧ (wi r.toNatClampNeg + q4).toInt ≤ 32 := by
  obtain ⟨T1, T2, T3, T4, T5⟩ := T
  obtain ⟨r, ex, em, r0, r1, r2, rt⟩ := c_force (fu := fu) (t := t) (s := s) (c := d) hf I Im T1 (T3.trans hu.symm) h0 (by omega)
  rw [hu] at r2
  have rp : 0 ≤ r.toInt := by rw [r2]; exact E.1
  obtain ⟨w1, w2, w3⟩ := T2 r.toNatClampNeg (rt rp)
  obtain ⟨q4, f4, v4⟩ := x_addedWidth (S 0 (by decide))
  obtain ⟨q8, f8, v8⟩ := x_addedScale (S 1 (by decide))
  obtain ⟨p4, g4, z4⟩ := t_Mod_added (s := s) (op := op) (a0 := 0) (by decide) (by decide)
  obtain ⟨p8, g8, z8⟩ := t_Mod_added (s := s) (op := op) (a0 := 1) (by decide) (by decide)
  obtain ⟨p11, g11, z11⟩ := t_Mod_added (s := s) (op := op) (a0 := 3) (by decide) (by decide)
  have n0 : (0 : Int32).toNatClampNeg = 0 := by decide
  have n1 : (1 : Int32).toNatClampNeg = 1 := by decide
  have n3 : (3 : Int32).toNatClampNeg = 3 := by decide
  rw [n0] at z4
  rw [n1] at z8
  rw [n3] at z11
  have e4 : p4 = q4 := i_eq.mpr (by rw [v4, z4])
  have e8 : p8 = q8 := i_eq.mpr (by rw [v8, z8])
  have e11 : p11 = Walk_settings W 3 := by
    refine i_eq.mpr ?_
    rw [z11]
    unfold ad
    obtain ⟨o1, o2, o3⟩ := S 3 (by decide)
    have km : ((-100) : Int32).toInt = -100 := by decide
    rw [if_neg (show ¬ (3 : Nat) = 0 by decide), if_neg (show ¬ (3 : Nat) = 1 by decide)] at o3
    by_cases c : op 3 = (-100)
    · rw [if_pos c]
      rw [i_eq, km] at c
      omega
    · rw [if_neg c]
      rw [i_eq, km] at c
      omega
  rw [e4] at g4
  rw [e8] at g8
  have nr := i_nat rp
  have er : (fv th u d).toNat = r.toNatClampNeg := by omega
  obtain ⟨_, E1, E2⟩ := E
  rw [er, ← z4, e4] at E1 E2
  have ew : (wi r.toNatClampNeg + q4).toInt = (wi r.toNatClampNeg).toInt + q4.toInt := i_add (a := wi r.toNatClampNeg) (b := q4) (by omega) (by omega)
  exact ⟨r, q4, q8, p11, ex, em, rp, r1, f4, f8, g4, g8, g11, e11, w1, w2, w3, by rw [ew]; exact E1, by rw [ew]; exact E2⟩

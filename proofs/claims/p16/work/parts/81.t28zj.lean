-- what an advance comes to: a field, or the walk's end
def Adv (c : Cst) (m : Nat) (x1 x2 : Int32) (W : S_Walk) (Fl : S_Fld) (L : S_Lps) (s : S_Mo) (rd : Nat → Int64) : Prop := ∃ (b : Int32) (W' : S_Walk) (Fl' : S_Fld) (L' : S_Lps), Walk_advance_L10 c.fu c.t c.P x1 (fun zW zF zL => Walk_advance_j141 c.fu c.t c.P x1 zW zF zL) m x2 W Fl L = some (b, W', Fl', L') ∧ ((b = 1 ∧ Fld_count Fl' = Fld_count Fl + 1 ∧ ∃ (s' : S_Mo) (n' : Nat), KA s' s ∧ FE c n' W' Fl' L' s' rd) ∨ (b = 0 ∧ Fl' = Fl ∧ EndR c W' Fl' s rd))
theorem Adv_KA {c : Cst} {m : Nat} {x1 x2 : Int32} {W : S_Walk} {Fl : S_Fld} {L : S_Lps} {s s' : S_Mo} {rd : Nat → Int64} (h : KA s' s) (A : Adv c m x1 x2 W Fl L s' rd) : Adv c m x1 x2 W Fl L s rd := by
  obtain ⟨b, W', Fl', L', e, g⟩ := A
  refine ⟨b, W', Fl', L', e, ?_⟩
  rcases g with ⟨g1, g2, s2, n2, g3, g4⟩ | ⟨g1, g2, g3, g4⟩
  · exact Or.inl ⟨g1, g2, s2, n2, g3.trans h, g4⟩
  · refine Or.inr ⟨g1, g2, g3, ?_⟩
    rcases g4 with ⟨y1, y2, y3, y4⟩ | y
    · exact Or.inl ⟨y1, y2, y3.trans h, y4⟩
    · exact Or.inr y
-- a field is given, or the walk has a fault: the advance ends
theorem Adv_f {c : Cst} {m : Nat} {x1 x2 : Int32} {W : S_Walk} {Fl : S_Fld} {L : S_Lps} {s : S_Mo} {rd : Nat → Int64} (hz : ¬ Walk_fault W = 0) (hr : ¬ Mo_fault c.r.1 = 0) (hF : FdE Fl c.r) : Adv c (m + 1) x1 x2 W Fl L s rd := by
  refine ⟨0, W, Fl, L, ?_, Or.inr ⟨rfl, rfl, hF, Or.inr ⟨hz, hr⟩⟩⟩
  rw [adv_f hz]
  unfold Walk_advance_j141
  rw [if_neg hz]
theorem Adv_gv {c : Cst} {m n : Nat} {x1 x2 k : Int32} {W W' : S_Walk} {Fl Fl' : S_Fld} {L : S_Lps} {s : S_Mo} {rd : Nat → Int64} (hx : x2.toInt ≤ 2000) (hz : Walk_fault W = 0) (hc : Fld_count Fl = x1) (h0 : 0 ≤ x1.toInt) (h1 : x1.toInt ≤ 100) (hd : Walk_dueKind W = k) (hk : (k = 0 ∧ Walk_giveFromEntry c.fu c.t L W Fl = some (W', Fl')) ∨ (k = 1 ∧ Walk_giveQuality L W Fl = some (W', Fl')) ∨ (k = 2 ∧ Walk_giveFromEntry c.fu c.t L W Fl = some (W', Fl')) ∨ (k = 3 ∧ Walk_giveBit L W Fl = some (W', Fl')) ∨ (k = 4 ∧ Walk_giveMark L W Fl = some (W', Fl'))) (ho : (Fl' = Fl ∧ ¬ Walk_fault W' = 0 ∧ ¬ Mo_fault c.r.1 = 0 ∧ FdE Fl c.r) ∨ (Fld_count Fl' = Fld_count Fl + 1 ∧ ∃ s0 : S_Mo, KA s0 s ∧ FE c n W' Fl' L s0 rd)) : Adv c (m + 2) x1 x2 W Fl L s rd := by
  have k1 : (1 : Int32).toInt = 1 := by decide
  have e := adv_due (n := m + 1) (P := c.P) (ke := fun zW zF zL => Walk_advance_j141 c.fu c.t c.P x1 zW zF zL) hx hz hc hd hk
  rcases ho with ⟨g1, g2, g3, g4⟩ | ⟨g1, s0, g2, g3⟩
  · rw [g1] at e
    obtain ⟨b, W2, Fl2, L2, y1, y2⟩ := Adv_f (m := m) (x1 := x1) (x2 := x2 + 1) (L := L) (s := s) (rd := rd) g2 g3 g4
    exact ⟨b, W2, Fl2, L2, e.trans y1, y2⟩
  · have e1 : (Fld_count Fl').toInt = x1.toInt + 1 := by
      rw [g1, hc, i_add (a := x1) (b := 1) (by omega) (by omega), k1]
    have nc : ¬ Fld_count Fl' = x1 := by
      rw [i_eq, e1]
      clear e1
      omega
    have nl : ¬ Fld_count Fl' ≤ x1 := by
      rw [i_le, e1]
      clear e1
      omega
    have g3' := g3
    obtain ⟨i, a0, a1, a2, a3, a4, a5, rep, tu, ki, co, wd, sca, lk, rp, ba, q, Fl0, v1, v2, v3, v4, v5, v6, v7, v8, v9, v10, v11, v12, v13⟩ := g3'
    refine ⟨1, W', Fl', L, ?_, Or.inl ⟨rfl, g1, s0, n, g2, g3⟩⟩
    rw [e, adv_more nc]
    unfold Walk_advance_j141
    rw [if_pos v11, if_neg nl]
-- the reference behind one of its turns

def Wk (c : Cst) (n : Nat) (w : A19) : Prop := RunL c n w.1 w.2.1 w.2.2.1 w.2.2.2.1 w.2.2.2.2.1 w.2.2.2.2.2.1 w.2.2.2.2.2.2.1 w.2.2.2.2.2.2.2.1 w.2.2.2.2.2.2.2.2.1 w.2.2.2.2.2.2.2.2.2.1 w.2.2.2.2.2.2.2.2.2.2.1 w.2.2.2.2.2.2.2.2.2.2.2.1 w.2.2.2.2.2.2.2.2.2.2.2.2.1 w.2.2.2.2.2.2.2.2.2.2.2.2.2.1 w.2.2.2.2.2.2.2.2.2.2.2.2.2.2.1 w.2.2.2.2.2.2.2.2.2.2.2.2.2.2.2.1 w.2.2.2.2.2.2.2.2.2.2.2.2.2.2.2.2.1 w.2.2.2.2.2.2.2.2.2.2.2.2.2.2.2.2.2.1 w.2.2.2.2.2.2.2.2.2.2.2.2.2.2.2.2.2.2
theorem s_seq {c : Cst} {m n : Nat} {x2 : Int32} {W : S_Walk} {Fl : S_Fld} {L : S_Lps} {s : S_Mo} {rd : Nat → Int64} {li ne en be lf tu fo op ki co wd sca lk rp : Nat → Int32} {ba : Nat → Int64} {ea pa : Nat → Int32} {o a : Nat} {d : Int32} {w : A19} (ok : Cok c) (ih : ∀ (x' : Int32) (n' : Nat) (W' : S_Walk) (L' : S_Lps) (s' : S_Mo), SY c n' W' Fl L' s' rd → Walk_dueKind W' = (-1) → 0 ≤ x'.toInt → x'.toInt ≤ (Walk_come W').toInt → 2004 ≤ (m : Int) + x'.toInt → Adv c m (Fld_count Fl) x' W' Fl L' s' rd) (hx0 : 0 ≤ x2.toInt) (hx1 : x2.toInt ≤ (Walk_come W).toInt) (hm : 2003 ≤ (m : Int) + x2.toInt) (R : WB c.t c.P W Fl L s li ne en be lf tu op ki co wd sca lk rp ba ea pa o a) (hdk : Walk_dueKind W = (-1)) (hce : Walk_countedEnd W = (-1)) (hlk : (Mo_looked s).toInt < 2000) (hb : 0 ≤ (ne o).toInt ∧ (ne o).toInt < (en o).toInt ∧ (en o).toInt ≤ 24 ∧ 0 ≤ (li o).toInt ∧ (li o).toInt ≤ 16) (hd : d = Tab_listed c.t (fp li ne o)) (h : Mod_walkOne c.fu c.th c.sc c.rf c.wi c.ls c.le c.va c.bi d (Mo_set_looked s (Mo_looked s + 1)) rd li (upd ne o (ne o + 1)) en be lf tu fo op ki co wd sca lk rp ba ea pa = some w) (hW : Wk c n w) (hk : 100 ≤ d.toInt ∧ d.toInt ≤ 115) : ∃ (W2 : S_Walk) (L2 : S_Lps), CN c.fu c.P d Fl (NW W) L = some (W2, L2) ∧ Adv c m (Fld_count Fl) (x2 + 1) W2 Fl L2 s rd := by
  have k1 : (1 : Int32).toInt = 1 := by decide
  have ok' := ok
  obtain ⟨hf, It_, IP, T, Iw, Is, Ils, Ile, Irf⟩ := ok'
  have hcm : Walk_come W = Mo_looked s := R.2.2.2.2.1
  have hl0 : 0 ≤ (Mo_looked s).toInt := R.2.2.2.2.2.1
  have ex : (x2 + 1).toInt = x2.toInt + 1 := by
    rw [i_add (a := x2) (b := 1) (by rw [hcm] at hx1; omega) (by rw [hcm] at hx1; omega), k1]
  have ec : (Walk_come (NW W)).toInt = (Walk_come W).toInt + 1 := by
    show (Walk_come W + 1).toInt = _
    clear ex
    rw [hcm, i_add (a := Mo_looked s) (b := 1) (by omega) (by omega), k1]
  obtain ⟨e, R2⟩ := w_seq hf It_ T.2.2.2.1 R hlk hb hd hk h
  subst e
  refine ⟨NW W, L, CN_seq hf hk.1 hk.2, ?_⟩
  refine Adv_KA (s' := Mo_set_open (Mo_set_looked s (Mo_looked s + 1)) (Mo_open s + 1)) ⟨rfl, rfl, rfl, rfl, rfl⟩ (ih (x2 + 1) n (NW W) L _ ?_ hdk (by rw [ex]; clear ex ec; omega) (by rw [ex, ec]; clear ex ec; omega) (by rw [ex]; clear ex ec; omega))
  exact ⟨_, _, _, _, _, _, _, op, ki, co, wd, sca, lk, rp, ba, ea, pa, o + 1, a + 1, R2, hce, hW.1.1, hW.1.2.1, hW.1.2.2.2.2.1, Or.inl ⟨hdk, hW⟩⟩
theorem s_op {c : Cst} {m n : Nat} {x2 : Int32} {W : S_Walk} {Fl : S_Fld} {L : S_Lps} {s : S_Mo} {rd : Nat → Int64} {li ne en be lf tu fo op ki co wd sca lk rp : Nat → Int32} {ba : Nat → Int64} {ea pa : Nat → Int32} {o a : Nat} {d : Int32} {w : A19} (ok : Cok c) (ih : ∀ (x' : Int32) (n' : Nat) (W' : S_Walk) (L' : S_Lps) (s' : S_Mo), SY c n' W' Fl L' s' rd → Walk_dueKind W' = (-1) → 0 ≤ x'.toInt → x'.toInt ≤ (Walk_come W').toInt → 2004 ≤ (m : Int) + x'.toInt → Adv c m (Fld_count Fl) x' W' Fl L' s' rd) (hx0 : 0 ≤ x2.toInt) (hx1 : x2.toInt ≤ (Walk_come W).toInt) (hm : 2003 ≤ (m : Int) + x2.toInt) (R : WB c.t c.P W Fl L s li ne en be lf tu op ki co wd sca lk rp ba ea pa o a) (hdk : Walk_dueKind W = (-1)) (hce : Walk_countedEnd W = (-1)) (hlk : (Mo_looked s).toInt < 2000) (hb : 0 ≤ (ne o).toInt ∧ (ne o).toInt < (en o).toInt ∧ (en o).toInt ≤ 24 ∧ 0 ≤ (li o).toInt ∧ (li o).toInt ≤ 16) (hd : d = Tab_listed c.t (fp li ne o)) (h : Mod_walkOne c.fu c.th c.sc c.rf c.wi c.ls c.le c.va c.bi d (Mo_set_looked s (Mo_looked s + 1)) rd li (upd ne o (ne o + 1)) en be lf tu fo op ki co wd sca lk rp ba ea pa = some w) (hW : Wk c n w) (hk : (400 ≤ d.toInt ∧ d.toInt ≤ 431) ∨ (440 ≤ d.toInt ∧ d.toInt ≤ 455) ∨ (460 ≤ d.toInt ∧ d.toInt ≤ 468) ∨ (480 ≤ d.toInt ∧ d.toInt ≤ 487)) : ∃ (W2 : S_Walk) (L2 : S_Lps), CN c.fu c.P d Fl (NW W) L = some (W2, L2) ∧ Adv c m (Fld_count Fl) (x2 + 1) W2 Fl L2 s rd := by
  have k1 : (1 : Int32).toInt = 1 := by decide
  have ok' := ok
  obtain ⟨hf, It_, IP, T, Iw, Is, Ils, Ile, Irf⟩ := ok'
  have hcm : Walk_come W = Mo_looked s := R.2.2.2.2.1
  have hl0 : 0 ≤ (Mo_looked s).toInt := R.2.2.2.2.2.1
  have ex : (x2 + 1).toInt = x2.toInt + 1 := by
    rw [i_add (a := x2) (b := 1) (by rw [hcm] at hx1; omega) (by rw [hcm] at hx1; omega), k1]
  have ec : (Walk_come (NW W)).toInt = (Walk_come W).toInt + 1 := by
    show (Walk_come W + 1).toInt = _
    clear ex
    rw [hcm, i_add (a := Mo_looked s) (b := 1) (by omega) (by omega), k1]
  obtain ⟨k, q, q11, q4, y1, y2, y3, y4, y5, y6, y7⟩ := op_both hf hk
  have hr : 400 ≤ d.toInt ∧ d.toInt ≤ 487 := by clear ex ec; omega
  obtain ⟨e, R2⟩ := w_op hf It_ T.2.2.2.1 R hlk hb hd y1 y2 hr y4 y6 y7 h
  subst e
  refine ⟨Walk_put_settings (NW W) k q11, L, CN_op y1 y2 hr.1 hr.2 y3 y5, ?_⟩
  refine Adv_KA (s' := Mo_set_looked s (Mo_looked s + 1)) ⟨rfl, rfl, rfl, rfl, rfl⟩ (ih (x2 + 1) n _ L _ ?_ hdk (by rw [ex]; clear ex ec; omega) (by rw [ex]; show _ ≤ (Walk_come (NW W)).toInt; rw [ec]; clear ex ec; omega) (by rw [ex]; clear ex ec; omega))
  exact ⟨_, _, _, _, _, _, _, _, ki, co, wd, sca, lk, rp, ba, ea, pa, o, a + 1, R2, hce, hW.1.1, hW.1.2.1, hW.1.2.2.2.2.1, Or.inl ⟨hdk, hW⟩⟩
theorem s_rep {c : Cst} {m n : Nat} {x2 : Int32} {W : S_Walk} {Fl : S_Fld} {L : S_Lps} {s : S_Mo} {rd : Nat → Int64} {li ne en be lf tu fo op ki co wd sca lk rp : Nat → Int32} {ba : Nat → Int64} {ea pa : Nat → Int32} {o a : Nat} {d : Int32} {w : A19} (ok : Cok c) (ih : ∀ (x' : Int32) (n' : Nat) (W' : S_Walk) (L' : S_Lps) (s' : S_Mo), SY c n' W' Fl L' s' rd → Walk_dueKind W' = (-1) → 0 ≤ x'.toInt → x'.toInt ≤ (Walk_come W').toInt → 2004 ≤ (m : Int) + x'.toInt → Adv c m (Fld_count Fl) x' W' Fl L' s' rd) (hx0 : 0 ≤ x2.toInt) (hx1 : x2.toInt ≤ (Walk_come W).toInt) (hm : 2003 ≤ (m : Int) + x2.toInt) (R : WB c.t c.P W Fl L s li ne en be lf tu op ki co wd sca lk rp ba ea pa o a) (hdk : Walk_dueKind W = (-1)) (hce : Walk_countedEnd W = (-1)) (hlk : (Mo_looked s).toInt < 2000) (hb : 0 ≤ (ne o).toInt ∧ (ne o).toInt < (en o).toInt ∧ (en o).toInt ≤ 24 ∧ 0 ≤ (li o).toInt ∧ (li o).toInt ≤ 16) (hd : d = Tab_listed c.t (fp li ne o)) (h : Mod_walkOne c.fu c.th c.sc c.rf c.wi c.ls c.le c.va c.bi d (Mo_set_looked s (Mo_looked s + 1)) rd li (upd ne o (ne o + 1)) en be lf tu fo op ki co wd sca lk rp ba ea pa = some w) (hW : Wk c n w) (hsz : (Prog_size c.P).toInt ≤ 1000) (hk : 216 ≤ d.toInt ∧ d.toInt ≤ 343) (hmm : ¬ (d.toInt - 200) % 16 = 0) : ∃ (W2 : S_Walk) (L2 : S_Lps), CN c.fu c.P d Fl (NW W) L = some (W2, L2) ∧ Adv c m (Fld_count Fl) (x2 + 1) W2 Fl L2 s rd := by
  have k1 : (1 : Int32).toInt = 1 := by decide
  have ok' := ok
  obtain ⟨hf, It_, IP, T, Iw, Is, Ils, Ile, Irf⟩ := ok'
  have hcm : Walk_come W = Mo_looked s := R.2.2.2.2.1
  have hl0 : 0 ≤ (Mo_looked s).toInt := R.2.2.2.2.2.1
  have ex : (x2 + 1).toInt = x2.toInt + 1 := by
    rw [i_add (a := x2) (b := 1) (by rw [hcm] at hx1; omega) (by rw [hcm] at hx1; omega), k1]
  have ec : (Walk_come (NW W)).toInt = (Walk_come W).toInt + 1 := by
    show (Walk_come W + 1).toInt = _
    clear ex
    rw [hcm, i_add (a := Mo_looked s) (b := 1) (by omega) (by omega), k1]
  obtain ⟨L', e1, e, R2⟩ := w_rep hf It_ T.2.2.2.1 R hlk hb hd hsz hk hmm h
  subst e
  refine ⟨NW W, L', e1, ?_⟩
  refine Adv_KA (s' := Mo_set_open (Mo_set_looked s (Mo_looked s + 1)) (Mo_open s + 1)) ⟨rfl, rfl, rfl, rfl, rfl⟩ (ih (x2 + 1) n (NW W) L' _ ?_ hdk (by rw [ex]; clear ex ec; omega) (by rw [ex, ec]; clear ex ec; omega) (by rw [ex]; clear ex ec; omega))
  exact ⟨_, _, _, _, _, _, _, op, ki, co, wd, sca, lk, rp, ba, ea, pa, o + 1, a + 1, R2, hce, hW.1.1, hW.1.2.1, hW.1.2.2.2.2.1, Or.inl ⟨hdk, hW⟩⟩

-- an advance's turn that comes to a descriptor
theorem Adv_come {c : Cst} {m : Nat} {x1 x2 y : Int32} {W W3 : S_Walk} {Fl : S_Fld} {L L' L3 : S_Lps} {s : S_Mo} {rd : Nat → Int64} (hx : x2.toInt ≤ 2000) (hz : Walk_fault W = 0) (hc : Fld_count Fl = x1) (hd : Walk_dueKind W = (-1)) (hon : Lps_onFrom c.fu (Walk_at W) L = some (y, L')) (hy : y < Prog_size c.P) (hcn : Walk_comeToNext c.fu c.P Fl (Walk_set_at W y) L' = some (W3, L3)) (A : Adv c m x1 (x2 + 1) W3 Fl L3 s rd) : Adv c (m + 1) x1 x2 W Fl L s rd := by
  obtain ⟨b, W', Fl', L2, e, g⟩ := A
  refine ⟨b, W', Fl', L2, ?_, g⟩
  rw [adv_come (t := c.t) (ke := fun zW zF zL => Walk_advance_j141 c.fu c.t c.P x1 zW zF zL) hx hz hc hd hon, if_pos hy, bd_s hcn]
  exact e
-- the same place on both sides behind a descriptor that is no list
theorem WB_next {t : S_Tab} {P : S_Prog} {W : S_Walk} {Fl : S_Fld} {L : S_Lps} {s : S_Mo} {li ne en be lf tu op ki co wd sca lk rp : Nat → Int32} {ba : Nat → Int64} {ea pa : Nat → Int32} {o a : Nat} {d : Int32} (R : WB t P W Fl L s li ne en be lf tu op ki co wd sca lk rp ba ea pa o a) (hlk : (Mo_looked s).toInt < 2000) (hb : 0 ≤ (ne o).toInt ∧ (ne o).toInt < (en o).toInt ∧ (en o).toInt ≤ 24 ∧ 0 ≤ (li o).toInt ∧ (li o).toInt ≤ 16) (hd : d = Tab_listed t (fp li ne o)) (hn1 : ¬ (100 ≤ d.toInt ∧ d.toInt ≤ 115)) (hn2 : ¬ (216 ≤ d.toInt ∧ d.toInt ≤ 343)) : WB t P (NW W) Fl L (Mo_set_looked s (Mo_looked s + 1)) li (upd ne o (ne o + 1)) en be lf tu op ki co wd sca lk rp ba ea pa o (a + 1) := by
  have k1 : (1 : Int32).toInt = 1 := by decide
  obtain ⟨r1, r2, r3, r4, r5, r6, r7, r8, r9, r10, r11, r12, r13⟩ := R
  have t0 := St_t0 o a r12
  have nne := i_nat (a := ne o) hb.1
  have nen := i_nat (a := en o) (by omega)
  have lt : fp li ne o < fp li en o := by
    unfold fp
    omega
  obtain ⟨p', b, hI, hp', hS⟩ := St_head r12 lt
  have e64 : 64 - o = 63 - o + 1 := by omega
  rw [e64] at hI
  obtain ⟨i1, i2⟩ := hI
  rw [← hd] at i1 i2
  have N1 : (ne o + 1).toNatClampNeg = (ne o).toNatClampNeg + 1 := by
    have x : (ne o + 1).toInt = (ne o).toInt + 1 := by
      rw [i_add (a := ne o) (b := 1) (by omega) (by omega), k1]
    have := i_nat (a := ne o + 1) (by rw [x]; clear x; omega)
    rw [x] at this
    clear x
    omega
  rcases i2 with ⟨x, x1, x2⟩ | ⟨x, _⟩ | ⟨x, _⟩ | ⟨x, _⟩
  · have S1 := hS (upd ne o (ne o + 1)) (fun f hf' => upd_ne (by omega)) (by
      unfold fp
      rw [upd_at, N1, x1]
      unfold fp
      omega)
    rw [x2] at S1
    refine ⟨r1, r2, r3, ?_, ?_, ?_, ?_, r8, r9, r10, r11, S1, r13⟩
    · show (Walk_at W + 1).toInt = _
      have hr2 := i_r2 (Prog_size P)
      rw [i_add (a := Walk_at W) (b := 1) (by omega) (by have := St_adv r12 lt; omega), r4, k1]
      omega
    · show Walk_come W + 1 = Mo_looked s + 1
      rw [r5]
    · show 0 ≤ (Mo_looked s + 1).toInt
      rw [i_add (a := Mo_looked s) (b := 1) (by omega) (by omega), k1]
      omega
    · show (Mo_looked s + 1).toInt ≤ 2000
      rw [i_add (a := Mo_looked s) (b := 1) (by omega) (by omega), k1]
      omega
  · exact absurd x hn1
  · exact absurd x hn2
  · exact absurd x hn2
theorem s_el {c : Cst} {m n : Nat} {x2 : Int32} {W : S_Walk} {Fl : S_Fld} {L : S_Lps} {s : S_Mo} {rd : Nat → Int64} {li ne en be lf tu fo op ki co wd sca lk rp : Nat → Int32} {ba : Nat → Int64} {ea pa : Nat → Int32} {o a : Nat} {d : Int32} {w : A19} (ok : Cok c) (hx0 : 0 ≤ x2.toInt) (hx1 : x2.toInt ≤ (Walk_come W).toInt) (hm : 2003 ≤ (m : Int) + x2.toInt) (R : WB c.t c.P W Fl L s li ne en be lf tu op ki co wd sca lk rp ba ea pa o a) (hdk : Walk_dueKind W = (-1)) (hce : Walk_countedEnd W = (-1)) (hlk : (Mo_looked s).toInt < 2000) (hb : 0 ≤ (ne o).toInt ∧ (ne o).toInt < (en o).toInt ∧ (en o).toInt ≤ 24 ∧ 0 ≤ (li o).toInt ∧ (li o).toInt ≤ 16) (hd : d = Tab_listed c.t (fp li ne o)) (WIs : WI (Mo_set_looked s (Mo_looked s + 1))) (K : WK s c.z) (Aw : A_Mwidth wd) (h : Mod_walkOne c.fu c.th c.sc c.rf c.wi c.ls c.le c.va c.bi d (Mo_set_looked s (Mo_looked s + 1)) rd li (upd ne o (ne o + 1)) en be lf tu fo op ki co wd sca lk rp ba ea pa = some w) (hW : Wk c n w) (hk : 0 ≤ d.toInt ∧ d.toInt ≤ 63) (E : EOK c.th c.wi (Mo_used c.z) d op) : ∃ (W2 : S_Walk) (L2 : S_Lps), CN c.fu c.P d Fl (NW W) L = some (W2, L2) ∧ Adv c m (Fld_count Fl) (x2 + 1) W2 Fl L2 s rd := by
  have k1 : (1 : Int32).toInt = 1 := by decide
  have ok' := ok
  obtain ⟨hf, It_, IP, T, Iw, Is, Ils, Ile, Irf⟩ := ok'
  have hcm : Walk_come W = Mo_looked s := R.2.2.2.2.1
  have hl0 : 0 ≤ (Mo_looked s).toInt := R.2.2.2.2.2.1
  obtain ⟨f1, f2, f3, _⟩ := R.2.2.2.2.2.2.2.2.2.2.1
  have hx2 : x2.toInt < 2000 := by rw [hcm] at hx1; omega
  obtain ⟨m, rfl⟩ : ∃ m', m = m' + 3 := ⟨m - 3, by omega⟩
  have ex : (x2 + 1).toInt ≤ 2000 := by
    rw [i_add (a := x2) (b := 1) (by omega) (by omega), k1]
    omega
  have c0 : 0 ≤ (Fld_count Fl).toInt ∧ (Fld_count Fl).toInt ≤ 100 := by
    rw [f1]
    exact ⟨f2, f3⟩
  have k63 : (63 : Int32).toInt = 63 := by decide
  have k0 : (0 : Int32).toInt = 0 := by decide
  have km : ((-100) : Int32).toInt = -100 := by decide
  have c1 : ¬ (63 : Int32) < d := by rw [i_lt]; clear ex; omega
  have R1 := WB_next R hlk hb hd (by clear ex; omega) (by clear ex; omega)
  have om2 := R.2.2.2.2.2.2.2.1 2 (by decide)
  unfold Mod_walkOne at h
  rw [if_neg c1] at h
  obtain ⟨wq, ew, h⟩ := oi_bd h
  have h := (Option.some.inj h).symm
  subst h
  have hce' : Walk_countedEnd (NW W) = (-1) := hce
  obtain ⟨q1, hfo, hwe⟩ := we_inv ew
  obtain ⟨o1, o2, o3⟩ := om2
  rw [if_neg (show ¬ (2 : Nat) = 0 by decide), if_neg (show ¬ (2 : Nat) = 1 by decide)] at o3
  rcases hwe with ⟨h2, hj⟩ | ⟨h2, q, hq, hj⟩
  · have z2 : Walk_settings (NW W) 2 ≤ 0 := by
      show Walk_settings W 2 ≤ 0
      rw [i_eq, km] at h2
      rw [i_le, k0]
      clear ex
      omega
    have ce := ce_plain (d := d) hce'
    rw [if_pos z2] at ce
    refine ⟨Walk_set_dueKind (Walk_set_dueCode (NW W) d) 0, L, ?_, ?_⟩
    · rw [CN_el hf hk.1 hk.2, bd_s ce]
    · obtain ⟨W', Fl', e1, e2⟩ := el_field (c := c) (n := n) (W := Walk_set_dueKind (Walk_set_dueCode (NW W) d) 0) (Fl := Fl) (L := L) (fo := fo) ok R1 hce' WIs K Aw rfl hk.1 hk.2 E hfo hj hW
      refine Adv_KA (s' := Mo_set_looked s (Mo_looked s + 1)) ⟨rfl, rfl, rfl, rfl, rfl⟩ (Adv_gv (n := n) ex R.1 rfl c0.1 c0.2 rfl (Or.inl ⟨rfl, e1⟩) ?_)
      rcases e2 with e2 | ⟨e2, e3⟩
      · exact Or.inl e2
      · exact Or.inr ⟨e2, _, KA.refl _, e3⟩
  · have z2 : ¬ Walk_settings (NW W) 2 ≤ 0 := by
      show ¬ Walk_settings W 2 ≤ 0
      rw [i_eq, km] at h2
      rw [i_le, k0]
      clear ex
      omega
    have z3 : ¬ Walk_settings W 2 = 0 := fun e => z2 (by show Walk_settings W 2 ≤ 0; rw [e]; decide)
    have ce := ce_plain (d := d) hce'
    rw [if_neg z2] at ce
    refine ⟨Walk_set_dueKind (Walk_set_dueCode (NW W) d) 1, L, ?_, ?_⟩
    · rw [CN_el hf hk.1 hk.2, bd_s ce]
    · obtain ⟨W', Fl', e1, e2⟩ := ql_field (c := c) (n := n) (W := Walk_set_dueKind (Walk_set_dueCode (NW W) d) 1) (Fl := Fl) (L := L) (fo := fo) ok R1 hce' WIs K Aw z3 hk.1 hk.2 E hfo hq hj hW
      refine Adv_KA (s' := Mo_set_looked s (Mo_looked s + 1)) ⟨rfl, rfl, rfl, rfl, rfl⟩ (Adv_gv (n := n) ex R.1 rfl c0.1 c0.2 rfl (Or.inr (Or.inl ⟨rfl, e1⟩)) ?_)
      rcases e2 with e2 | ⟨e2, e3⟩
      · exact Or.inl e2
      · exact Or.inr ⟨e2, _, KA.refl _, e3⟩
theorem s_mk {c : Cst} {m n : Nat} {x2 : Int32} {W : S_Walk} {Fl : S_Fld} {L : S_Lps} {s : S_Mo} {rd : Nat → Int64} {li ne en be lf tu fo op ki co wd sca lk rp : Nat → Int32} {ba : Nat → Int64} {ea pa : Nat → Int32} {o a : Nat} {d : Int32} {w : A19} (ok : Cok c) (hx0 : 0 ≤ x2.toInt) (hx1 : x2.toInt ≤ (Walk_come W).toInt) (hm : 2003 ≤ (m : Int) + x2.toInt) (R : WB c.t c.P W Fl L s li ne en be lf tu op ki co wd sca lk rp ba ea pa o a) (hdk : Walk_dueKind W = (-1)) (hce : Walk_countedEnd W = (-1)) (hlk : (Mo_looked s).toInt < 2000) (hb : 0 ≤ (ne o).toInt ∧ (ne o).toInt < (en o).toInt ∧ (en o).toInt ≤ 24 ∧ 0 ≤ (li o).toInt ∧ (li o).toInt ≤ 16) (hd : d = Tab_listed c.t (fp li ne o)) (WIs : WI (Mo_set_looked s (Mo_looked s + 1))) (K : WK s c.z) (Aw : A_Mwidth wd) (h : Mod_walkOne c.fu c.th c.sc c.rf c.wi c.ls c.le c.va c.bi d (Mo_set_looked s (Mo_looked s + 1)) rd li (upd ne o (ne o + 1)) en be lf tu fo op ki co wd sca lk rp ba ea pa = some w) (hW : Wk c n w) (hk : d.toInt = 520) : ∃ (W2 : S_Walk) (L2 : S_Lps), CN c.fu c.P d Fl (NW W) L = some (W2, L2) ∧ Adv c m (Fld_count Fl) (x2 + 1) W2 Fl L2 s rd := by
  have k1 : (1 : Int32).toInt = 1 := by decide
  have ok' := ok
  obtain ⟨hf, It_, IP, T, Iw, Is, Ils, Ile, Irf⟩ := ok'
  have hcm : Walk_come W = Mo_looked s := R.2.2.2.2.1
  have hl0 : 0 ≤ (Mo_looked s).toInt := R.2.2.2.2.2.1
  obtain ⟨f1, f2, f3, _⟩ := R.2.2.2.2.2.2.2.2.2.2.1
  have hx2 : x2.toInt < 2000 := by rw [hcm] at hx1; omega
  obtain ⟨m, rfl⟩ : ∃ m', m = m' + 3 := ⟨m - 3, by omega⟩
  have ex : (x2 + 1).toInt ≤ 2000 := by
    rw [i_add (a := x2) (b := 1) (by omega) (by omega), k1]
    omega
  have c0 : 0 ≤ (Fld_count Fl).toInt ∧ (Fld_count Fl).toInt ≤ 100 := by
    rw [f1]
    exact ⟨f2, f3⟩
  have k63 : (63 : Int32).toInt = 63 := by decide
  have k115 : (115 : Int32).toInt = 115 := by decide
  have k516 : (516 : Int32).toInt = 516 := by decide
  have k0 : (0 : Int32).toInt = 0 := by decide
  have c1 : (63 : Int32) < d := by rw [i_lt]; clear ex; omega
  have c2 : (115 : Int32) < d := by rw [i_lt]; clear ex; omega
  have c3 : (516 : Int32) < d := by rw [i_lt]; clear ex; omega
  have R1 := WB_next R hlk hb hd (by clear ex; omega) (by clear ex; omega)
  obtain ⟨q3, e3, h3⟩ := t_Mod_isRepeat (a0 := d)
  have z3 : q3 = 0 := i_eq.mpr (by clear ex; omega)
  obtain ⟨q4, e4, h4⟩ := t_Mod_operator (a0 := d)
  have z4 : q4 < 0 := by rw [i_lt]; clear ex; omega
  unfold Mod_walkOne at h
  rw [if_pos c1, if_pos c2, bd_s e3, if_pos z3, bd_s e4, if_pos z4, if_pos c3] at h
  obtain ⟨wq, ew, h⟩ := oi_bd h
  have h := (Option.some.inj h).symm
  subst h
  have hce' : Walk_countedEnd (NW W) = (-1) := hce
  refine ⟨Walk_set_dueKind (NW W) 4, L, CN_mark hf hk, ?_⟩
  obtain ⟨W', Fl', e1, e2⟩ := mk_field (c := c) (n := n) (W := Walk_set_dueKind (NW W) 4) (Fl := Fl) (L := L) (fo := fo) ok R1 hce' WIs K Aw ew hW
  exact Adv_KA (s' := Mo_set_looked s (Mo_looked s + 1)) ⟨rfl, rfl, rfl, rfl, rfl⟩ (Adv_gv (n := n) ex R.1 rfl c0.1 c0.2 rfl (Or.inr (Or.inr (Or.inr (Or.inr ⟨rfl, e1⟩)))) e2)
theorem s_bt {c : Cst} {m n : Nat} {x2 : Int32} {W : S_Walk} {Fl : S_Fld} {L : S_Lps} {s : S_Mo} {rd : Nat → Int64} {li ne en be lf tu fo op ki co wd sca lk rp : Nat → Int32} {ba : Nat → Int64} {ea pa : Nat → Int32} {o a : Nat} {d : Int32} {w : A19} (ok : Cok c) (hx0 : 0 ≤ x2.toInt) (hx1 : x2.toInt ≤ (Walk_come W).toInt) (hm : 2003 ≤ (m : Int) + x2.toInt) (R : WB c.t c.P W Fl L s li ne en be lf tu op ki co wd sca lk rp ba ea pa o a) (hdk : Walk_dueKind W = (-1)) (hce : Walk_countedEnd W = (-1)) (hlk : (Mo_looked s).toInt < 2000) (hb : 0 ≤ (ne o).toInt ∧ (ne o).toInt < (en o).toInt ∧ (en o).toInt ≤ 24 ∧ 0 ≤ (li o).toInt ∧ (li o).toInt ≤ 16) (hd : d = Tab_listed c.t (fp li ne o)) (WIs : WI (Mo_set_looked s (Mo_looked s + 1))) (K : WK s c.z) (Aw : A_Mwidth wd) (h : Mod_walkOne c.fu c.th c.sc c.rf c.wi c.ls c.le c.va c.bi d (Mo_set_looked s (Mo_looked s + 1)) rd li (upd ne o (ne o + 1)) en be lf tu fo op ki co wd sca lk rp ba ea pa = some w) (hW : Wk c n w) (hk : 501 ≤ d.toInt ∧ d.toInt ≤ 516) : ∃ (W2 : S_Walk) (L2 : S_Lps), CN c.fu c.P d Fl (NW W) L = some (W2, L2) ∧ Adv c m (Fld_count Fl) (x2 + 1) W2 Fl L2 s rd := by
  have k1 : (1 : Int32).toInt = 1 := by decide
  have ok' := ok
  obtain ⟨hf, It_, IP, T, Iw, Is, Ils, Ile, Irf⟩ := ok'
  have hcm : Walk_come W = Mo_looked s := R.2.2.2.2.1
  have hl0 : 0 ≤ (Mo_looked s).toInt := R.2.2.2.2.2.1
  obtain ⟨f1, f2, f3, _⟩ := R.2.2.2.2.2.2.2.2.2.2.1
  have hx2 : x2.toInt < 2000 := by rw [hcm] at hx1; omega
  obtain ⟨m, rfl⟩ : ∃ m', m = m' + 3 := ⟨m - 3, by omega⟩
  have ex : (x2 + 1).toInt ≤ 2000 := by
    rw [i_add (a := x2) (b := 1) (by omega) (by omega), k1]
    omega
  have c0 : 0 ≤ (Fld_count Fl).toInt ∧ (Fld_count Fl).toInt ≤ 100 := by
    rw [f1]
    exact ⟨f2, f3⟩
  have k63 : (63 : Int32).toInt = 63 := by decide
  have k115 : (115 : Int32).toInt = 115 := by decide
  have k500 : (500 : Int32).toInt = 500 := by decide
  have k516 : (516 : Int32).toInt = 516 := by decide
  have k0 : (0 : Int32).toInt = 0 := by decide
  have c1 : (63 : Int32) < d := by rw [i_lt]; clear ex; omega
  have c2 : (115 : Int32) < d := by rw [i_lt]; clear ex; omega
  have c3 : ¬ (516 : Int32) < d := by rw [i_lt]; clear ex; omega
  have R1 := WB_next R hlk hb hd (by clear ex; omega) (by clear ex; omega)
  obtain ⟨q3, e3, h3⟩ := t_Mod_isRepeat (a0 := d)
  have z3 : q3 = 0 := i_eq.mpr (by clear ex; omega)
  obtain ⟨q4, e4, h4⟩ := t_Mod_operator (a0 := d)
  have z4 : q4 < 0 := by rw [i_lt]; clear ex; omega
  unfold Mod_walkOne at h
  rw [if_pos c1, if_pos c2, bd_s e3, if_pos z3, bd_s e4, if_pos z4, if_neg c3] at h
  obtain ⟨wq, ew, h⟩ := oi_bd h
  have h := (Option.some.inj h).symm
  subst h
  have hce' : Walk_countedEnd (NW W) = (-1) := hce
  obtain ⟨q, hq, hcn⟩ := CN_bits (P := c.P) (Fl := Fl) (W := NW W) (L := L) hf hk.1 hk.2
  have ed : (d - 500).toInt = d.toInt - 500 := by
    clear ex
    rw [i_sub (a := d) (b := 500) (by omega) (by omega), k500]
  have eq : d - 500 = q := i_eq.mpr (by rw [ed, hq])
  clear ed
  rw [eq] at ew
  have eel : Walk_elementCount (NW W) = Mo_elements (Mo_set_looked s (Mo_looked s + 1)) := R1.2.2.2.2.2.2.2.2.1.1
  rcases wbits_inv ew with ⟨b1, b2⟩ | ⟨b1, b2, b3, b4⟩
  · have cb := cb_ok (Fl := Fl) (q := q) (W := NW W) (by rw [eel]; exact b1)
    rw [bd_s cb] at hcn
    refine ⟨_, L, hcn, ?_⟩
    obtain ⟨w1, w2, w3, w4, w5, w6, w7⟩ := WIs
    have WI2 : WI (Mo_set_pointer (Mo_set_pointed (Mo_set_looked s (Mo_looked s + 1)) 0) 0) := ⟨I_Mo_set_pointer (I_Mo_set_pointed w1 ⟨by decide, by decide⟩) ⟨by decide, by decide⟩, w2, w3, w4, w5, w6, by show (0 : Int32).toInt ≤ (0 : Int32).toInt; decide⟩
    have R2 : WB c.t c.P (Walk_set_dueBits (Walk_set_dueKind (Walk_set_nextPointed (Walk_set_pointedCount (NW W) 0) 0) 3) q) Fl L (Mo_set_pointer (Mo_set_pointed (Mo_set_looked s (Mo_looked s + 1)) 0) 0) li (upd ne o (ne o + 1)) en be lf tu op ki co wd sca lk rp ba ea pa o (a + 1) := by
      obtain ⟨r1, r2, r3, r4, r5, r6, r7, r8, r9, r10, r11, r12, r13⟩ := R1
      refine ⟨r1, r2, r3, r4, r5, r6, r7, r8, r9, ⟨rfl, ?_, ?_, rfl, ?_, ?_, fun i hi => ?_⟩, r11, r12, r13⟩
      · show 0 ≤ (0 : Int32).toInt
        decide
      · show (0 : Int32).toInt ≤ 16
        decide
      · show 0 ≤ (0 : Int32).toInt
        decide
      · show (0 : Int32).toInt ≤ (0 : Int32).toInt
        decide
      · have hi : (i : Int) < (0 : Int32).toInt := hi
        rw [k0] at hi
        clear ex
        omega
    have b1' : q.toInt ≤ (Mo_elements s).toInt := by
      rw [i_le] at b1
      exact b1
    obtain ⟨W', Fl', e1, e2⟩ := bt_field (c := c) (n := n) (x1 := q) (x2 := 0) (fo := fo) ok R2 hce' WI2 K Aw (by
      show q = q - 0
      refine i_eq.mpr ?_
      clear ex
      rw [i_sub (a := q) (b := 0) (by omega) (by omega), k0]
      omega) (by decide) (by rw [k0]; clear ex; omega) (by clear ex; omega) b1' (by show (0 : Int32).toInt ≤ (0 : Int32).toInt; decide) b2 hW
    refine Adv_KA (s' := Mo_set_pointer (Mo_set_pointed (Mo_set_looked s (Mo_looked s + 1)) 0) 0) ⟨rfl, rfl, rfl, rfl, rfl⟩ (Adv_gv (n := n) ex R.1 rfl c0.1 c0.2 rfl (Or.inr (Or.inr (Or.inr (Or.inl ⟨rfl, e1⟩)))) ?_)
    rcases e2 with e2 | ⟨e2, e3⟩
    · exact Or.inl e2
    · exact Or.inr ⟨e2, _, KA.refl _, e3⟩
  · obtain ⟨W', x1, y2⟩ := cb_f (Fl := Fl) (q := q) (W := NW W) (by rw [eel]; exact b1)
    rw [bd_s x1] at hcn
    refine ⟨W', L, hcn, ?_⟩
    obtain ⟨v1, v2⟩ := wq
    have b4 : v2 = _ := b4
    subst b4
    have e := run_f b2 hW.2
    refine Adv_f y2 (by rw [e]; exact b2) ?_
    unfold FdE
    rw [e]
    have b3 : Mo_fields v1 = Mo_fields s := b3
    obtain ⟨f1, f2, f3, f4⟩ := R.2.2.2.2.2.2.2.2.2.2.1
    show FdR Fl v1 ki co wd sca lk rp ba
    unfold FdR
    rw [b3]
    exact ⟨f1, f2, f3, f4⟩

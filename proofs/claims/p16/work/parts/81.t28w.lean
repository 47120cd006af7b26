-- the walk: descriptors that give no field
theorem cs_len {fu : Nat} {th sc wi ls le : Nat → Int32} {used : Int32} {o : Nat} {li ne en be fo op : Nat → Int32} (h : CS fu th sc wi ls le used (o + 1) li ne en be fo op) : (en o).toInt ≤ (le (li o).toNatClampNeg).toInt := by
  obtain ⟨n, s, a1, a2, a3, a4, a5, a6, a7, a8, r, c1, c2, c3, c4, c5, c6, c7, c8, c9, d1, d2, d3, d4, d5⟩ := h
  obtain ⟨p1, p2, p3, p4⟩ := d1 o (by omega)
  obtain ⟨f1, f2, f3, f4, f5, f6, f7, f8⟩ := c9 o (by omega)
  rw [p1, p3]
  exact f4
theorem d_same {o : Nat} {t : S_Tab} {u : Int32} {th sc rf wi ls le li ne en : Nat → Int32} (T : TbR t u th sc rf wi ls le) (h0 : 0 ≤ (ne o).toInt) (h1 : (ne o).toInt < (en o).toInt) (h2 : (en o).toInt ≤ (le (li o).toNatClampNeg).toInt) (h24 : (en o).toInt ≤ 24) (h3 : 0 ≤ (li o).toInt) (h4 : (li o).toInt ≤ 16) : ls (24 * li o + (ne o + 1) - 1).toNatClampNeg = Tab_listed t (fp li ne o) ∧ KDi (ls (24 * li o + (ne o + 1) - 1).toNatClampNeg).toInt := by
  have k1 : (1 : Int32).toInt = 1 := by decide
  have nli := i_nat h3
  have nne := i_nat h0
  have N1 : (ne o + 1).toInt = (ne o).toInt + 1 := by
    rw [i_add (a := ne o) (b := 1) (by omega) (by omega), k1]
  have m1 := i_mull 24 (li o) 24 (by decide) (by omega) (by omega)
  have m2 : (24 * li o + (ne o + 1)).toInt = 24 * (li o).toInt + ((ne o).toInt + 1) := by
    rw [i_add (a := 24 * li o) (b := ne o + 1) (by rw [m1, N1]; clear m1 N1; omega) (by rw [m1, N1]; clear m1 N1; omega), m1, N1]
  have m3 : (24 * li o + (ne o + 1) - 1).toInt = 24 * (li o).toInt + (ne o).toInt := by
    rw [i_sub (a := 24 * li o + (ne o + 1)) (b := 1) (by rw [m2]; clear m1 m2 N1; omega) (by rw [m2]; clear m1 m2 N1; omega), m2, k1]
    clear m1 m2 N1
    omega
  have q1 := i_nat (a := 24 * li o + (ne o + 1) - 1) (by rw [m3]; clear m1 m2 m3 N1; omega)
  rw [m3] at q1
  have e : (24 * li o + (ne o + 1) - 1).toNatClampNeg = 24 * (li o).toNatClampNeg + (ne o).toNatClampNeg := by
    clear m1 m2 m3 N1
    omega
  rw [e]
  have g := T.2.2.2.2 (li o).toNatClampNeg (ne o).toNatClampNeg (by clear m1 m2 m3 N1; omega) (by clear m1 m2 m3 N1; omega)
  exact ⟨g.1.symm, g.2⟩
theorem St_adv {F : Nat → Int32} {Z : Nat → Nat} {D B : Nat → Int32} {sz : Nat} {li ne en be lf tu : Nat → Int32} {L : S_Lps} {o a : Nat} (H : St F Z D B sz li ne en be lf tu L o a) (h : fp li ne o < fp li en o) : a < sz := by
  cases o with
  | zero =>
    obtain ⟨⟨m, H1⟩, _, _⟩ := H
    rcases Sg_adv (It_adv _) m _ _ _ _ H1 with ⟨_, x, y⟩ | ⟨x, y⟩ <;> omega
  | succ o =>
    obtain ⟨_, E, ⟨m, H1⟩, _, H3⟩ := H
    have := (St_top o E H3).2
    rcases Sg_adv (It_adv _) m _ _ _ _ H1 with ⟨_, x, y⟩ | ⟨x, y⟩ <;> omega
theorem w_seq {fu o a : Nat} {t : S_Tab} {P : S_Prog} {W : S_Walk} {Fl : S_Fld} {L : S_Lps} {th sc rf wi ls le : Nat → Int32} {va : Nat → Int64} {bi : Nat → Int32} {s : S_Mo} {rd : Nat → Int64} {li ne en be lf tu fo op ki co wd sca lk rp : Nat → Int32} {ba : Nat → Int64} {ea pa : Nat → Int32} {d : Int32} {w : A19} (hf : 12000 ≤ fu) (I : I_Tab t) (T : ∀ j : Nat, Tab_sizes t j = le j) (R : WB t P W Fl L s li ne en be lf tu op ki co wd sca lk rp ba ea pa o a) (hlk : (Mo_looked s).toInt < 2000) (hb : 0 ≤ (ne o).toInt ∧ (ne o).toInt < (en o).toInt ∧ (en o).toInt ≤ 24 ∧ 0 ≤ (li o).toInt ∧ (li o).toInt ≤ 16) (hd : d = Tab_listed t (fp li ne o)) (hk : 100 ≤ d.toInt ∧ d.toInt ≤ 115) (h : Mod_walkOne fu th sc rf wi ls le va bi d (Mo_set_looked s (Mo_looked s + 1)) rd li (upd ne o (ne o + 1)) en be lf tu fo op ki co wd sca lk rp ba ea pa = some w) : w = (Mo_set_open (Mo_set_looked s (Mo_looked s + 1)) (Mo_open s + 1), rd, upd li (o + 1) (d - 100), upd (upd ne o (ne o + 1)) (o + 1) 0, upd en (o + 1) (le (d - 100).toNatClampNeg), upd be (o + 1) 0, upd lf (o + 1) 1, upd tu (o + 1) (-1), fo4 fo (o + 1) op, op, ki, co, wd, sca, lk, rp, ba, ea, pa) ∧ WB t P (NW W) Fl L (Mo_set_open (Mo_set_looked s (Mo_looked s + 1)) (Mo_open s + 1)) (upd li (o + 1) (d - 100)) (upd (upd ne o (ne o + 1)) (o + 1) 0) (upd en (o + 1) (le (d - 100).toNatClampNeg)) (upd be (o + 1) 0) (upd lf (o + 1) 1) (upd tu (o + 1) (-1)) op ki co wd sca lk rp ba ea pa (o + 1) (a + 1) := by
  have k0 : (0 : Int32).toInt = 0 := by decide
  have k1 : (1 : Int32).toInt = 1 := by decide
  have k63 : (63 : Int32).toInt = 63 := by decide
  have k100 : (100 : Int32).toInt = 100 := by decide
  have k115 : (115 : Int32).toInt = 115 := by decide
  obtain ⟨r1, r2, r3, r4, r5, r6, r7, r8, r9, r10, r11, r12, r13⟩ := R
  have t0 := St_t0 o a r12
  have c1 : (63 : Int32) < d := by rw [i_lt]; omega
  have c2 : ¬ (115 : Int32) < d := by rw [i_lt]; omega
  have ho : (Mo_open (Mo_set_looked s (Mo_looked s + 1))).toInt = ((o + 1 : Nat) : Int) := by
    show (Mo_open s).toInt = _
    omega
  have ee := enter_eq (fu := fu) (op := op) (li := li) (ne := upd ne o (ne o + 1)) (en := en) (be := be) (lf := lf) (tu := tu) (fo := fo) (a0 := d - 100) (a1 := 0) (a2 := le (d - 100).toNatClampNeg) (a3 := 1) (a4 := -1) hf ho (by omega)
  unfold Mod_walkOne at h
  rw [if_pos c1, if_neg c2] at h
  have h := oe_gd h
  rw [bd_s ee] at h
  have hw := (Option.some.inj h).symm
  refine ⟨hw, ?_⟩
  -- the lists
  have ed : (d - 100).toInt = d.toInt - 100 := by
    rw [i_sub (a := d) (b := 100) (by omega) (by omega), k100]
  have nd : (d - 100).toNatClampNeg = (d.toInt - 100).toNat := by
    have := i_nat (a := d - 100) (by rw [ed]; clear ed; omega)
    rw [ed] at this
    clear ed
    omega
  have nne := i_nat (a := ne o) hb.1
  have nen := i_nat (a := en o) (by clear ed; omega)
  have lt : fp li ne o < fp li en o := by
    unfold fp
    clear ed
    omega
  obtain ⟨p', b, hI, hp', hS⟩ := St_head r12 lt
  have e64 : 64 - o = 63 - o + 1 := by clear ed; omega
  rw [e64] at hI
  obtain ⟨i1, i2⟩ := hI
  rw [← hd] at i1 i2
  have N1 : (ne o + 1).toNatClampNeg = (ne o).toNatClampNeg + 1 := by
    have x : (ne o + 1).toInt = (ne o).toInt + 1 := by
      clear ed
      rw [i_add (a := ne o) (b := 1) (by omega) (by omega), k1]
    have := i_nat (a := ne o + 1) (by rw [x]; clear x ed; omega)
    rw [x] at this
    clear x ed
    omega
  have zl := zT_int I (d.toInt - 100).toNat
  rcases i2 with ⟨x, _⟩ | ⟨x, x1, x2, m, x3⟩ | ⟨x, _⟩ | ⟨x, _⟩
  · exact absurd hk x.1
  · have S1 := hS (upd ne o (ne o + 1)) (fun f hf' => upd_ne (by clear ed; omega)) (by
      unfold fp
      rw [upd_at, N1, x1]
      unfold fp
      clear ed
      omega)
    have fr0 : (0 : Int32).toNatClampNeg = 0 := by decide
    have nz : (le (d - 100).toNatClampNeg).toNatClampNeg = zT t (d.toInt - 100).toNat := by
      rw [nd, ← T]
      rfl
    have S2 := St_push (l := d - 100) (fr := 0) (to := le (d - 100).toNatClampNeg) (t := 1) (w := -1) (m := m) (a := a + 1) S1 t0.2 (by
      rw [nz, nd, fr0, Nat.add_zero]
      exact x3) (by
      rw [nz, fr0]
      clear ed
      omega) (fun _ _ => ⟨rfl, rfl, rfl, rfl⟩) (Or.inl ⟨by decide, by decide⟩)
    have rs : rn (upd tu (o + 1) (-1)) (o + 1 + 1) = rn tu (o + 1) := by
      rw [rn_s (by rw [upd_at]; decide)]
      exact rn_cong (o + 1) (fun j hj => upd_ne (by clear ed; omega))
    refine ⟨r1, r2, ?_, ?_, ?_, ?_, ?_, r8, r9, r10, r11, S2, by rw [rs]; exact r13⟩
    · show (Mo_open s + 1).toInt = _
      clear ed
      rw [i_add (a := Mo_open s) (b := 1) (by omega) (by omega), r3, k1]
      omega
    · show (Walk_at W + 1).toInt = _
      clear ed
      have hsz := (St_top o a r12).2
      have hr2 := i_r2 (Prog_size P)
      rw [i_add (a := Walk_at W) (b := 1) (by omega) (by have := (St_adv r12 lt); omega), r4, k1]
      omega
    · show Walk_come W + 1 = Mo_looked s + 1
      rw [r5]
    · show 0 ≤ (Mo_looked s + 1).toInt
      clear ed
      rw [i_add (a := Mo_looked s) (b := 1) (by omega) (by omega), k1]
      omega
    · show (Mo_looked s + 1).toInt ≤ 2000
      clear ed
      rw [i_add (a := Mo_looked s) (b := 1) (by omega) (by omega), k1]
      omega
  · clear ed
    omega
  · clear ed
    omega
theorem w_op {fu o a : Nat} {t : S_Tab} {P : S_Prog} {W : S_Walk} {Fl : S_Fld} {L : S_Lps} {th sc rf wi ls le : Nat → Int32} {va : Nat → Int64} {bi : Nat → Int32} {s : S_Mo} {rd : Nat → Int64} {li ne en be lf tu fo op ki co wd sca lk rp : Nat → Int32} {ba : Nat → Int64} {ea pa : Nat → Int32} {d : Int32} {w : A19} {k : Nat} {q q11 q4 : Int32} (hf : 12000 ≤ fu) (I : I_Tab t) (T : ∀ j : Nat, Tab_sizes t j = le j) (R : WB t P W Fl L s li ne en be lf tu op ki co wd sca lk rp ba ea pa o a) (hlk : (Mo_looked s).toInt < 2000) (hb : 0 ≤ (ne o).toInt ∧ (ne o).toInt < (en o).toInt ∧ (en o).toInt ≤ 24 ∧ 0 ≤ (li o).toInt ∧ (li o).toInt ≤ 16) (hd : d = Tab_listed t (fp li ne o)) (hk : k < 4) (hq : q.toInt = (k : Int)) (hr : 400 ≤ d.toInt ∧ d.toInt ≤ 487) (e1 : Mod_operator d = some q) (e2 : Mod_begins d = some q4) (ho : om k q11 q4) (h : Mod_walkOne fu th sc rf wi ls le va bi d (Mo_set_looked s (Mo_looked s + 1)) rd li (upd ne o (ne o + 1)) en be lf tu fo op ki co wd sca lk rp ba ea pa = some w) : w = (Mo_set_looked s (Mo_looked s + 1), rd, li, upd ne o (ne o + 1), en, be, lf, tu, fo, upd op k q4, ki, co, wd, sca, lk, rp, ba, ea, pa) ∧ WB t P (Walk_put_settings (NW W) k q11) Fl L (Mo_set_looked s (Mo_looked s + 1)) li (upd ne o (ne o + 1)) en be lf tu (upd op k q4) ki co wd sca lk rp ba ea pa o (a + 1) := by
  have k0 : (0 : Int32).toInt = 0 := by decide
  have k1 : (1 : Int32).toInt = 1 := by decide
  have k63 : (63 : Int32).toInt = 63 := by decide
  have k115 : (115 : Int32).toInt = 115 := by decide
  obtain ⟨r1, r2, r3, r4, r5, r6, r7, r8, r9, r10, r11, r12, r13⟩ := R
  have t0 := St_t0 o a r12
  have c1 : (63 : Int32) < d := by rw [i_lt]; omega
  have c2 : (115 : Int32) < d := by rw [i_lt]; omega
  obtain ⟨q3, e3, h3⟩ := t_Mod_isRepeat (a0 := d)
  have z3 : q3 = 0 := i_eq.mpr (by omega)
  have nq : ¬ q < 0 := by rw [i_lt]; omega
  have kq : q.toNatClampNeg = k := by
    have := i_nat (a := q) (by omega)
    omega
  unfold Mod_walkOne at h
  rw [if_pos c1, if_pos c2, bd_s e3, if_pos z3, bd_s e1, if_neg nq, bd_s e1, bd_s e2] at h
  have h := oe_gd h
  have h : some (Mo_set_looked s (Mo_looked s + 1), rd, li, upd ne o (ne o + 1), en, be, lf, tu, fo, upd op q.toNatClampNeg q4, ki, co, wd, sca, lk, rp, ba, ea, pa) = some w := h
  rw [kq] at h
  refine ⟨(Option.some.inj h).symm, ?_⟩
  have nne := i_nat (a := ne o) hb.1
  have nen := i_nat (a := en o) (by omega)
  have lt : fp li ne o < fp li en o := by
    unfold fp
    omega
  obtain ⟨p', b, hI, hp', hS⟩ := St_head r12 lt
  have e64 : 64 - o = 63 - o + 1 := by omega
  rw [e64] at hI
  obtain ⟨i1, i2⟩ := hI
  rw [← hd] at i1 i2
  have N1 : (ne o + 1).toNatClampNeg = (ne o).toNatClampNeg + 1 := by
    have x : (ne o + 1).toInt = (ne o).toInt + 1 := by
      rw [i_add (a := ne o) (b := 1) (by omega) (by omega), k1]
    have := i_nat (a := ne o + 1) (by rw [x]; clear x; omega)
    rw [x] at this
    clear x
    omega
  rcases i2 with ⟨x, x1, x2⟩ | ⟨x, _⟩ | ⟨x, _⟩ | ⟨x, _⟩
  · have S1 := hS (upd ne o (ne o + 1)) (fun f hf' => upd_ne (by omega)) (by
      unfold fp
      rw [upd_at, N1, x1]
      unfold fp
      omega)
    rw [x2] at S1
    refine ⟨r1, r2, r3, ?_, ?_, ?_, ?_, fun j hj => ?_, r9, r10, r11, S1, r13⟩
    · show (Walk_at W + 1).toInt = _
      have hr2 := i_r2 (Prog_size P)
      rw [i_add (a := Walk_at W) (b := 1) (by omega) (by have := St_adv r12 lt; omega), r4, k1]
      omega
    · show Walk_come W + 1 = Mo_looked s + 1
      rw [r5]
    · show 0 ≤ (Mo_looked s + 1).toInt
      rw [i_add (a := Mo_looked s) (b := 1) (by omega) (by omega), k1]
      omega
    · show (Mo_looked s + 1).toInt ≤ 2000
      rw [i_add (a := Mo_looked s) (b := 1) (by omega) (by omega), k1]
      omega
    · show om j (upd (Walk_settings W) k q11 j) (upd op k q4 j)
      by_cases ej : j = k
      · rw [ej, upd_at, upd_at]
        exact ho
      · rw [upd_ne ej, upd_ne ej]
        exact r8 j hj
  · omega
  · omega
  · omega

-- REPEAT with a count: the class comes twice
set_option maxHeartbeats 4000000 in
theorem s_ct {c : Cst} {m n : Nat} {x2 : Int32} {W : S_Walk} {Fl : S_Fld} {L : S_Lps} {s : S_Mo} {rd : Nat → Int64} {li ne en be lf tu fo op ki co wd sca lk rp : Nat → Int32} {ba : Nat → Int64} {ea pa : Nat → Int32} {o a : Nat} {d : Int32} {w : A19} (ok : Cok c) (hx0 : 0 ≤ x2.toInt) (hx1 : x2.toInt ≤ (Walk_come W).toInt) (hm : 2003 ≤ (m : Int) + x2.toInt) (R : WB c.t c.P W Fl L s li ne en be lf tu op ki co wd sca lk rp ba ea pa o a) (hdk : Walk_dueKind W = (-1)) (hce : Walk_countedEnd W = (-1)) (hlk : (Mo_looked s).toInt < 2000) (hb : 0 ≤ (ne o).toInt ∧ (ne o).toInt < (en o).toInt ∧ (en o).toInt ≤ 24 ∧ 0 ≤ (li o).toInt ∧ (li o).toInt ≤ 16) (hd : d = Tab_listed c.t (fp li ne o)) (WIs : WI (Mo_set_looked s (Mo_looked s + 1))) (K : WK s c.z) (Aw : A_Mwidth wd) (h : Mod_walkOne c.fu c.th c.sc c.rf c.wi c.ls c.le c.va c.bi d (Mo_set_looked s (Mo_looked s + 1)) rd li (upd ne o (ne o + 1)) en be lf tu fo op ki co wd sca lk rp ba ea pa = some w) (hW : Wk c n w) (hsz : (Prog_size c.P).toInt ≤ 1000) (hle : (en o).toInt ≤ (c.le (li o).toNatClampNeg).toInt) (hC : StepC c.fu c.th c.sc c.wi c.ls c.le (Mo_used c.z) o d li (upd ne o (ne o + 1)) en be fo op) (hk : 216 ≤ d.toInt ∧ d.toInt ≤ 343) (hmm : (d.toInt - 200) % 16 = 0) : ∃ (W2 : S_Walk) (L2 : S_Lps), CN c.fu c.P d Fl (NW W) L = some (W2, L2) ∧ Adv c m (Fld_count Fl) (x2 + 1) W2 Fl L2 s rd := by
  have k1 : (1 : Int32).toInt = 1 := by decide
  have ok' := ok
  obtain ⟨hf, It_, IP, T, Iw, Is, Ils, Ile, Irf⟩ := ok'
  have hcm : Walk_come W = Mo_looked s := R.2.2.2.2.1
  have hl0 : 0 ≤ (Mo_looked s).toInt := R.2.2.2.2.2.1
  obtain ⟨f1, f2, f3, _⟩ := R.2.2.2.2.2.2.2.2.2.2.1
  have hx2 : x2.toInt < 2000 := by rw [hcm] at hx1; omega
  obtain ⟨m, rfl⟩ : ∃ m', m = m' + 3 := ⟨m - 3, by omega⟩
  have ex : (x2 + 1).toInt ≤ 2000 := by
    rw [i_add (a := x2) (b := 1) (by omega) (by omega), k1]
    omega
  have c0 : 0 ≤ (Fld_count Fl).toInt ∧ (Fld_count Fl).toInt ≤ 100 := by
    rw [f1]
    exact ⟨f2, f3⟩
  have k0 : (0 : Int32).toInt = 0 := by decide
  have km : ((-1) : Int32).toInt = -1 := by decide
  have kt : (2000 : Int32).toInt = 2000 := by decide
  obtain ⟨r1, r2, r3, r4, r5, r6, r7, r8, r9, r10, r11, r12, r13⟩ := R
  have t0 := St_t0 o a r12
  have lx := len_x hk.1 hk.2
  obtain ⟨len, hlen⟩ : ∃ len : Int32, len = (d - 200) / 16 := ⟨_, rfl⟩
  obtain ⟨tm, htm⟩ : ∃ tm : Int32, tm = (d - 200) - (d - 200) / 16 * 16 := ⟨_, rfl⟩
  have lx1 : len.toInt = (d.toInt - 200) / 16 := by rw [hlen]; exact lx.1
  have lx2 : tm.toInt = 0 := by rw [htm, lx.2]; exact hmm
  clear lx
  -- what the compiling has seen
  obtain ⟨g1, g2, g3⟩ : (ne o).toInt + 2 + len.toInt ≤ (en o).toInt ∧ (c.ls (24 * li o + (ne o + 1)).toNatClampNeg).toInt ≤ 63 ∧ 0 ≤ fv c.th (Mo_used c.z) (c.ls (24 * li o + (ne o + 1)).toNatClampNeg) := by
    have N1 : (ne o + 1).toInt = (ne o).toInt + 1 := by
      clear ex
      rw [i_add (a := ne o) (b := 1) (by omega) (by omega), k1]
    rcases hC with y | y | y | y | y
    · clear ex N1
      omega
    · clear ex N1
      omega
    · obtain ⟨_, _, fr, to, y1, y2, y3, _⟩ := y
      rw [upd_at] at y3
      rcases y3 with y3 | ⟨_, y4, y5, y6⟩
      · exact absurd hmm y3.1
      · rw [N1] at y4
        clear ex N1
        exact ⟨by omega, y5, y6⟩
    · clear ex N1
      omega
    · clear ex N1
      omega
  clear hC
  have no : (Mo_open s - 1).toNatClampNeg = o := by
    have x : (Mo_open s - 1).toInt = (o : Int) := by
      clear ex
      rw [i_sub (a := Mo_open s) (b := 1) (by omega) (by omega), r3, k1]
      omega
    have := i_nat (a := Mo_open s - 1) (by rw [x]; clear x ex; omega)
    rw [x] at this
    clear x ex
    omega
  obtain ⟨fr, hfr⟩ : ∃ fr, fr = ne o + 1 + 1 := ⟨_, rfl⟩
  obtain ⟨to, hto⟩ : ∃ to, to = fr + len := ⟨_, rfl⟩
  have F1 : fr.toInt = (ne o).toInt + 2 := by
    clear ex
    have N1 : (ne o + 1).toInt = (ne o).toInt + 1 := by
      rw [i_add (a := ne o) (b := 1) (by omega) (by omega), k1]
    rw [hfr, i_add (a := ne o + 1) (b := 1) (by rw [N1]; clear N1; omega) (by rw [N1]; clear N1; omega), N1, k1]
    clear N1
    omega
  have F2 : to.toInt = fr.toInt + len.toInt := by
    clear ex
    rw [hto, i_add (a := fr) (b := len) (by omega) (by omega)]
  have nfr := i_nat (a := fr) (by clear ex; omega)
  have nto := i_nat (a := to) (by clear ex; omega)
  have nne := i_nat (a := ne o) hb.1
  have nen := i_nat (a := en o) (by clear ex; omega)
  have lt : fp li ne o < fp li en o := by
    unfold fp
    clear ex
    omega
  have asz := St_adv r12 lt
  obtain ⟨p', b, hI, hp', hS⟩ := St_head r12 lt
  have e64 : 64 - o = 63 - o + 1 := by clear ex; omega
  rw [e64] at hI
  obtain ⟨i1, i2⟩ := hI
  rw [← hd] at i1 i2
  have Ap : (Walk_at W + 1).toInt = (a : Int) + 1 := by
    clear ex
    rw [i_add (a := Walk_at W) (b := 1) (by omega) (by omega), r4, k1]
  have Ap2 : (Walk_at W + 1 + 1).toInt = (a : Int) + 2 := by
    clear ex
    rw [i_add (a := Walk_at W + 1) (b := 1) (by rw [Ap]; clear Ap; omega) (by rw [Ap]; clear Ap; omega), Ap, k1]
    clear Ap
    omega
  have Am : Walk_at (NW W) - 1 = Walk_at W := i_eq.mpr (by
    show (Walk_at W + 1 - 1).toInt = _
    clear Ap2 ex
    rw [i_sub (a := Walk_at W + 1) (b := 1) (by rw [Ap]; clear Ap; omega) (by rw [Ap]; clear Ap; omega), Ap, k1, r4]
    clear Ap
    omega)
  have nA : (Walk_at W).toNatClampNeg = a := by
    clear Ap Ap2 ex
    have := i_nat (a := Walk_at W) (by omega)
    omega
  have nA1 : (Walk_at W + 1).toNatClampNeg = a + 1 := by
    clear Ap2 ex
    have := i_nat (a := Walk_at W + 1) (by rw [Ap]; clear Ap; omega)
    rw [Ap] at this
    clear Ap
    omega
  have gA : o_in (Walk_at (NW W) - 1) 1000 = true := by
    rw [Am]
    exact i_in.mpr (by clear Ap Ap2 ex; omega)
  rcases i2 with ⟨x, _⟩ | ⟨x, _⟩ | ⟨x, y1, _⟩ | ⟨x, y1, y2, y3, y4, y5, mm, y6⟩
  · exact absurd hk x.2
  · clear Ap Ap2 ex
    omega
  · exact absurd hmm y1
  · have len8 : to.toNatClampNeg - fr.toNatClampNeg = ((d.toInt - 200) / 16).toNat := by clear Ap Ap2 ex; omega
    have ab : a + 2 < b := by
      clear Ap Ap2 ex
      rcases Sg_adv (It_adv _) mm _ _ _ _ y6 with ⟨_, z, _⟩ | ⟨_, z⟩ <;> omega
    have Sb := hS (upd ne o to) (fun f hf' => upd_ne (by clear Ap Ap2 ex; omega)) (by
      unfold fp
      rw [upd_at, y2]
      unfold fp
      clear Ap Ap2 ex
      omega)
    have bsz := (St_top o b Sb).2
    have tp : tm ≤ 0 := by rw [i_le, lx2, k0]; exact Int.le_refl _
    have cr := cr_count (e := Prog_bodyEnds c.P a) (W := NW W) (L := L) tp
    refine ⟨Walk_set_countedEnd (NW W) (Prog_bodyEnds c.P a), L, ?_, ?_⟩
    · rw [CN_rep hf hk.1 hk.2 gA, ← htm, Am, nA, bd_s cr]
    · have hon : Lps_onFrom c.fu (Walk_at W + 1) L = some (Walk_at W + 1, L) := on_stay (a := a + 1) hf (by rw [Ap]; rfl) (by clear Ap Ap2 ex; omega) Sb r13
      have hy : Walk_at W + 1 < Prog_size c.P := by
        rw [i_lt, Ap]
        clear Ap Ap2 ex
        omega
      obtain ⟨k, s1, e1, hct⟩ := ct_inv (s := Mo_set_looked s (Mo_looked s + 1)) hk hmm no h
      have El : (Mo_looked s + 1).toInt = (Mo_looked s).toInt + 1 := by
        clear Ap Ap2 ex
        rw [i_add (a := Mo_looked s) (b := 1) (by omega) (by omega), k1]
      have El2 : (Mo_looked s + 1 + 1).toInt = (Mo_looked s).toInt + 2 := by
        clear Ap Ap2 ex
        rw [i_add (a := Mo_looked s + 1) (b := 1) (by rw [El]; clear El; omega) (by rw [El]; clear El; omega), El, k1]
        clear El
        omega
      by_cases cl : (Mo_looked s).toInt < 1999
      · -- the count's element comes
        have cx := comes_x (s := Mo_set_looked s (Mo_looked s + 1)) (by show 0 ≤ (Mo_looked s + 1).toInt; rw [El]; clear El El2 Ap Ap2 ex; omega) (by show (Mo_looked s + 1).toInt < 2000; rw [El]; clear El El2 Ap Ap2 ex; omega)
        rw [cx] at e1
        cases e1
        rcases hct with ⟨z, _⟩ | ⟨_, q16, q, hfo, hq, hj⟩
        · exact absurd z (by decide)
        · rw [upd_at] at hfo hq
          have hc2 : Walk_come W + 1 + 1 ≤ 2000 := by
            rw [i_le, r5, El2, kt]
            clear El El2 Ap Ap2 ex
            omega
          have cn := cn_eq (fu := c.fu) (P := c.P) (Fl := Fl) (W := Walk_set_at (Walk_set_countedEnd (NW W) (Prog_bodyEnds c.P a)) (Walk_at W + 1)) (L := L) (by show o_in (Walk_at W + 1) 1000 = true; exact i_in.mpr (by rw [Ap]; clear El El2 Ap Ap2 ex; omega)) hc2
          have cn : Walk_comeToNext c.fu c.P Fl (Walk_set_at (Walk_set_countedEnd (NW W) (Prog_bodyEnds c.P a)) (Walk_at W + 1)) L = CN c.fu c.P (Prog_descriptors c.P (Walk_at W + 1).toNatClampNeg) Fl (NW (Walk_set_at (Walk_set_countedEnd (NW W) (Prog_bodyEnds c.P a)) (Walk_at W + 1))) L := cn
          have dn := d_next (x := ne o + 1) (li := li) (ne := ne) T hb.1 (by clear El El2 Ap Ap2 ex; rw [i_add (a := ne o) (b := 1) (by omega) (by omega), k1]) (by
            have N1 : (ne o + 1).toInt = (ne o).toInt + 1 := by
              clear El El2 Ap Ap2 ex
              rw [i_add (a := ne o) (b := 1) (by omega) (by omega), k1]
            rw [N1]
            clear N1 El El2 Ap Ap2 ex
            omega) (by
            have N1 : (ne o + 1).toInt = (ne o).toInt + 1 := by
              clear El El2 Ap Ap2 ex
              rw [i_add (a := ne o) (b := 1) (by omega) (by omega), k1]
            rw [N1]
            clear N1 El El2 Ap Ap2 ex
            omega) hb.2.2.2.1 hb.2.2.2.2
          obtain ⟨d2, hd2⟩ : ∃ d2, d2 = c.ls (24 * li o + (ne o + 1)).toNatClampNeg := ⟨_, rfl⟩
          rw [← hd2] at hfo hq dn g2 g3
          rw [nA1, y4, ← dn.1] at cn
          have d0 : 0 ≤ d2.toInt ∧ d2.toInt ≤ 63 := by rw [dn.1]; exact y3
          have ncE : ¬ Walk_countedEnd (NW (Walk_set_at (Walk_set_countedEnd (NW W) (Prog_bodyEnds c.P a)) (Walk_at W + 1))) = (-1) := by
            show ¬ Prog_bodyEnds c.P a = (-1)
            rw [i_eq, y5, km]
            clear El El2 Ap Ap2 ex
            omega
          rw [CN_el hf d0.1 d0.2, bd_s (ce_count (d := d2) ncE)] at cn
          have hu : Mo_used s = Mo_used c.z := K.1.1
          have hu2 : Tab_versionInUse c.t = Mo_used s := T.2.2.1.trans hu.symm
          have WI2 : WI (Mo_set_looked (Mo_set_looked s (Mo_looked s + 1)) (Mo_looked s + 1 + 1)) := ⟨I_Mo_set_looked WIs.1, WIs.2⟩
          obtain ⟨r, fx, fm, f0, f1', f2', ft⟩ := c_force (fu := c.fu) (t := c.t) (s := Mo_set_looked (Mo_set_looked s (Mo_looked s + 1)) (Mo_looked s + 1 + 1)) (c := d2) hf It_ WI2.1 T.1 hu2 d0.1 (by clear El El2 Ap Ap2 ex; omega)
          have er : q16 = r := Option.some.inj (hfo.symm.trans fm)
          subst er
          have f2' : q16.toInt = fv c.th (Mo_used s) d2 := f2'
          rw [hu] at f2'
          have r0 : 0 ≤ q16.toInt := by rw [f2']; exact g3
          obtain ⟨w1, w2, w3⟩ := T.2.1 q16.toNatClampNeg (ft r0)
          have hw1 : 1 ≤ (c.wi q16.toNatClampNeg).toInt := by
            have nz : ¬ Tab_widths c.t q16.toNatClampNeg = 0 := fun e => (ft r0) ((T.1 _).1 e)
            rw [w1, i_eq, k0] at nz
            have := A_Mwidths_at Iw q16.toNatClampNeg
            clear El El2 Ap Ap2 ex
            omega
          have gx : (x2 + 1 + 1).toInt ≤ 2000 := by
            rw [r5] at hx1
            have X1 : (x2 + 1).toInt = x2.toInt + 1 := by
              clear El El2 Ap Ap2 ex
              rw [i_add (a := x2) (b := 1) (by omega) (by omega), k1]
            clear El El2 Ap Ap2 ex
            rw [i_add (a := x2 + 1) (b := 1) (by rw [X1]; clear X1; omega) (by rw [X1]; clear X1; omega), X1, k1]
            clear X1
            omega
          obtain ⟨W', Fl', e1, e2⟩ := ct_field (c := c) (n := n) (W := Walk_set_dueKind (Walk_set_dueCode (NW (Walk_set_at (Walk_set_countedEnd (NW W) (Prog_bodyEnds c.P a)) (Walk_at W + 1))) d2) 2) (Fl := Fl) (L := L) (s := Mo_set_looked (Mo_set_looked s (Mo_looked s + 1)) (Mo_looked s + 1 + 1)) (ne := ne) (ne2 := upd (upd ne o (ne o + 1)) o (upd ne o (ne o + 1) o + 1)) (a := a + 2) (a0 := a) (b := b) (m := mm) (q16 := q16) (len := len) (fr := fr) (to := to) (x2 := Mo_open s - 1) (fo := fo) ok r1 r2 r3 (by show (Walk_at W + 1 + 1).toInt = _; rw [Ap2]; rfl) (by show Walk_come W + 1 + 1 = Mo_looked s + 1 + 1; rw [r5]) (by show 0 ≤ (Mo_looked s + 1 + 1).toInt; rw [El2]; clear El El2 Ap Ap2 ex gx; omega) (by show (Mo_looked s + 1 + 1).toInt ≤ 2000; rw [El2]; clear El El2 Ap Ap2 ex gx; omega) r8 r9 r10 r11 r12 r13 (fun ne' h1 h2 => hS ne' h1 (by rw [h2, len8, y2])) (by rw [len8, ← y2]; exact y6) (by clear El El2 Ap Ap2 ex gx; omega) (by clear El El2 Ap Ap2 ex gx; omega) (fun f hf' => by
            have nf : f ≠ o := by clear El El2 Ap Ap2 ex gx; omega
            rw [upd_ne nf, upd_ne nf]) (by rw [upd_at, upd_at, hfr]) hto.symm y5 rfl fx ⟨r0, f1'⟩ w1 w2 w3 (A_Mwidths_at Iw _) hw1 WI2 K Aw hq no (by rw [hlen]; exact hj) hW
          refine Adv_come (y := Walk_at W + 1) (L' := L) ex r1 rfl hdk hon hy cn ?_
          refine Adv_KA (s' := Mo_set_looked (Mo_set_looked s (Mo_looked s + 1)) (Mo_looked s + 1 + 1)) ⟨rfl, rfl, rfl, rfl, rfl⟩ (Adv_gv (n := n) gx r1 rfl c0.1 c0.2 rfl (Or.inr (Or.inr (Or.inl ⟨rfl, e1⟩))) ?_)
          rcases e2 with e2 | ⟨e2, e3⟩
          · exact Or.inl e2
          · exact Or.inr ⟨e2, _, KA.refl _, e3⟩
      · -- one descriptor too many
        have l0 : (Mo_looked (Mo_set_looked s (Mo_looked s + 1))).toInt = 2000 := by
          show (Mo_looked s + 1).toInt = 2000
          rw [El]
          clear El El2 Ap Ap2 ex
          omega
        obtain ⟨z1, z2, z3⟩ := comes_f l0 e1
        have hc2 : ¬ Walk_come W + 1 + 1 ≤ 2000 := by
          rw [i_le, r5, El2, kt]
          clear El El2 Ap Ap2 ex
          omega
        obtain ⟨W', cn, cf⟩ := cn_f (fu := c.fu) (P := c.P) (Fl := Fl) (W := Walk_set_at (Walk_set_countedEnd (NW W) (Prog_bodyEnds c.P a)) (Walk_at W + 1)) (L := L) hc2
        rcases hct with ⟨_, hj⟩ | ⟨z, _⟩
        · have hw := j162_f z2 hj
          subst hw
          have e := run_f z2 hW.2
          refine Adv_come (y := Walk_at W + 1) (L' := L) ex r1 rfl hdk hon hy cn (Adv_f cf (by rw [e]; exact z2) ?_)
          unfold FdE
          rw [e]
          have z3 : Mo_fields s1 = Mo_fields s := z3
          obtain ⟨f1, f2, f3, f4⟩ := r11
          show FdR Fl s1 ki co wd sca lk rp ba
          unfold FdR
          rw [z3]
          exact ⟨f1, f2, f3, f4⟩
        · exact absurd z1 z

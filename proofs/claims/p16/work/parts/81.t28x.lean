-- the walk: REPEAT
theorem j162_inv {fu o : Nat} {th sc rf wi ls le : Nat → Int32} {va : Nat → Int64} {bi : Nat → Int32} {s : S_Mo} {rd : Nat → Int64} {li ne en be lf tu fo op ki co wd sca lk rp : Nat → Int32} {ba : Nat → Int64} {ea pa : Nat → Int32} {x2 x3 x4 : Int32} {w : A19} (hf : 12000 ≤ fu) (hx : x2.toNatClampNeg = o) (ho : (Mo_open s).toInt = ((o + 1 : Nat) : Int)) (h90 : o + 1 < 90) (hz : Mo_fault s = 0) (h : Mod_walkOne_j162 fu th sc rf wi ls le va bi x2 x3 x4 s rd li ne en be lf tu fo op ki co wd sca lk rp ba ea pa = some w) : w = (Mo_set_open s (Mo_open s + 1), rd, upd li (o + 1) (li o), upd (upd ne o (ne o + x3)) (o + 1) (ne o), upd en (o + 1) (ne o + x3), upd be (o + 1) (ne o), upd lf (o + 1) x4, upd tu (o + 1) 0, fo4 fo (o + 1) op, op, ki, co, wd, sca, lk, rp, ba, ea, pa) := by
  have ee := enter_eq (fu := fu) (op := op) (li := li) (ne := upd ne o (ne o + x3)) (en := en) (be := be) (lf := lf) (tu := tu) (fo := fo) (a0 := li o) (a1 := ne o) (a2 := ne o + x3) (a3 := x4) (a4 := 0) hf ho h90
  unfold Mod_walkOne_j162 at h
  rw [hx] at h
  have h := oe_gd (oe_gd h)
  unfold o_lt at h
  dsimp only at h
  rw [if_pos hz] at h
  have h := oe_gd h
  rw [bd_s ee] at h
  exact (Option.some.inj h).symm
-- the list of a REPEAT begins, on both sides
theorem St_rep {F : Nat → Int32} {Z : Nat → Nat} {D B : Nat → Int32} {sz : Nat} {li ne en be lf tu : Nat → Int32} {L L' : S_Lps} {o a b g m : Nat} {fr to c : Int32} (hS : ∀ ne' : Nat → Int32, (∀ f, f < o → ne' f = ne f) → fp li ne' o = fp li ne o + g + (to.toNatClampNeg - fr.toNatClampNeg) → St F Z D B sz li ne' en be lf tu L o b) (ho : o ≤ 63) (hfr : fr.toNatClampNeg = (ne o).toNatClampNeg + g) (hto : fr.toNatClampNeg < to.toNatClampNeg) (C : Sg (It F Z D B (63 - o)) m (fp li ne o + g) (fp li ne o + g + (to.toNatClampNeg - fr.toNatClampNeg)) a b) (hc : 1 ≤ c.toInt ∧ c.toInt ≤ 30) (hL : ∀ k, k < rn tu (o + 1) → LpE L L' k) (l1 : (Lps_starts L' (rn tu (o + 1))).toInt = (a : Int)) (l2 : (Lps_ends L' (rn tu (o + 1))).toInt = (b : Int)) (l3 : Lps_done L' (rn tu (o + 1)) = 0) (l4 : Lps_times L' (rn tu (o + 1)) = c) {ne1 : Nat → Int32} (hne : ∀ f, f < o → ne1 f = ne f) : St F Z D B sz (upd li (o + 1) (li o)) (upd (upd ne1 o to) (o + 1) fr) (upd en (o + 1) to) (upd be (o + 1) fr) (upd lf (o + 1) c) (upd tu (o + 1) 0) L' (o + 1) a := by
  have k0 : (0 : Int32).toInt = 0 := by decide
  have S1 := hS (upd ne1 o to) (fun f hf => (upd_ne (by omega)).trans (hne f hf)) (by
    unfold fp
    rw [upd_at]
    omega)
  have e1 : fp li ne o + g = 8 * (li o).toNatClampNeg + fr.toNatClampNeg := by
    unfold fp
    omega
  have e2 : fp li ne o + g + (to.toNatClampNeg - fr.toNatClampNeg) = 8 * (li o).toNatClampNeg + to.toNatClampNeg := by
    unfold fp
    omega
  rw [e2, e1] at C
  exact St_push S1 ho C (by omega) hL (Or.inr ⟨k0, hc.1, hc.2, l1, l2, by rw [l3]; exact k0, by rw [l4]⟩)
theorem w_rep {fu o a : Nat} {t : S_Tab} {P : S_Prog} {W : S_Walk} {Fl : S_Fld} {L : S_Lps} {th sc rf wi ls le : Nat → Int32} {va : Nat → Int64} {bi : Nat → Int32} {s : S_Mo} {rd : Nat → Int64} {li ne en be lf tu fo op ki co wd sca lk rp : Nat → Int32} {ba : Nat → Int64} {ea pa : Nat → Int32} {d : Int32} {w : A19} (hf : 12000 ≤ fu) (I : I_Tab t) (T : ∀ j : Nat, Tab_sizes t j = le j) (R : WB t P W Fl L s li ne en be lf tu op ki co wd sca lk rp ba ea pa o a) (hlk : (Mo_looked s).toInt < 2000) (hb : 0 ≤ (ne o).toInt ∧ (ne o).toInt < (en o).toInt ∧ (en o).toInt ≤ 24 ∧ 0 ≤ (li o).toInt ∧ (li o).toInt ≤ 16) (hd : d = Tab_listed t (fp li ne o)) (hsz : (Prog_size P).toInt ≤ 1000) (hk : 216 ≤ d.toInt ∧ d.toInt ≤ 343) (hm : ¬ (d.toInt - 200) % 16 = 0) (h : Mod_walkOne fu th sc rf wi ls le va bi d (Mo_set_looked s (Mo_looked s + 1)) rd li (upd ne o (ne o + 1)) en be lf tu fo op ki co wd sca lk rp ba ea pa = some w) : ∃ L', CN fu P d Fl (NW W) L = some (NW W, L') ∧ w = (Mo_set_open (Mo_set_looked s (Mo_looked s + 1)) (Mo_open s + 1), rd, upd li (o + 1) (li o), upd (upd (upd ne o (ne o + 1)) o (ne o + 1 + (d - 200) / 16)) (o + 1) (ne o + 1), upd en (o + 1) (ne o + 1 + (d - 200) / 16), upd be (o + 1) (ne o + 1), upd lf (o + 1) ((d - 200) - (d - 200) / 16 * 16), upd tu (o + 1) 0, fo4 fo (o + 1) op, op, ki, co, wd, sca, lk, rp, ba, ea, pa) ∧ WB t P (NW W) Fl L' (Mo_set_open (Mo_set_looked s (Mo_looked s + 1)) (Mo_open s + 1)) (upd li (o + 1) (li o)) (upd (upd (upd ne o (ne o + 1)) o (ne o + 1 + (d - 200) / 16)) (o + 1) (ne o + 1)) (upd en (o + 1) (ne o + 1 + (d - 200) / 16)) (upd be (o + 1) (ne o + 1)) (upd lf (o + 1) ((d - 200) - (d - 200) / 16 * 16)) (upd tu (o + 1) 0) op ki co wd sca lk rp ba ea pa (o + 1) (a + 1) := by
  have k0 : (0 : Int32).toInt = 0 := by decide
  have k1 : (1 : Int32).toInt = 1 := by decide
  have k63 : (63 : Int32).toInt = 63 := by decide
  have k115 : (115 : Int32).toInt = 115 := by decide
  obtain ⟨r1, r2, r3, r4, r5, r6, r7, r8, r9, r10, r11, r12, r13⟩ := R
  have t0 := St_t0 o a r12
  have rl := rn_le t0.1 o
  have lx := len_x hk.1 hk.2
  obtain ⟨len, hlen⟩ : ∃ len : Int32, len = (d - 200) / 16 := ⟨_, rfl⟩
  obtain ⟨tm, htm⟩ : ∃ tm : Int32, tm = (d - 200) - (d - 200) / 16 * 16 := ⟨_, rfl⟩
  have lx1 : len.toInt = (d.toInt - 200) / 16 := by rw [hlen]; exact lx.1
  have lx2 : tm.toInt = (d.toInt - 200) % 16 := by rw [htm]; exact lx.2
  clear lx
  have c1 : (63 : Int32) < d := by rw [i_lt]; omega
  have c2 : (115 : Int32) < d := by rw [i_lt]; omega
  obtain ⟨q3, e3, h3⟩ := t_Mod_isRepeat (a0 := d)
  have n3 : ¬ q3 = 0 := by rw [i_eq]; omega
  have nt : ¬ tm = 0 := by rw [i_eq]; omega
  have ho1 : (Mo_open (Mo_set_looked s (Mo_looked s + 1))).toInt = ((o + 1 : Nat) : Int) := by
    show (Mo_open s).toInt = _
    omega
  have no : (Mo_open s - 1).toNatClampNeg = o := by
    have x : (Mo_open s - 1).toInt = (o : Int) := by
      rw [i_sub (a := Mo_open s) (b := 1) (by omega) (by omega), r3, k1]
      omega
    have := i_nat (a := Mo_open s - 1) (by rw [x]; clear x; omega)
    rw [x] at this
    clear x
    omega
  unfold Mod_walkOne at h
  rw [if_pos c1, if_pos c2, bd_s e3, if_neg n3, ← htm, ← hlen, if_neg nt] at h
  have hw := j162_inv hf (x2 := Mo_open s - 1) no ho1 (by omega) r2 h
  rw [upd_at] at hw
  have N1 : (ne o + 1).toInt = (ne o).toInt + 1 := by
    rw [i_add (a := ne o) (b := 1) (by omega) (by omega), k1]
  have N2 : (ne o + 1 + len).toInt = (ne o).toInt + 1 + len.toInt := by
    rw [i_add (a := ne o + 1) (b := len) (by rw [N1]; clear N1; omega) (by rw [N1]; clear N1; omega), N1]
  obtain ⟨fr, hfr⟩ : ∃ fr, fr = ne o + 1 := ⟨_, rfl⟩
  rw [← hfr] at N1 N2 hw
  obtain ⟨to, hto⟩ : ∃ to, to = fr + len := ⟨_, rfl⟩
  rw [← hto] at N2 hw
  have nfr := i_nat (a := fr) (by omega)
  have nto := i_nat (a := to) (by omega)
  have nne := i_nat (a := ne o) hb.1
  have nen := i_nat (a := en o) (by omega)
  have lt : fp li ne o < fp li en o := by
    unfold fp
    omega
  have asz := St_adv r12 lt
  have hr2 := i_r2 (Prog_size P)
  obtain ⟨p', b, hI, hp', hS⟩ := St_head r12 lt
  have e64 : 64 - o = 63 - o + 1 := by omega
  rw [e64] at hI
  obtain ⟨i1, i2⟩ := hI
  rw [← hd] at i1 i2
  have Ap : (Walk_at W + 1).toInt = (a : Int) + 1 := by
    rw [i_add (a := Walk_at W) (b := 1) (by omega) (by omega), r4, k1]
  have Am : Walk_at (NW W) - 1 = Walk_at W := i_eq.mpr (by
    show (Walk_at W + 1 - 1).toInt = _
    rw [i_sub (a := Walk_at W + 1) (b := 1) (by rw [Ap]; clear Ap; omega) (by rw [Ap]; clear Ap; omega), Ap, k1, r4]
    clear Ap
    omega)
  have nA : (Walk_at W).toNatClampNeg = a := by
    have := i_nat (a := Walk_at W) (by omega)
    clear Ap
    omega
  have gA : o_in (Walk_at (NW W) - 1) 1000 = true := by
    rw [Am]
    have hP := hsz
    exact i_in.mpr (by clear Ap; omega)
  rcases i2 with ⟨x, _⟩ | ⟨x, _⟩ | ⟨x, x1, x2, x3, m, x4⟩ | ⟨x, x1, _⟩
  · exact absurd hk x.2
  · clear Ap
    omega
  · obtain ⟨L', g1, g2, g3, g4, g5, g6, g7⟩ := enter_x (L := L) (k := rn tu (o + 1)) (a0 := Walk_at W + 1) (a1 := Prog_bodyEnds P a) (a2 := tm) r13 (by clear Ap; omega)
    have tp : ¬ tm ≤ 0 := by rw [i_le]; clear Ap; omega
    have cr : CN fu P d Fl (NW W) L = some (NW W, L') := by
      rw [CN_rep hf hk.1 hk.2 gA, ← htm, Am, nA]
      unfold Walk_comeToRepeat
      rw [if_neg tp]
      show (o_bd (o_bd (Lps_enter (Walk_at W + 1) (Prog_bodyEnds P a) tm L) fun q2 => some (NW W, q2)) fun q21 => some (q21.1, q21.2)) = _
      rw [bd_s g1]
      rfl
    have len8 : to.toNatClampNeg - fr.toNatClampNeg = ((d.toInt - 200) / 16).toNat := by clear Ap; omega
    have S2 := St_rep (g := 1) (fr := fr) (to := to) (c := tm) (m := m) (a := a + 1) (L' := L') (fun ne' h1 h2 => hS ne' h1 (by rw [h2, len8, x2])) t0.2 (by clear Ap; omega) (by clear Ap; omega) (by rw [len8, ← x2]; exact x4) ⟨by clear Ap; omega, by clear Ap; omega⟩ g7 (by rw [g3, Ap]; rfl) (by rw [g4]; exact x3) g6 g5 (ne1 := upd ne o fr) (fun f hf' => upd_ne (by clear Ap; omega))
    have rs : rn (upd tu (o + 1) 0) (o + 1 + 1) = rn tu (o + 1) + 1 := by
      rw [rn_r (by rw [upd_at]; decide)]
      exact congrArg (· + 1) (rn_cong (o + 1) (fun j hj => upd_ne (by clear Ap; omega)))
    refine ⟨L', cr, ?_, ?_⟩
    · rw [hw, ← htm, ← hlen, ← hfr, ← hto]
    · rw [← htm, ← hlen, ← hfr, ← hto]
      refine ⟨r1, r2, ?_, Ap, ?_, ?_, ?_, r8, r9, r10, r11, S2, ?_⟩
      · show (Mo_open s + 1).toInt = _
        clear Ap
        rw [i_add (a := Mo_open s) (b := 1) (by omega) (by omega), r3, k1]
        omega
      · show Walk_come W + 1 = Mo_looked s + 1
        rw [r5]
      · show 0 ≤ (Mo_looked s + 1).toInt
        clear Ap
        rw [i_add (a := Mo_looked s) (b := 1) (by omega) (by omega), k1]
        omega
      · show (Mo_looked s + 1).toInt ≤ 2000
        clear Ap
        rw [i_add (a := Mo_looked s) (b := 1) (by omega) (by omega), k1]
        omega
      · rw [rs, g2]
        rfl
  · exact absurd x1 hm

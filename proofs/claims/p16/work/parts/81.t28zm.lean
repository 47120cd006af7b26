-- one descriptor, whatever it is
theorem s_one {c : Cst} {m n : Nat} {x2 : Int32} {W : S_Walk} {Fl : S_Fld} {L : S_Lps} {s : S_Mo} {rd : Nat → Int64} {li ne en be lf tu fo op ki co wd sca lk rp : Nat → Int32} {ba : Nat → Int64} {ea pa : Nat → Int32} {o a : Nat} (ok : Cok c) (ih : ∀ (x' : Int32) (n' : Nat) (W' : S_Walk) (L' : S_Lps) (s' : S_Mo), SY c n' W' Fl L' s' rd → Walk_dueKind W' = (-1) → 0 ≤ x'.toInt → x'.toInt ≤ (Walk_come W').toInt → 2004 ≤ (m : Int) + x'.toInt → Adv c m (Fld_count Fl) x' W' Fl L' s' rd) (hx0 : 0 ≤ x2.toInt) (hx1 : x2.toInt ≤ (Walk_come W).toInt) (hm : 2003 ≤ (m : Int) + x2.toInt) (R : WB c.t c.P W Fl L s li ne en be lf tu op ki co wd sca lk rp ba ea pa o a) (hdk : Walk_dueKind W = (-1)) (hce : Walk_countedEnd W = (-1)) (hlt : (ne o).toInt < (en o).toInt) (hR : RunL c n s rd li ne en be lf tu fo op ki co wd sca lk rp ba ea pa) : ∃ (W2 : S_Walk) (L2 : S_Lps), Walk_comeToNext c.fu c.P Fl W L = some (W2, L2) ∧ Adv c m (Fld_count Fl) (x2 + 1) W2 Fl L2 s rd := by
  have k1 : (1 : Int32).toInt = 1 := by decide
  have kt : (2000 : Int32).toInt = 2000 := by decide
  have ok' := ok
  obtain ⟨hf, It_, IP, T, Iw, Is, Ils, Ile, Irf⟩ := ok'
  obtain ⟨S, hrun⟩ := hR
  have R' := R
  obtain ⟨r1, r2, r3, r4, r5, r6, r7, r8, r9, r10, r11, r12, r13⟩ := R'
  have t0 := St_t0 o a r12
  have hsz : (Prog_size c.P).toInt ≤ 1000 := IP.1.2
  have S' := S
  obtain ⟨WIs, K, _, _, Aw, _, _, hst⟩ := S'
  obtain ⟨o1, ho1, ⟨hC, hE, hWL⟩, _, _⟩ := hst r2
  obtain rfl : o1 = o + 1 := by omega
  obtain ⟨t1, t2, t3, t4, t5, t6, t7⟩ := cs_top Ile hC
  have hle := cs_len hC
  have hStep := cs_step hf Iw Is Ils Ile hC (by omega)
  have hb : 0 ≤ (ne o).toInt ∧ (ne o).toInt < (en o).toInt ∧ (en o).toInt ≤ 24 ∧ 0 ≤ (li o).toInt ∧ (li o).toInt ≤ 16 := ⟨by omega, hlt, t5, t6, t7⟩
  have c3 : ¬ en o ≤ ne o := by rw [i_le]; omega
  have c3' : ¬ (en o).toInt ≤ (ne o).toInt := by omega
  have nne := i_nat (a := ne o) hb.1
  have nen := i_nat (a := en o) (by omega)
  have lt : fp li ne o < fp li en o := by
    unfold fp
    omega
  have asz := St_adv r12 lt
  cases n with
  | zero =>
    rw [Mod_walk_L34] at hrun
    cases hrun
  | succ n =>
    obtain ⟨k, s1, e1, hgo⟩ := r_go r3 (by omega) r2 c3 hrun
    by_cases cl : (Mo_looked s).toInt < 2000
    · have cx := comes_x r6 cl
      rw [cx] at e1
      cases e1
      rcases hgo with ⟨z, _⟩ | ⟨_, w, hw, hL⟩
      · exact absurd z (by decide)
      · obtain ⟨d1, d2⟩ := d_same (ne := ne) (en := en) T hb.1 hlt hle t5 t6 t7
        obtain ⟨o1, o2, o3, o4⟩ := WSt.one hf Iw Is Ils Ile S r2 r3 c3' cx rfl hw
        have hW : Wk c n w := ⟨o1, hL⟩
        obtain ⟨d, hd⟩ : ∃ d, d = c.ls (24 * li o + (ne o + 1) - 1).toNatClampNeg := ⟨_, rfl⟩
        rw [← hd] at d1 d2 hw hStep
        clear o3 o4
        have nA : (Walk_at W).toNatClampNeg = a := by
          have := i_nat (a := Walk_at W) (by omega)
          omega
        have hcm : Walk_come W + 1 ≤ 2000 := by
          have El : (Mo_looked s + 1).toInt = (Mo_looked s).toInt + 1 := by
            rw [i_add (a := Mo_looked s) (b := 1) (by omega) (by omega), k1]
          rw [r5, i_le, El, kt]
          clear El
          omega
        have cn := cn_eq (fu := c.fu) (P := c.P) (Fl := Fl) (W := W) (L := L) (i_in.mpr (by omega)) hcm
        obtain ⟨p', b, hI, _, _⟩ := St_head r12 lt
        have e64 : 64 - o = 63 - o + 1 := by omega
        rw [e64] at hI
        rw [nA, hI.1, ← d1] at cn
        rw [cn]
        rcases d2 with y | y | y | y | y | y
        · have E : EOK c.th c.wi (Mo_used c.z) d op := by
            rcases hStep with z | z | z | z | z
            · exact z.2.1
            · omega
            · omega
            · omega
            · omega
          exact s_el ok hx0 hx1 hm R hdk hce cl hb d1 o2 K Aw hw hW y E
        · exact s_seq ok ih hx0 hx1 hm R hdk hce cl hb d1 hw hW y
        · by_cases cm : (d.toInt - 200) % 16 = 0
          · exact s_ct ok hx0 hx1 hm R hdk hce cl hb d1 o2 K Aw hw hW hsz hle hStep y cm
          · exact s_rep ok ih hx0 hx1 hm R hdk hce cl hb d1 hw hW hsz y cm
        · exact s_op ok ih hx0 hx1 hm R hdk hce cl hb d1 hw hW y
        · exact s_bt ok hx0 hx1 hm R hdk hce cl hb d1 o2 K Aw hw hW y
        · exact s_mk ok hx0 hx1 hm R hdk hce cl hb d1 o2 K Aw hw hW y
    · have l0 : (Mo_looked s).toInt = 2000 := by omega
      obtain ⟨z1, z2, z3⟩ := comes_f l0 e1
      have hc2 : ¬ Walk_come W + 1 ≤ 2000 := by
        have El : (Mo_looked s + 1).toInt = (Mo_looked s).toInt + 1 := by
          rw [i_add (a := Mo_looked s) (b := 1) (by omega) (by omega), k1]
        rw [r5, i_le, El, kt]
        clear El
        omega
      obtain ⟨W', cn, cf⟩ := cn_f (fu := c.fu) (P := c.P) (Fl := Fl) (W := W) (L := L) hc2
      rcases hgo with ⟨_, hL⟩ | ⟨z, _⟩
      · have e := run_f z2 hL
        have hx2 : x2.toInt ≤ 2000 := by rw [r5] at hx1; omega
        obtain ⟨m, rfl⟩ : ∃ m', m = m' + 1 := ⟨m - 1, by omega⟩
        refine ⟨W', L, cn, Adv_f cf (by rw [e]; exact z2) ?_⟩
        unfold FdE
        rw [e]
        obtain ⟨f1, f2, f3, f4⟩ := r11
        show FdR Fl s1 ki co wd sca lk rp ba
        unfold FdR
        rw [z3]
        exact ⟨f1, f2, f3, f4⟩
      · exact absurd z1 z
-- a turn of an advance that stands before a descriptor
theorem s_step {c : Cst} {m n : Nat} {x2 : Int32} {W : S_Walk} {Fl : S_Fld} {L : S_Lps} {s : S_Mo} {rd : Nat → Int64} (ok : Cok c) (ih : ∀ (x' : Int32) (n' : Nat) (W' : S_Walk) (L' : S_Lps) (s' : S_Mo), SY c n' W' Fl L' s' rd → Walk_dueKind W' = (-1) → 0 ≤ x'.toInt → x'.toInt ≤ (Walk_come W').toInt → 2004 ≤ (m : Int) + x'.toInt → Adv c m (Fld_count Fl) x' W' Fl L' s' rd) (hx0 : 0 ≤ x2.toInt) (hx1 : x2.toInt ≤ (Walk_come W).toInt) (hm : 2003 ≤ (m : Int) + x2.toInt) (S : SY c n W Fl L s rd) (hdk : Walk_dueKind W = (-1)) : Adv c (m + 1) (Fld_count Fl) x2 W Fl L s rd := by
  have ok' := ok
  obtain ⟨hf, It_, IP, T, Iw, Is, Ils, Ile, Irf⟩ := ok'
  obtain ⟨li, ne, en, be, lf, tu, fo, op, ki, co, wd, sca, lk, rp, ba, ea, pa, o, a, R, hce, WIs, K, Aw, hP⟩ := S
  obtain ⟨r1, r2, r3, r4, r5, r6, r7, r8, r9, r10, r11, r12, r13⟩ := R
  have hx2 : x2.toInt ≤ 2000 := by rw [r5] at hx1; omega
  have t0 := St_t0 o a r12
  have rl := rn_le t0.1 o
  have hsz0 : 0 ≤ (Prog_size c.P).toInt := IP.1.1
  rcases hP with ⟨_, hR⟩ | ⟨z, _⟩ | ⟨z, _⟩
  · obtain ⟨S, hrun⟩ := hR
    obtain ⟨n', v, ne', lf', tu', a', y, L', hn, hon, hy, hrun', S', hcase⟩ := w_pops hf Ile c.z n s ne lf tu o a c.fu (Walk_at W) L S r2 r3 r4 r12 r13 (by omega) hrun
    have hon : Lps_onFrom c.fu (Walk_at W) L = some (y, L') := hon
    rcases hcase with ⟨hv, ha⟩ | ⟨o', hv, hSt, hLo, hlt⟩
    · -- the end
      have ny : ¬ y < Prog_size c.P := by
        rw [i_lt]
        omega
      have e := run_0 (show Mo_open (Mo_set_open s v) = 0 from hv) hrun'
      refine ⟨0, Walk_set_at W y, Fl, L', ?_, Or.inr ⟨rfl, rfl, ?_, Or.inl ⟨r1, ?_, ?_, ?_⟩⟩⟩
      · rw [adv_come (t := c.t) (ke := fun zW zF zL => Walk_advance_j141 c.fu c.t c.P (Fld_count Fl) zW zF zL) hx2 r1 rfl hdk hon, if_neg ny]
      · unfold FdE
        rw [e]
        exact r11
      · rw [e]
        exact r2
      · rw [e]
        exact ⟨rfl, rfl, rfl, rfl, rfl⟩
      · rw [e]
    · have R1 : WB c.t c.P (Walk_set_at W y) Fl L' (Mo_set_open s v) li ne' en be lf' tu' op ki co wd sca lk rp ba ea pa o' a' := ⟨r1, r2, hv, hy, r5, r6, r7, r8, r9, r10, r11, hSt, hLo⟩
      obtain ⟨W2, L2, cn, A⟩ := s_one (W := Walk_set_at W y) ok ih hx0 hx1 hm R1 hdk hce hlt ⟨S', hrun'⟩
      have hyl : y < Prog_size c.P := by
        have t2 := St_t0 o' a' hSt
        obtain ⟨o1, ho1, ⟨hC, _, _⟩, _, _⟩ := S'.2.2.2.2.2.2.2 r2
        have ho1 : v.toInt = (o1 : Int) := ho1
        obtain rfl : o1 = o' + 1 := by omega
        obtain ⟨t1, t2, t3, t4, t5, t6, t7⟩ := cs_top Ile hC
        have nne := i_nat (a := ne' o') (by omega)
        have nen := i_nat (a := en o') (by omega)
        have lt : fp li ne' o' < fp li en o' := by
          unfold fp
          omega
        have asz := St_adv hSt lt
        rw [i_lt]
        omega
      exact Adv_come (y := y) (L' := L') hx2 r1 rfl hdk hon hyl cn (Adv_KA (s' := Mo_set_open s v) ⟨rfl, rfl, rfl, rfl, rfl⟩ A)
  · rw [hdk] at z
    exact absurd z (by decide)
  · rw [hdk] at z
    exact absurd z (by decide)
theorem ADVm {c : Cst} {Fl : S_Fld} {rd : Nat → Int64} (ok : Cok c) : ∀ (m : Nat) (x2 : Int32) (n : Nat) (W : S_Walk) (L : S_Lps) (s : S_Mo), SY c n W Fl L s rd → Walk_dueKind W = (-1) → 0 ≤ x2.toInt → x2.toInt ≤ (Walk_come W).toInt → 2004 ≤ (m : Int) + x2.toInt → Adv c m (Fld_count Fl) x2 W Fl L s rd
  | 0, x2, n, W, L, s, S, hdk, h0, h1, h2 => by
    obtain ⟨li, ne, en, be, lf, tu, fo, op, ki, co, wd, sca, lk, rp, ba, ea, pa, o, a, R, _⟩ := S
    have r5 := R.2.2.2.2.1
    have r7 := R.2.2.2.2.2.2.1
    rw [r5] at h1
    omega
  | m + 1, x2, n, W, L, s, S, hdk, h0, h1, h2 => s_step ok (fun x' n' W' L' s' => ADVm ok m x' n' W' L' s') h0 h1 (by omega) S hdk
-- Walk.advance
theorem ADV {c : Cst} {n : Nat} {W : S_Walk} {Fl : S_Fld} {L : S_Lps} {s : S_Mo} {rd : Nat → Int64} (ok : Cok c) (S : SY c n W Fl L s rd) : Adv c c.fu (Fld_count Fl) 0 W Fl L s rd := by
  have k0 : (0 : Int32).toInt = 0 := by decide
  have ok' := ok
  obtain ⟨hf, It_, IP, T, Iw, Is, Ils, Ile, Irf⟩ := ok'
  have S' := S
  obtain ⟨li, ne, en, be, lf, tu, fo, op, ki, co, wd, sca, lk, rp, ba, ea, pa, o, a, R, hce, WIs, K, Aw, hP⟩ := S'
  have r1 := R.1
  have r5 := R.2.2.2.2.1
  have r6 := R.2.2.2.2.2.1
  obtain ⟨f1, f2, f3, _⟩ := R.2.2.2.2.2.2.2.2.2.2.1
  have c0 : 0 ≤ (Fld_count Fl).toInt ∧ (Fld_count Fl).toInt ≤ 100 := by
    rw [f1]
    exact ⟨f2, f3⟩
  obtain ⟨m, hm⟩ : ∃ m, c.fu = m + 2 := ⟨c.fu - 2, by omega⟩
  rcases hP with ⟨z, _⟩ | ⟨z, ⟨h0, h1⟩, E, q1, w, hfo, hj, hR⟩ | ⟨z, x1, x2, mm, w, b1, b2, b3, b4, b5, b6, b7, hR⟩
  · exact ADVm ok c.fu 0 n W L s S z (by decide) (by rw [k0, r5]; exact r6) (by rw [k0]; omega)
  · obtain ⟨W', Fl', e1, e2⟩ := el_field ok R hce WIs K Aw z h0 h1 E hfo hj hR
    have g := Adv_gv (c := c) (m := m) (n := n) (x2 := 0) (s := s) (rd := rd) (by decide) r1 rfl c0.1 c0.2 z (Or.inl ⟨rfl, e1⟩) (by
      rcases e2 with e2 | ⟨e2, e3⟩
      · exact Or.inl e2
      · exact Or.inr ⟨e2, _, KA.refl _, e3⟩)
    rw [← hm] at g
    exact g
  · obtain ⟨W', Fl', e1, e2⟩ := bt_field ok R hce WIs K Aw b1 b2 b3 b4 b5 b6 b7 hR
    have g := Adv_gv (c := c) (m := m) (n := n) (x2 := 0) (s := s) (rd := rd) (by decide) r1 rfl c0.1 c0.2 z (Or.inr (Or.inr (Or.inr (Or.inl ⟨rfl, e1⟩)))) (by
      rcases e2 with e2 | ⟨e2, e3⟩
      · exact Or.inl e2
      · exact Or.inr ⟨e2, _, KA.refl _, e3⟩)
    rw [← hm] at g
    exact g

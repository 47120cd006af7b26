-- both walks begin
theorem begin_x {fu : Nat} {W : S_Walk} {Fl : S_Fld} {L : S_Lps} (hf : 12000 ≤ fu) : ∃ (W0 : S_Walk) (Fl0 : S_Fld) (L0 : S_Lps), Walk_begin fu W Fl L = some (W0, Fl0, L0) ∧ Walk_fault W0 = 0 ∧ Walk_at W0 = 0 ∧ Walk_come W0 = 0 ∧ (∀ k, k < 4 → Walk_settings W0 k = 0) ∧ Walk_elementCount W0 = 0 ∧ Walk_pointedCount W0 = 0 ∧ Walk_nextPointed W0 = 0 ∧ Walk_dueKind W0 = (-1) ∧ Walk_countedEnd W0 = (-1) ∧ Fld_count Fl0 = 0 ∧ Lps_open L0 = 0 := by
  obtain ⟨q5, e5, h5⟩ := yy_fillI (fu := fu) (m := 4) (v := 0) (f := Walk_settings W) hf (by decide)
  have e5' : Arr_fill_aII fu 4 0 (Walk_settings (Walk_set_place (Walk_set_fault W 0) (-1))) = some q5 := e5
  have el : Lps_leaveAll L = some (Lps_set_open L 0) := rfl
  refine ⟨Walk_set_countedEnd (Walk_set_dueBits (Walk_set_dueCode (Walk_set_dueKind (Walk_set_come (Walk_set_at (Walk_set_nextPointed (Walk_set_pointedCount (Walk_set_elementCount (Walk_set_settings (Walk_set_place (Walk_set_fault W 0) (-1)) q5) 0) 0) 0) 0) 0) (-1)) (-1)) 0) (-1), Fld_set_count Fl 0, Lps_set_open L 0, ?_, rfl, rfl, rfl, h5, rfl, rfl, rfl, rfl, rfl, rfl, rfl⟩
  unfold Walk_begin o_lt
  dsimp only
  rw [bd_s el, bd_s e5']
theorem w_start {fu M : Nat} {t : S_Tab} {P : S_Prog} {th sc rf wi ls le : Nat → Int32} {va : Nat → Int64} {bi : Nat → Int32} {a0 a1 : Int32} {s : S_Mo} {rd : Nat → Int64} {li ne en be lf tu fo op ki co wd sca lk rp : Nat → Int32} {ba : Nat → Int64} {ea pa : Nat → Int32} {r : A19} {W : S_Walk} {Fl : S_Fld} {L : S_Lps} (hf : 12000 ≤ fu) (It_ : I_Tab t) (IP : I_Prog P) (T : TbR t (Mo_used s) th sc rf wi ls le) (Iw : A_Mwidths wi) (Is : A_Mscales sc) (Ils : A_Mlists ls) (Ile : A_Mlengths le) (Irf : Rfb rf) (hSg : Sg (It (Tab_listed t) (zT t) (Prog_descriptors P) (Prog_bodyEnds P) 64) M 128 (128 + zT t 16) 0 (Prog_size P).toInt.toNat) (hS : WSt fu th sc wi ls le (Mo_set_mode (Mo_set_subset s a0) a1) (Mo_set_open (s0 (Mo_set_pointer (Mo_set_pointed (Mo_set_elements (Mo_set_fields (Mo_set_mode (Mo_set_subset s a0) a1) 0) 0) 0) 0)) (0 + 1)) (upd li 0 16) (upd ne 0 0) (upd en 0 (le 16)) (upd be 0 0) (upd lf 0 1) (fo4 fo 0 (op0 op)) (op0 op) wd ea pa) (hz : Mo_fault s = 0) (hw : Mod_walk fu th sc rf wi ls le va bi a0 a1 s rd li ne en be lf tu fo op ki co wd sca lk rp ba ea pa = some r) : ∃ (W0 : S_Walk) (Fl0 : S_Fld) (L0 : S_Lps) (s1 : S_Mo), Walk_begin fu W Fl L = some (W0, Fl0, L0) ∧ Fld_count Fl0 = 0 ∧ Cok (fu, t, P, th, sc, rf, wi, ls, le, va, bi, Mo_set_mode (Mo_set_subset s a0) a1, r) ∧ KA s1 (Mo_set_mode (Mo_set_subset s a0) a1) ∧ SY (fu, t, P, th, sc, rf, wi, ls, le, va, bi, Mo_set_mode (Mo_set_subset s a0) a1, r) fu W0 Fl0 L0 s1 rd := by
  have k0 : (0 : Int32).toInt = 0 := by decide
  have n0 : (0 : Int32).toNatClampNeg = 0 := by decide
  have n16 : (16 : Int32).toNatClampNeg = 16 := by decide
  have k01 : ((0 : Int32) + 1).toInt = 1 := by decide
  obtain ⟨W0, Fl0, L0, e, b1, b2, b3, b4, b5, b6, b7, b8, b9, b10, b11⟩ := begin_x (W := W) (Fl := Fl) (L := L) hf
  have se := start_eq (fu := fu) (le := le) (op := op) (li := li) (ne := ne) (en := en) (be := be) (lf := lf) (tu := tu) (fo := fo) (s := Mo_set_pointer (Mo_set_pointed (Mo_set_elements (Mo_set_fields (Mo_set_mode (Mo_set_subset s a0) a1) 0) 0) 0) 0) hf
  unfold Mod_walk o_lt at hw
  dsimp only at hw
  rw [bd_s se] at hw
  refine ⟨W0, Fl0, L0, Mo_set_open (s0 (Mo_set_pointer (Mo_set_pointed (Mo_set_elements (Mo_set_fields (Mo_set_mode (Mo_set_subset s a0) a1) 0) 0) 0) 0)) (0 + 1), e, b10, ⟨hf, It_, IP, T, Iw, Is, Ils, Ile, Irf⟩, ⟨rfl, rfl, rfl, rfl, rfl⟩, ?_⟩
  refine ⟨upd li 0 16, upd ne 0 0, upd en 0 (le 16), upd be 0 0, upd lf 0 1, upd tu 0 (-1), fo4 fo 0 (op0 op), op0 op, ki, co, wd, sca, lk, rp, ba, ea, pa, 0, 0, ?_, b9, hS.1, hS.2.1, hS.2.2.2.2.1, Or.inl ⟨b8, hS, hw⟩⟩
  have tn : upd tu 0 (-1) 0 < 0 := by rw [upd_at]; decide
  refine ⟨b1, hz, k01, by rw [b2]; exact k0, b3, Int.le_refl _, by show (0 : Int32).toInt ≤ 2000; decide, fun k hk => ?_, ⟨b5, Int.le_refl _, Int.le_refl _, fun i hi => ?_⟩, ⟨b6, Int.le_refl _, by show (0 : Int32).toInt ≤ 16; decide, b7, Int.le_refl _, Int.le_refl _, fun i hi => ?_⟩, ⟨b10, Int.le_refl _, by show (0 : Int32).toInt ≤ 100; decide, fun i hi => ?_⟩, ⟨⟨M, ?_⟩, tn, by rw [upd_at]; decide⟩, by rw [b11, rn_s tn]; rfl⟩
  · rw [b4 k hk, op0_at hk]
    exact ⟨by decide, by decide, Or.inl ⟨by decide, by decide⟩⟩
  · have hi : (i : Int) < (0 : Int32).toInt := hi
    rw [k0] at hi
    omega
  · have hi : (i : Int) < (0 : Int32).toInt := hi
    rw [k0] at hi
    omega
  · have hi : (i : Int) < (0 : Int32).toInt := hi
    rw [k0] at hi
    omega
  · have ez : (le 16).toNatClampNeg = zT t 16 := by
      rw [← T.2.2.2.1 16]
      rfl
    unfold fp
    rw [upd_at, upd_at, upd_at, n16, n0, ez]
    exact hSg
-- the value of a field, where values are walked over
theorem val_01 {fu : Nat} {va : Nat → Int64} {ki wd : Nat → Int32} {ba : Nat → Int64} {bi : Nat → Int32} {f : Int32} {s s1 : S_Mo} {rd rd1 : Nat → Int64} {v : Int64} {i k : Nat} (hm : (Mo_mode s).toInt < 2) (hs : (Mo_subset s).toInt = (k : Int)) (hk : k < 8) (hf : f.toInt = (i : Int)) (hi : i < 100) (h : Mod_valueOf fu va ki wd ba bi f s rd = some (v, s1, rd1)) : v = va (100 * k + i) ∧ s1 = s ∧ rd1 = rd := by
  have k2 : (2 : Int32).toInt = 2 := by decide
  have c : ¬ (2 : Int32) ≤ Mo_mode s := by rw [i_le]; omega
  have m1 := i_mull 100 (Mo_subset s) 100 (by decide) (by omega) (by omega)
  have m2 : (100 * Mo_subset s + f).toInt = 100 * (k : Int) + (i : Int) := by
    rw [i_add (a := 100 * Mo_subset s) (b := f) (by rw [m1, hs, hf]; clear m1; omega) (by rw [m1, hs, hf]; clear m1; omega), m1, hs, hf]
  have n : (100 * Mo_subset s + f).toNatClampNeg = 100 * k + i := by
    have := i_nat (a := 100 * Mo_subset s + f) (by rw [m2]; clear m1 m2; omega)
    rw [m2] at this
    clear m1 m2
    omega
  unfold Mod_valueOf at h
  rw [if_neg c] at h
  have h := oe_gd h
  rw [n] at h
  cases h
  exact ⟨rfl, rfl, rfl⟩
-- a faulty walk goes no further
theorem over_f {fu nR m : Nat} {t : S_Tab} {P : S_Prog} {row : Nat → Int64} {x : Int32} {W : S_Walk} {Fl : S_Fld} {L : S_Lps} (hf : 12000 ≤ fu) (hz : ¬ Walk_fault W = 0) : Walk_advance fu t P W Fl L = some (0, W, Fl, L) ∧ Walk_over_L6 fu nR t P row (m + 1) x W Fl L = some (W, Fl, L) := by
  obtain ⟨k, rfl⟩ : ∃ k, fu = k + 1 := ⟨fu - 1, by omega⟩
  have e : Walk_advance (k + 1) t P W Fl L = some (0, W, Fl, L) := by
    unfold Walk_advance
    rw [adv_f hz]
    unfold Walk_advance_j141
    rw [if_neg hz]
  refine ⟨e, ?_⟩
  rw [Walk_over_L6, bd_s e, if_pos rfl]
def EndB (c : Cst) (W : S_Walk) (Fl : S_Fld) : Prop := FdE Fl c.r ∧ ((Walk_fault W = 0 ∧ Mo_fault c.r.1 = 0) ∨ (¬ Walk_fault W = 0 ∧ ¬ Mo_fault c.r.1 = 0))
-- what stands in FE, with the place
theorem FE_i {c : Cst} {n i : Nat} {W : S_Walk} {Fl Fl1 : S_Fld} {L : S_Lps} {s : S_Mo} {rd : Nat → Int64} (hc : (Fld_count Fl).toInt = (i : Int)) (h100 : i ≤ 100) (h1 : Fld_count Fl1 = Fld_count Fl + 1) (h : FE c n W Fl1 L s rd) : i < 100 ∧ (Fld_count Fl1).toInt = (i : Int) + 1 ∧ ∃ (a0 a1 a2 a3 : Int32) (a4 : Int64) (a5 rep : Int32) (tu ki co wd sca lk rp : Nat → Int32) (ba : Nat → Int64) (q : QC) (Fl0 : S_Fld), (Mo_fields s).toInt = (i : Int) ∧ Mo_fault s = 0 ∧ WI s ∧ A_Mwidth wd ∧ ((0 ≤ a2.toInt ∧ a2.toInt ≤ 32) ∧ (a0 = 3 → a4 = 0) ∧ BB a4 ∧ 1 ≤ a2.toInt) ∧ Mod_come c.fu c.va tu c.bi a0 a1 a2 a3 a4 a5 s rd ki co wd sca lk rp ba = some q ∧ FdR Fl0 s ki co wd sca lk rp ba ∧ Fl1 = gvF Fl0 i a0 a1 a2 a3 a4 a5 rep ∧ Walk_fault W = 0 ∧ (¬ Mo_fault q.2.1 = 0 → ¬ Mo_fault c.r.1 = 0 ∧ FdE Fl1 c.r) ∧ (Mo_fault q.2.1 = 0 → okv a0 q.1 → ∃ (W' : S_Walk) (L' : S_Lps) (s' : S_Mo), Walk_settle Fl1 q.1 W L = some (W', L') ∧ KA s' q.2.1 ∧ SY c n W' Fl1 L' s' q.2.2.1) := by
  have k1 : (1 : Int32).toInt = 1 := by decide
  obtain ⟨i', a0, a1, a2, a3, a4, a5, rep, tu, ki, co, wd, sca, lk, rp, ba, q, Fl0, v1, v2, v3, v4, v5, v6, v7, v8, v9, v10, v11, v12, v13⟩ := h
  have e1 : (Fld_count Fl1).toInt = (i : Int) + 1 := by
    rw [h1, i_add (a := Fld_count Fl) (b := 1) (by omega) (by omega), hc, k1]
  have f1 : Fld_count Fl0 = Mo_fields s := v8.1
  have e2 : (Fld_count Fl1).toInt = (i' : Int) + 1 := by
    clear e1
    rw [v10]
    show (Fld_count Fl0 + 1).toInt = _
    rw [f1, i_add (a := Mo_fields s) (b := 1) (by omega) (by omega), v1, k1]
  have ei : i' = i := by
    rw [e2] at e1
    clear e2
    omega
  subst ei
  exact ⟨v2, e1, a0, a1, a2, a3, a4, a5, rep, tu, ki, co, wd, sca, lk, rp, ba, q, Fl0, v1, v3, v4, v5, v6, v7, v8, v10, v11, v12, v13⟩
theorem gvF_at {Fl : S_Fld} {i : Nat} {a0 a1 a2 a3 a5 rep : Int32} {a4 : Int64} : Fld_kinds (gvF Fl i a0 a1 a2 a3 a4 a5 rep) i = a0 ∧ Fld_widths (gvF Fl i a0 a1 a2 a3 a4 a5 rep) i = a2 ∧ Fld_references (gvF Fl i a0 a1 a2 a3 a4 a5 rep) i = a4 := by
  refine ⟨upd_at _ _ _, upd_at _ _ _, ?_⟩
  show vp_updL (Fld_references Fl) i a4 i = a4
  exact updL_at _ _ _
theorem over_L {c : Cst} {row : Nat → Int64} {k : Nat} (ok : Cok c) (hmd : (Mo_mode c.z).toInt < 2) (hsb : (Mo_subset c.z).toInt = (k : Int)) (hk : k < 8) (hrow : ∀ j, j < 100 → row j = c.va (100 * k + j)) (hm1 : ¬ (Mo_mode c.z).toInt = 1 ∨ Mo_fault c.r.1 = 0) : ∀ (m i n : Nat) (x : Int32) (W : S_Walk) (Fl : S_Fld) (L : S_Lps) (s : S_Mo) (rd : Nat → Int64), SY c n W Fl L s rd → x.toInt = (i : Int) → (Fld_count Fl).toInt = (i : Int) → i ≤ 100 → 102 ≤ m + i → ∃ (W' : S_Walk) (Fl' : S_Fld) (L' : S_Lps), Walk_over_L6 c.fu 100 c.t c.P row m x W Fl L = some (W', Fl', L') ∧ EndB c W' Fl'
  | 0, i, n, x, W, Fl, L, s, rd, S, hx, hc, h100, hm => absurd hm (by omega)
  | m + 1, i, n, x, W, Fl, L, s, rd, S, hx, hc, h100, hm => by
    have k1 : (1 : Int32).toInt = 1 := by decide
    have kh : (100 : Int32).toInt = 100 := by decide
    obtain ⟨b, W1, Fl1, L1, eA, hA⟩ := ADV ok S
    have eA : Walk_advance c.fu c.t c.P W Fl L = some (b, W1, Fl1, L1) := eA
    rcases hA with ⟨hb, hcn, s1, n1, hKA, hFE⟩ | ⟨hb, hFl, hE⟩
    · obtain ⟨hi, hc1, a0, a1, a2, a3, a4, a5, rep, tu, ki, co, wd, sca, lk, rp, ba, q, Fl0, v1, v3, v4, v5, v6, v7, v8, v10, v11, v12, v13⟩ := FE_i hc h100 hcn hFE
      have nb : ¬ b = 0 := by rw [hb]; decide
      have nh : ¬ (100 : Int32) ≤ x := by rw [i_le]; omega
      have gx : o_in x 100 = true := i_in.mpr (by omega)
      have nx : x.toNatClampNeg = i := by
        have := i_nat (a := x) (by omega)
        omega
      rw [Walk_over_L6, bd_s eA, if_neg nb, if_neg nh, gd_t gx, nx]
      dsimp only
      obtain ⟨rep', v, s2, rd2, e1, e2, e3, e4, e5⟩ := come_inv v3 v1 hi v7
      have hmS : (Mo_mode s).toInt = (Mo_mode c.z).toInt ∧ (Mo_subset s).toInt = (Mo_subset c.z).toInt := by
        obtain ⟨_, _, _, _, _, _, _, _, _, _, _, _, _, _, _, _, _, _, _, _, _, _, K, _⟩ := S
        exact ⟨K.2.1, K.2.2.1⟩
      have mm : (Mo_mode s1).toInt = (Mo_mode c.z).toInt := by rw [hKA.2.2.1]; exact hmS.1
      have ms : (Mo_subset s1).toInt = (k : Int) := by rw [hKA.2.2.2.1, hmS.2]; exact hsb
      obtain ⟨g1, g2, g3⟩ := val_01 (k := k) (i := i) (show (Mo_mode (Mo_set_fields s1 (Mo_fields s1 + 1))).toInt < 2 by show (Mo_mode s1).toInt < 2; rw [mm]; exact hmd) ms hk v1 hi e2
      rw [← hrow i hi] at g1
      subst g1
      by_cases okk : okv a0 (row i)
      · by_cases okR : okr (Mo_mode s2) a0 a2 a4 (row i)
        · rcases e5 with ⟨_, _, _, y1, y2⟩ | ⟨y, _⟩
          · have z0 : Mo_fault q.2.1 = 0 := by rw [y2, g2]; exact v3
            obtain ⟨W2, L2, s3, st, hK3, S3⟩ := v13 z0 (by rw [y1]; exact okk)
            rw [y1] at st
            rw [bd_s st]
            have ex : (x + 1).toInt = ((i + 1 : Nat) : Int) := by
              rw [i_add (a := x) (b := 1) (by omega) (by omega), hx, k1]
              rfl
            exact over_L ok hmd hsb hk hrow hm1 m (i + 1) n1 (x + 1) W2 Fl1 L2 s3 q.2.2.1 S3 ex (by rw [hc1]; rfl) (by clear ex; omega) (by clear ex; omega)
          · exact absurd ⟨by rw [g2]; exact v3, okk, okR⟩ y
        · exfalso
          rcases e5 with ⟨_, _, y, _⟩ | ⟨_, y⟩
          · exact okR y
          · have hf := (v12 y).1
            rcases hm1 with z | z
            · apply okR
              left
              intro z1
              apply z
              rw [← mm]
              have z2 : Mo_mode s2 = Mo_mode s1 := by rw [g2]
              rw [← z2, z1]
              exact k1
            · exact hf z
      · rcases e5 with ⟨_, y, _⟩ | ⟨_, y⟩
        · exact absurd y okk
        · obtain ⟨hf, hF⟩ := v12 y
          have kk : ¬ okv (Fld_kinds Fl1 i) (row i) := by
            rw [v10, gvF_at.1]
            exact okk
          obtain ⟨W2, st, hw2⟩ := settle_bad (W := W1) (L := L1) hc1 hi kk
          rw [bd_s st]
          obtain ⟨m, rfl⟩ : ∃ m', m = m' + 1 := ⟨m - 1, by omega⟩
          exact ⟨W2, Fl1, L1, (over_f ok.1 hw2).2, hF, Or.inr ⟨hw2, hf⟩⟩
    · rw [Walk_over_L6, bd_s eA, if_pos hb]
      refine ⟨W1, Fl1, L1, rfl, hE.1, ?_⟩
      rcases hE.2 with ⟨y1, y2, _⟩ | y
      · exact Or.inl ⟨y1, y2⟩
      · exact Or.inr y

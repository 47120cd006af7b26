-- a mark's field: the event
abbrev QK : Type := S_Mo × (Nat → Int64) × (Nat → Int32) × (Nat → Int32) × (Nat → Int32) × (Nat → Int32) × (Nat → Int32) × (Nat → Int32) × (Nat → Int64)
theorem mk_field {c : Cst} {n : Nat} {W : S_Walk} {Fl : S_Fld} {L : S_Lps} {s : S_Mo} {rd : Nat → Int64} {li ne en be lf tu fo op ki co wd sca lk rp : Nat → Int32} {ba : Nat → Int64} {ea pa : Nat → Int32} {o a : Nat} {w : QK} (ok : Cok c) (R : WB c.t c.P W Fl L s li ne en be lf tu op ki co wd sca lk rp ba ea pa o a) (hce : Walk_countedEnd W = (-1)) (WIs : WI s) (K : WK s c.z) (Aw : A_Mwidth wd) (hw : Mod_walkMark c.fu c.va tu pa c.bi s rd ki co wd sca lk rp ba = some w) (hrun : RunL c n w.1 w.2.1 li ne en be lf tu fo op w.2.2.1 w.2.2.2.1 w.2.2.2.2.1 w.2.2.2.2.2.1 w.2.2.2.2.2.2.1 w.2.2.2.2.2.2.2.1 w.2.2.2.2.2.2.2.2 ea pa) : ∃ (W' : S_Walk) (Fl' : S_Fld), Walk_giveMark L W Fl = some (W', Fl') ∧ ((Fl' = Fl ∧ ¬ Walk_fault W' = 0 ∧ ¬ Mo_fault c.r.1 = 0 ∧ FdE Fl c.r) ∨ (Fld_count Fl' = Fld_count Fl + 1 ∧ ∃ s0 : S_Mo, KA s0 s ∧ FE c n W' Fl' L s0 rd)) := by
  obtain ⟨hf, It_, IP, T, Iw, Is, Ils, Ile, Irf⟩ := ok
  obtain ⟨r1, r2, r3, r4, r5, r6, r7, r8, r9, ⟨y1, y2, y3, y4, y5, y6, y7⟩, r11, r12, r13⟩ := R
  have R11 := r11
  obtain ⟨f1, f2, f3, f4'⟩ := r11
  obtain ⟨i, hi⟩ : ∃ i : Nat, (Mo_fields s).toInt = (i : Int) := ⟨(Mo_fields s).toInt.toNat, by omega⟩
  have hcnt : (Fld_count Fl).toInt = (i : Int) := by rw [f1]; exact hi
  have k1 : (1 : Int32).toInt = 1 := by decide
  unfold Mod_walkMark o_lt at hw
  by_cases cp : Mo_pointer s = Mo_pointed s
  · -- no bit is left
    rw [if_pos cp] at hw
    obtain ⟨s7, e7, hw⟩ := oi_bd hw
    have hw := (Option.some.inj hw).symm
    have x := wrong_x (by decide) e7
    rw [hw] at hrun
    have e := run_f x.1 hrun.2
    have nc : ¬ Walk_nextPointed W < Walk_pointedCount W := by
      rw [y4, y1, cp, i_lt]
      exact Int.lt_irrefl _
    refine ⟨Walk_set_place (Walk_set_fault (Walk_set_dueKind W (-1)) 7) (Fld_count Fl), Fl, ?_, Or.inl ⟨rfl, by show ¬ (7 : Int32) = 0; decide, ?_⟩⟩
    · unfold Walk_giveMark o_lt
      dsimp only
      rw [if_neg (show ¬ Walk_nextPointed (Walk_set_dueKind W (-1)) < Walk_pointedCount (Walk_set_dueKind W (-1)) from nc)]
      rfl
    · unfold FdE
      rw [e]
      refine ⟨x.1, ?_⟩
      show FdR Fl s7 ki co wd sca lk rp ba
      unfold FdR
      rw [x.2.1]
      exact ⟨f1, f2, f3, f4'⟩
  · rw [if_neg cp] at hw
    have hw := oe_gd (oe_gd (oe_gd (oe_gd (oe_gd hw))))
    obtain ⟨⟨v, sq, rdq, kiq, coq, wdq, scaq, lkq, rpq, baq⟩, hq, hw⟩ := oi_bd hw
    have hw : w = (sq, rdq, kiq, coq, wdq, scaq, lkq, rpq, baq) := (Option.some.inj hw).symm
    rw [hw] at hrun
    have np := i_nat y5
    obtain ⟨k, hk⟩ : ∃ k : Nat, (Mo_pointer s).toNatClampNeg = k := ⟨_, rfl⟩
    rw [hk] at hq np
    have cp' : (Mo_pointer s).toInt < (Mo_pointed s).toInt := by
      have : (Mo_pointer s).toInt ≠ (Mo_pointed s).toInt := fun e => cp (i_eq.mpr e)
      omega
    obtain ⟨z1, z2, z3⟩ := y7 k (by omega)
    have nu := i_nat z2
    obtain ⟨u, hu⟩ : ∃ u : Nat, (pa k).toNatClampNeg = u := ⟨_, rfl⟩
    rw [hu] at hq nu
    obtain ⟨d1, d2, d3, d4, d5, d6, d7, _, dbb, dw1⟩ := f4' u (by omega)
    have aw := A_Mwidth_at Aw u
    have ep : (Mo_pointer s + 1).toInt = (Mo_pointer s).toInt + 1 := by
      rw [i_add (a := Mo_pointer s) (b := 1) (by omega) (by omega), k1]
    obtain ⟨s0, hs0⟩ : ∃ s0, s0 = Mo_set_pointer s (Mo_pointer s + 1) := ⟨_, rfl⟩
    rw [← hs0] at hq
    have WI0 : WI s0 := by
      rw [hs0]
      obtain ⟨w1, w2, w3, w4, w5, w6, w7⟩ := WIs
      refine ⟨I_Mo_set_pointer w1 (by rw [ep]; clear ep; omega), w2, w3, w4, w5, w6, ?_⟩
      show (Mo_pointer s + 1).toInt ≤ (Mo_pointed s).toInt
      rw [ep]
      clear ep
      omega
    have K0 : WK s0 c.z := by rw [hs0]; exact K
    obtain ⟨W4, hW4⟩ : ∃ W4, W4 = Walk_set_nextPointed (Walk_set_dueKind W (-1)) (Walk_nextPointed W + 1) := ⟨_, rfl⟩
    have R0 : WB c.t c.P W4 Fl L s0 li ne en be lf tu op ki co wd sca lk rp ba ea pa o a := by
      rw [hW4, hs0]
      refine ⟨r1, r2, r3, r4, r5, r6, r7, r8, r9, ⟨y1, y2, y3, ?_, ?_, ?_, y7⟩, R11, r12, r13⟩
      · show Walk_nextPointed W + 1 = Mo_pointer s + 1
        rw [y4]
      · show 0 ≤ (Mo_pointer s + 1).toInt
        rw [ep]
        clear ep
        omega
      · show (Mo_pointer s + 1).toInt ≤ (Mo_pointed s).toInt
        rw [ep]
        clear ep
        omega
    clear ep
    have R0' := R0
    obtain ⟨t1, t2, t3, t4, t5, t6, t7, t8, t9, t10, t11, t12, t13⟩ := R0
    have hi0 : (Mo_fields s0).toInt = (i : Int) := by rw [hs0]; exact hi
    obtain ⟨rep, er1, er2⟩ := rep_both (fu := c.fu) hf t3 t12 t13
    have gm : Walk_giveMark L W Fl = Walk_give L 4 (co u) (wd u) (sca u) (ba u) (pa k) W4 Fl := by
      have nn : (Walk_nextPointed W).toNatClampNeg = k := by rw [y4]; exact hk
      have lt : Walk_nextPointed W < Walk_pointedCount W := by rw [y4, y1, i_lt]; exact cp'
      have g16 : o_in (Walk_nextPointed W) 16 = true := i_in.mpr (by rw [y4]; omega)
      have g100 : o_in (pa k) 100 = true := i_in.mpr (by omega)
      unfold Walk_giveMark o_lt
      dsimp only
      rw [if_pos (show Walk_nextPointed (Walk_set_dueKind W (-1)) < Walk_pointedCount (Walk_set_dueKind W (-1)) from lt)]
      rw [gd_t (show o_in (Walk_nextPointed (Walk_set_dueKind W (-1))) 16 = true from g16)]
      show o_gd (o_in (Walk_pointed W (Walk_nextPointed W).toNatClampNeg) 100) (o_gd (o_in (Walk_pointed W (Walk_nextPointed W).toNatClampNeg) 100) (o_gd (o_in (Walk_pointed W (Walk_nextPointed W).toNatClampNeg) 100) (o_gd (o_in (Walk_pointed W (Walk_nextPointed W).toNatClampNeg) 100) (o_bd (Walk_give L 4 (Fld_codes Fl (Walk_pointed W (Walk_nextPointed W).toNatClampNeg).toNatClampNeg) (Fld_widths Fl (Walk_pointed W (Walk_nextPointed W).toNatClampNeg).toNatClampNeg) (Fld_scales Fl (Walk_pointed W (Walk_nextPointed W).toNatClampNeg).toNatClampNeg) (Fld_references Fl (Walk_pointed W (Walk_nextPointed W).toNatClampNeg).toNatClampNeg) (Walk_pointed W (Walk_nextPointed W).toNatClampNeg) (Walk_set_nextPointed (Walk_set_dueKind W (-1)) (Walk_nextPointed W + 1)) Fl) fun q9 => some (q9.1, q9.2))))) = _
      rw [nn, z1, gd_t g100, gd_t g100, gd_t g100, gd_t g100, hu, d2, d3, d4, d5, ← hW4]
      exact bd_some _
    rw [gm]
    by_cases h100 : i < 100
    · have hge : o_in (Walk_elementCount W4) 100 = true := by
        refine i_in.mpr ?_
        rw [t9.1]
        have := t9.2.1
        have := t9.2.2.1
        omega
      have hg := give_eq (L := L) (a0 := 4) (a1 := co u) (a2 := wd u) (a3 := sca u) (a4 := ba u) (a5 := pa k) (W := W4) hcnt h100 er2 hge
      obtain ⟨rep', v', s1, rd1, c1, c2, c3, c4, c5⟩ := come_inv t2 hi0 h100 hq
      have c3 : (rdq, kiq, coq, wdq, scaq, lkq, rpq, baq) = _ := c3
      rw [er1] at c1
      cases c1
      cases c3
      have cf := come_fields hf WI0 Aw aw t2 hi0 h100 hq
      have cf : Mo_fields sq = Mo_fields s0 + 1 := cf
      obtain ⟨q', eq', k1', k2, k3, k4, k5, k6, k7, k8, k9, k10⟩ := c_come (va := c.va) (tu := tu) (bi := c.bi) (a0 := 4) (a1 := co u) (a2 := wd u) (a3 := sca u) (a4 := ba u) (a5 := pa k) (s := s0) (rd := rd) (ki := ki) (co := co) (wd := wd) (sc := sca) (lk := lk) (rp := rp) (ba := ba) hf WI0 Aw aw.1 aw.2
      rw [hq] at eq'
      cases eq'
      have ei : (Mo_fields s0 + 1).toInt = (i : Int) + 1 := by
        rw [i_add (a := Mo_fields s0) (b := 1) (by omega) (by omega), hi0, k1]
      have FdN : ∀ s' : S_Mo, Mo_fields s' = Mo_fields s0 + 1 → FdR (gvF Fl i 4 (co u) (wd u) (sca u) (ba u) (pa k) rep) s' (upd ki i 4) (upd co i (co u)) (upd wd i (wd u)) (upd sca i (sca u)) (upd lk i (pa k)) (upd rp i rep) (vp_updL ba i (ba u)) := fun s' hs => FdR_give t11 hi0 h100 hs ⟨fun e => absurd e (by decide), dbb, dw1⟩
      have eg : gvW W4 4 (Fld_count Fl) = W4 := if_neg (by decide)
      rw [eg] at hg
      refine ⟨_, _, hg, Or.inr ⟨rfl, s0, by rw [hs0]; exact ⟨rfl, rfl, rfl, rfl, rfl⟩, i, 4, co u, wd u, sca u, ba u, pa k, rep, tu, ki, co, wd, sca, lk, rp, ba, _, Fl, hi0, h100, t2, WI0, Aw, ⟨aw, fun e => absurd e (by decide), dbb, dw1⟩, hq, t11, er1, rfl, t1, fun hq0 => ?_, fun hq0 _ => ?_⟩⟩
      · have hq0 : ¬ Mo_fault sq = 0 := hq0
        have e := run_f hq0 hrun.2
        unfold FdE
        rw [e]
        exact ⟨hq0, FdN sq cf⟩
      · have hk4 : Fld_kinds (gvF Fl i 4 (co u) (wd u) (sca u) (ba u) (pa k) rep) i = 4 := upd_at _ _ _
        have hc1 : (Fld_count (gvF Fl i 4 (co u) (wd u) (sca u) (ba u) (pa k) rep)).toInt = (i : Int) + 1 := by
          show (Fld_count Fl + 1).toInt = _
          rw [t11.1]
          exact ei
        have st := settle_other (v := v) (W := W4) (L := L) hc1 h100 (by rw [hk4]; decide) (by rw [hk4]; decide)
        refine ⟨_, L, sq, st, KA.refl _, ?_⟩
        have R1 := WB_come (a0 := 4) (a1 := co u) (a2 := wd u) (a3 := sca u) (a4 := ba u) (a5 := pa k) (q := rep) R0' hi0 h100 hq0 k4 k5 k6 k7 k8 cf ⟨fun e => absurd e (by decide), dbb, dw1⟩
        obtain ⟨S1, S2⟩ := hrun
        exact ⟨li, ne, en, be, lf, tu, fo, op, _, _, _, _, _, _, _, ea, pa, o, a, R1, by rw [hW4]; exact hce, k1', WK.trans k2 K0, k3, Or.inl ⟨by rw [hW4], S1, S2⟩⟩
    · have h100' : (Mo_fields s0).toInt = 100 := by
        have : (Mo_fields s0).toInt ≤ 100 := t11.2.2.1
        omega
      obtain ⟨W', x1, x2⟩ := give_f (L := L) (a0 := 4) (a1 := co u) (a2 := wd u) (a3 := sca u) (a4 := ba u) (a5 := pa k) (W := W4) (Fl := Fl) (by omega)
      obtain ⟨c1, c2, c3⟩ := come_f (Or.inr h100') hq
      have c1 : (rdq, kiq, coq, wdq, scaq, lkq, rpq, baq) = _ := c1
      cases c1
      have c3 : Mo_fields sq = Mo_fields s0 := c3
      have c2 : ¬ Mo_fault sq = 0 := c2
      have e := run_f c2 hrun.2
      refine ⟨W', Fl, x1, Or.inl ⟨rfl, x2, ?_⟩⟩
      unfold FdE
      rw [e]
      refine ⟨c2, ?_⟩
      show FdR Fl sq ki co wd sca lk rp ba
      unfold FdR
      rw [c3]
      exact t11

-- a quality field: the event
theorem j38_f {fu : Nat} {th sc rf wi : Nat → Int32} {va : Nat → Int64} {tu op bi : Nat → Int32} {d r : Int32} {s : S_Mo} {rd : Nat → Int64} {ki co wd sca lk rp : Nat → Int32} {ba : Nat → Int64} {ea : Nat → Int32} {w : QE} (hz : ¬ Mo_fault s ≤ 0) (h : Mod_walkElement_j38 fu th sc rf wi va tu op bi d r s rd ki co wd sca lk rp ba ea = some w) : w.2 = (rd, ki, co, wd, sca, lk, rp, ba, ea) ∧ ¬ Mo_fault w.1 = 0 ∧ Mo_fields w.1 = Mo_fields s := by
  obtain ⟨p4, g4, _⟩ := t_Mod_added (s := s) (op := op) (a0 := 0) (by decide) (by decide)
  obtain ⟨p8, g8, _⟩ := t_Mod_added (s := s) (op := op) (a0 := 1) (by decide) (by decide)
  obtain ⟨p11, g11, _⟩ := t_Mod_added (s := s) (op := op) (a0 := 3) (by decide) (by decide)
  obtain ⟨⟨v, sq, rdq, kiq, coq, wdq, scaq, lkq, rpq, baq⟩, hq, hw⟩ := j38_inv g4 g8 g11 h
  obtain ⟨c1, c2, c3⟩ := come_f (Or.inl hz) hq
  have c1 : (rdq, kiq, coq, wdq, scaq, lkq, rpq, baq) = _ := c1
  cases c1
  rcases hw with ⟨_, y⟩ | ⟨y, _⟩
  · rw [y]
    exact ⟨rfl, c2, c3⟩
  · exact absurd c3 y
theorem flt_pos {s : S_Mo} (W : WI s) (h : ¬ Mo_fault s = 0) : ¬ Mo_fault s ≤ 0 := by
  have k0 : (0 : Int32).toInt = 0 := by decide
  have h5 := W.2.2.2.2.1
  rw [i_le, k0]
  intro x
  exact h (i_eq.mpr (by omega))
theorem ql_field {c : Cst} {n : Nat} {W : S_Walk} {Fl : S_Fld} {L : S_Lps} {s : S_Mo} {rd : Nat → Int64} {li ne en be lf tu fo op ki co wd sca lk rp : Nat → Int32} {ba : Nat → Int64} {ea pa : Nat → Int32} {o a : Nat} {q1 : Int32} {q : QC} {w : QE} (ok : Cok c) (R : WB c.t c.P W Fl L s li ne en be lf tu op ki co wd sca lk rp ba ea pa o a) (hce : Walk_countedEnd W = (-1)) (WIs : WI s) (K : WK s c.z) (Aw : A_Mwidth wd) (hs2 : ¬ Walk_settings W 2 = 0) (h0 : 0 ≤ (Walk_dueCode W).toInt) (h1 : (Walk_dueCode W).toInt ≤ 63) (E : EOK c.th c.wi (Mo_used c.z) (Walk_dueCode W) op) (hfo : Mod_force c.fu s c.th (Walk_dueCode W) = some q1) (hq : Mod_come c.fu c.va tu c.bi 1 (-1) (op 2) 0 0 (Mo_fields s + 1) s rd ki co wd sca lk rp ba = some q) (hj : Mod_walkElement_j38 c.fu c.th c.sc c.rf c.wi c.va tu op c.bi (Walk_dueCode W) q1 q.2.1 q.2.2.1 q.2.2.2.1 q.2.2.2.2.1 q.2.2.2.2.2.1 q.2.2.2.2.2.2.1 q.2.2.2.2.2.2.2.1 q.2.2.2.2.2.2.2.2.1 q.2.2.2.2.2.2.2.2.2 ea = some w) (hrun : RunL c n w.1 w.2.1 li ne en be lf tu fo op w.2.2.1 w.2.2.2.1 w.2.2.2.2.1 w.2.2.2.2.2.1 w.2.2.2.2.2.2.1 w.2.2.2.2.2.2.2.1 w.2.2.2.2.2.2.2.2.1 w.2.2.2.2.2.2.2.2.2 pa) : ∃ (W' : S_Walk) (Fl' : S_Fld), Walk_giveQuality L W Fl = some (W', Fl') ∧ ((Fl' = Fl ∧ ¬ Walk_fault W' = 0 ∧ ¬ Mo_fault c.r.1 = 0 ∧ FdE Fl c.r) ∨ (Fld_count Fl' = Fld_count Fl + 1 ∧ FE c n W' Fl' L s rd)) := by
  have ok' := ok
  obtain ⟨hf, It_, IP, T, Iw, Is, Ils, Ile, Irf⟩ := ok
  have R' := R
  obtain ⟨r1, r2, r3, r4, r5, r6, r7, r8, r9, r10, r11, r12, r13⟩ := R
  obtain ⟨v, sq, rdq, kiq, coq, wdq, scaq, lkq, rpq, baq⟩ := q
  obtain ⟨rep, er1, er2⟩ := rep_both (fu := c.fu) hf r3 r12 r13
  obtain ⟨f1, f2, f3, f4'⟩ := r11
  obtain ⟨i, hi⟩ : ∃ i : Nat, (Mo_fields s).toInt = (i : Int) := ⟨(Mo_fields s).toInt.toNat, by omega⟩
  have hcnt : (Fld_count Fl).toInt = (i : Int) := by rw [f1]; exact hi
  have k0 : (0 : Int32).toInt = 0 := by decide
  have e2 : Walk_settings W 2 = op 2 ∧ 0 ≤ (op 2).toInt ∧ (op 2).toInt ≤ 32 := by
    obtain ⟨o1, o2, o3⟩ := r8 2 (by decide)
    rw [if_neg (show ¬ (2 : Nat) = 0 by decide), if_neg (show ¬ (2 : Nat) = 1 by decide)] at o3
    rw [i_eq, k0] at hs2
    exact ⟨i_eq.mpr (by omega), by omega, by omega⟩
  have h1q : 1 ≤ (op 2).toInt := by
    have x := e2
    rw [i_eq, k0, x.1] at hs2
    omega
  have gq : Walk_giveQuality L W Fl = Walk_give L 1 (-1) (op 2) 0 0 (Mo_fields s + 1) (Walk_set_dueKind W 0) Fl := by
    unfold Walk_giveQuality o_lt
    dsimp only
    rw [gd_t (show o_in 2 4 = true by decide), ← f1, ← e2.1]
    exact bd_some _
  rw [gq]
  by_cases h100 : i < 100
  · have hge : o_in (Walk_elementCount (Walk_set_dueKind W 0)) 100 = true := by
      refine i_in.mpr ?_
      show 0 ≤ (Walk_elementCount W).toInt ∧ (Walk_elementCount W).toInt < _
      rw [r9.1]
      have := r9.2.1
      have := r9.2.2.1
      omega
    have hg := give_eq (L := L) (a0 := 1) (a1 := -1) (a2 := op 2) (a3 := 0) (a4 := 0) (a5 := Mo_fields s + 1) (W := Walk_set_dueKind W 0) hcnt h100 er2 hge
    obtain ⟨rep', v', s1, rd1, c1, c2, c3, c4, c5⟩ := come_inv r2 hi h100 hq
    have c3 : (rdq, kiq, coq, wdq, scaq, lkq, rpq, baq) = _ := c3
    rw [er1] at c1
    cases c1
    cases c3
    have cf := come_fields hf WIs Aw e2.2 r2 hi h100 hq
    have cf : Mo_fields sq = Mo_fields s + 1 := cf
    obtain ⟨q', eq', k1, k2, k3, k4, k5, k6, k7, k8, k9, k10⟩ := c_come (va := c.va) (tu := tu) (bi := c.bi) (a0 := 1) (a1 := -1) (a2 := op 2) (a3 := 0) (a4 := 0) (a5 := Mo_fields s + 1) (s := s) (rd := rd) (ki := ki) (co := co) (wd := wd) (sc := sca) (lk := lk) (rp := rp) (ba := ba) hf WIs Aw e2.2.1 e2.2.2
    rw [hq] at eq'
    cases eq'
    have kk1 : (1 : Int32).toInt = 1 := by decide
    have ei : (Mo_fields s + 1).toInt = (i : Int) + 1 := by
      rw [i_add (a := Mo_fields s) (b := 1) (by omega) (by omega), hi, kk1]
    have FdN : ∀ s' : S_Mo, Mo_fields s' = Mo_fields s + 1 → FdR (gvF Fl i 1 (-1) (op 2) 0 0 (Mo_fields s + 1) rep) s' (upd ki i 1) (upd co i (-1)) (upd wd i (op 2)) (upd sca i 0) (upd lk i (Mo_fields s + 1)) (upd rp i rep) (vp_updL ba i 0) := fun s' hs => FdR_give ⟨f1, f2, f3, f4'⟩ hi h100 hs ⟨fun e => absurd e (by decide), BB_0, h1q⟩
    have eg : gvW (Walk_set_dueKind W 0) 1 (Fld_count Fl) = Walk_set_dueKind W 0 := if_neg (by decide)
    rw [eg] at hg
    refine ⟨_, _, hg, Or.inr ⟨rfl, i, 1, -1, op 2, 0, 0, Mo_fields s + 1, rep, tu, ki, co, wd, sca, lk, rp, ba, _, Fl, hi, h100, r2, WIs, Aw, ⟨e2.2, fun e => absurd e (by decide), BB_0, h1q⟩, hq, ⟨f1, f2, f3, f4'⟩, er1, rfl, r1, fun hq0 => ?_, fun hq0 _ => ?_⟩⟩
    · have hp : ¬ Mo_fault sq ≤ 0 := flt_pos k1 hq0
      obtain ⟨w1, w2⟩ := w
      obtain ⟨y1, y2, y3⟩ := j38_f hp hj
      have y1 : w2 = _ := y1
      subst y1
      have e := run_f y2 hrun.2
      unfold FdE
      rw [e]
      exact ⟨y2, FdN w1 (y3.trans cf)⟩
    · have hk : Fld_kinds (gvF Fl i 1 (-1) (op 2) 0 0 (Mo_fields s + 1) rep) i = 1 := upd_at _ _ _
      have hc1 : (Fld_count (gvF Fl i 1 (-1) (op 2) 0 0 (Mo_fields s + 1) rep)).toInt = (i : Int) + 1 := by
        show (Fld_count Fl + 1).toInt = _
        rw [f1]
        exact ei
      have st := settle_other (v := v) (W := Walk_set_dueKind W 0) (L := L) hc1 h100 (by rw [hk]; decide) (by rw [hk]; decide)
      refine ⟨_, L, sq, st, KA.refl _, ?_⟩
      have RW : WB c.t c.P (Walk_set_dueKind W 0) Fl L s li ne en be lf tu op ki co wd sca lk rp ba ea pa o a := R'
      have R1 := WB_come (a0 := 1) (a1 := -1) (a2 := op 2) (a3 := 0) (a4 := 0) (a5 := Mo_fields s + 1) (q := rep) RW hi h100 hq0 k4 k5 k6 k7 k8 cf ⟨fun e => absurd e (by decide), BB_0, h1q⟩
      have Ksq : WK sq c.z := WK.trans k2 K
      obtain ⟨ra, _, _, _, exa, ema, _⟩ := el_args (W := W) hf It_ WIs.1 K.1.1 T r8 h0 h1 E
      obtain ⟨rb, _, _, _, exb, emb, _⟩ := el_args (W := W) (s := sq) hf It_ k1.1 Ksq.1.1 T r8 h0 h1 E
      have e1 : q1 = ra := Option.some.inj (hfo.symm.trans ema)
      have e2' : rb = ra := Option.some.inj (exb.symm.trans exa)
      have hfo' : Mod_force c.fu sq c.th (Walk_dueCode W) = some q1 := by rw [emb, e2', e1]
      exact ⟨li, ne, en, be, lf, tu, fo, op, _, _, _, _, _, _, _, ea, pa, o, a, R1, hce, k1, Ksq, k3, Or.inr (Or.inl ⟨rfl, ⟨h0, h1⟩, E, q1, w, hfo', hj, hrun⟩)⟩
  · have h100' : (Mo_fields s).toInt = 100 := by omega
    obtain ⟨W', x1, x2⟩ := give_f (L := L) (a0 := 1) (a1 := -1) (a2 := op 2) (a3 := 0) (a4 := 0) (a5 := Mo_fields s + 1) (W := Walk_set_dueKind W 0) (Fl := Fl) (by omega)
    obtain ⟨c1, c2, c3⟩ := come_f (Or.inr h100') hq
    have c1 : (rdq, kiq, coq, wdq, scaq, lkq, rpq, baq) = _ := c1
    cases c1
    have c3 : Mo_fields sq = Mo_fields s := c3
    obtain ⟨q', eq', k1, _⟩ := c_come (va := c.va) (tu := tu) (bi := c.bi) (a0 := 1) (a1 := -1) (a2 := op 2) (a3 := 0) (a4 := 0) (a5 := Mo_fields s + 1) (s := s) (rd := rd) (ki := ki) (co := co) (wd := wd) (sc := sca) (lk := lk) (rp := rp) (ba := ba) hf WIs Aw e2.2.1 e2.2.2
    rw [hq] at eq'
    cases eq'
    have hp : ¬ Mo_fault sq ≤ 0 := flt_pos k1 c2
    obtain ⟨w1, w2⟩ := w
    obtain ⟨y1, y2, y3⟩ := j38_f hp hj
    have y1 : w2 = _ := y1
    subst y1
    have e := run_f y2 hrun.2
    refine ⟨W', Fl, x1, Or.inl ⟨rfl, x2, ?_⟩⟩
    unfold FdE
    rw [e]
    refine ⟨y2, ?_⟩
    show FdR Fl w1 ki co wd sca lk rp ba
    have y3 : Mo_fields w1 = Mo_fields sq := y3
    unfold FdR
    rw [y3, c3]
    exact ⟨f1, f2, f3, f4'⟩

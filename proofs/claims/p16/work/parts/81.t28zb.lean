-- an element's field: the event
theorem come_fields {fu i : Nat} {va : Nat → Int64} {tu bi : Nat → Int32} {a0 a1 a2 a3 a5 : Int32} {a4 : Int64} {s : S_Mo} {rd : Nat → Int64} {ki co wd sca lk rp : Nat → Int32} {ba : Nat → Int64} {q : QC} (hf : 12000 ≤ fu) (WIs : WI s) (Aw : A_Mwidth wd) (h2 : 0 ≤ a2.toInt ∧ a2.toInt ≤ 32) (hz : Mo_fault s = 0) (hi : (Mo_fields s).toInt = (i : Int)) (h100 : i < 100) (h : Mod_come fu va tu bi a0 a1 a2 a3 a4 a5 s rd ki co wd sca lk rp ba = some q) : Mo_fields q.2.1 = Mo_fields s + 1 := by
  obtain ⟨rep, v, s1, rd1, e1, e2, e3, e4, _⟩ := come_inv hz hi h100 h
  obtain ⟨w1, w2, w3, w4, w5, w6, w7⟩ := WIs
  have k1 : (1 : Int32).toInt = 1 := by decide
  have ei : (Mo_fields s + 1).toInt = (i : Int) + 1 := by
    rw [i_add (a := Mo_fields s) (b := 1) (by omega) (by omega), hi, k1]
  obtain ⟨p, ep, hp⟩ := t_Mod_valueOf (fu := fu) (sMvalues := va) (sMkind := upd ki i a0) (sMwidth := upd wd i a2) (sMbase := vp_updL ba i a4) (sMbits := bi) (a0 := Mo_fields s) (sMo := Mo_set_fields s (Mo_fields s + 1)) (sMread := rd) hf (A_Mwidth_upd Aw h2) (I_Mo_set_fields w1 (by rw [ei]; clear ei; omega)) (by clear ei; omega) (by clear ei; omega) w2 w3 w4 w5
  rw [e2] at ep
  cases ep
  have g := hp.2.2.2.2.2.2.2.1
  rw [e4]
  exact i_eq.mpr g
theorem el_field {c : Cst} {n : Nat} {W : S_Walk} {Fl : S_Fld} {L : S_Lps} {s : S_Mo} {rd : Nat → Int64} {li ne en be lf tu fo op ki co wd sca lk rp : Nat → Int32} {ba : Nat → Int64} {ea pa : Nat → Int32} {o a : Nat} {q1 : Int32} {w : QE} (ok : Cok c) (R : WB c.t c.P W Fl L s li ne en be lf tu op ki co wd sca lk rp ba ea pa o a) (hce : Walk_countedEnd W = (-1)) (WIs : WI s) (K : WK s c.z) (Aw : A_Mwidth wd) (hd : Walk_dueKind W = 0) (h0 : 0 ≤ (Walk_dueCode W).toInt) (h1 : (Walk_dueCode W).toInt ≤ 63) (E : EOK c.th c.wi (Mo_used c.z) (Walk_dueCode W) op) (hfo : Mod_force c.fu s c.th (Walk_dueCode W) = some q1) (hj : Mod_walkElement_j38 c.fu c.th c.sc c.rf c.wi c.va tu op c.bi (Walk_dueCode W) q1 s rd ki co wd sca lk rp ba ea = some w) (hrun : RunL c n w.1 w.2.1 li ne en be lf tu fo op w.2.2.1 w.2.2.2.1 w.2.2.2.2.1 w.2.2.2.2.2.1 w.2.2.2.2.2.2.1 w.2.2.2.2.2.2.2.1 w.2.2.2.2.2.2.2.2.1 w.2.2.2.2.2.2.2.2.2 pa) : ∃ (W' : S_Walk) (Fl' : S_Fld), Walk_giveFromEntry c.fu c.t L W Fl = some (W', Fl') ∧ ((Fl' = Fl ∧ ¬ Walk_fault W' = 0 ∧ ¬ Mo_fault c.r.1 = 0 ∧ FdE Fl c.r) ∨ (Fld_count Fl' = Fld_count Fl + 1 ∧ FE c n W' Fl' L s rd)) := by
  obtain ⟨hf, It_, IP, T, Iw, Is, Ils, Ile, Irf⟩ := ok
  have R' := R
  obtain ⟨r1, r2, r3, r4, r5, r6, r7, r8, r9, r10, r11, r12, r13⟩ := R
  obtain ⟨r, p4, p8, p11, ex, em, x0, x1, f4, f8, g4, g8, g11, e11, v1, v2, v3, b1, b2⟩ := el_args (W := W) hf It_ WIs.1 K.1.1 T r8 h0 h1 E
  have er : q1 = r := Option.some.inj (hfo.symm.trans em)
  rw [er] at hj
  have hbb : BB ((c.rf r.toNatClampNeg).toInt64 <<< (p11.toInt64 &&& 63)) := by
    obtain ⟨o1, o2, _⟩ := r8 3 (by decide)
    exact BB_sh (Irf _) (by rw [e11]; exact o1) (by rw [e11]; exact o2) shl_mul
  have e4 : (Tab_references c.t r.toNatClampNeg).toInt64 * (1 <<< ((Walk_settings W 3).toInt64 &&& 63)) = (c.rf r.toNatClampNeg).toInt64 <<< (p11.toInt64 &&& 63) := by rw [shl_mul, v3, e11]
  rw [gfe_0 (L := L) (Fl := Fl) hd ex x0 x1 f4 f8, e4, v1, v2]
  obtain ⟨⟨v, sq, rdq, kiq, coq, wdq, scaq, lkq, rpq, baq⟩, hq, hw⟩ := j38_inv g4 g8 g11 hj
  obtain ⟨rep, er1, er2⟩ := rep_both (fu := c.fu) hf r3 r12 r13
  obtain ⟨f1, f2, f3, f4'⟩ := r11
  obtain ⟨i, hi⟩ : ∃ i : Nat, (Mo_fields s).toInt = (i : Int) := ⟨(Mo_fields s).toInt.toNat, by omega⟩
  have hcnt : (Fld_count Fl).toInt = (i : Int) := by rw [f1]; exact hi
  by_cases h100 : i < 100
  · -- a field
    have hge : o_in (Walk_elementCount (Walk_set_dueKind W (-1))) 100 = true := by
      refine i_in.mpr ?_
      show 0 ≤ (Walk_elementCount W).toInt ∧ (Walk_elementCount W).toInt < _
      rw [r9.1]
      have := r9.2.1
      have := r9.2.2.1
      omega
    have hg := give_eq (L := L) (a0 := 0) (a1 := Walk_dueCode W) (a2 := c.wi r.toNatClampNeg + p4) (a3 := c.sc r.toNatClampNeg + p8) (a4 := (c.rf r.toNatClampNeg).toInt64 <<< (p11.toInt64 &&& 63)) (a5 := -1) (W := Walk_set_dueKind W (-1)) hcnt h100 er2 hge
    obtain ⟨rep', v', s1, rd1, c1, c2, c3, c4, c5⟩ := come_inv r2 hi h100 hq
    have c3 : (rdq, kiq, coq, wdq, scaq, lkq, rpq, baq) = _ := c3
    rw [er1] at c1
    cases c1
    cases c3
    have cf := come_fields hf WIs Aw ⟨by omega, b2⟩ r2 hi h100 hq
    have cf : Mo_fields sq = Mo_fields s + 1 := cf
    obtain ⟨q', eq', k1, k2, k3, k4, k5, k6, k7, k8, k9, k10⟩ := c_come (va := c.va) (tu := tu) (bi := c.bi) (a0 := 0) (a1 := Walk_dueCode W) (a2 := c.wi r.toNatClampNeg + p4) (a3 := c.sc r.toNatClampNeg + p8) (a4 := (c.rf r.toNatClampNeg).toInt64 <<< (p11.toInt64 &&& 63)) (a5 := -1) (s := s) (rd := rd) (ki := ki) (co := co) (wd := wd) (sc := sca) (lk := lk) (rp := rp) (ba := ba) hf WIs Aw (by omega) b2
    rw [hq] at eq'
    cases eq'
    have kk1 : (1 : Int32).toInt = 1 := by decide
    have ei : (Mo_fields s + 1).toInt = (i : Int) + 1 := by
      rw [i_add (a := Mo_fields s) (b := 1) (by omega) (by omega), hi, kk1]
    have nf : ¬ Mo_fields sq = Mo_fields s := by
      rw [cf, i_eq, ei, hi]
      clear ei
      omega
    have hw : w = (Mo_set_elements sq (Mo_elements sq + 1), rdq, upd ki i 0, upd co i (Walk_dueCode W), upd wd i (c.wi r.toNatClampNeg + p4), upd sca i (c.sc r.toNatClampNeg + p8), upd lk i (-1), upd rp i rep, vp_updL ba i ((c.rf r.toNatClampNeg).toInt64 <<< (p11.toInt64 &&& 63)), upd ea (Mo_elements sq).toNatClampNeg (Mo_fields s)) := by
      rcases hw with ⟨y, _⟩ | ⟨_, y⟩
      · exact absurd y nf
      · exact y
    rw [hw] at hrun
    have FdN : ∀ s' : S_Mo, Mo_fields s' = Mo_fields s + 1 → FdR (gvF Fl i 0 (Walk_dueCode W) (c.wi r.toNatClampNeg + p4) (c.sc r.toNatClampNeg + p8) ((c.rf r.toNatClampNeg).toInt64 <<< (p11.toInt64 &&& 63)) (-1) rep) s' (upd ki i 0) (upd co i (Walk_dueCode W)) (upd wd i (c.wi r.toNatClampNeg + p4)) (upd sca i (c.sc r.toNatClampNeg + p8)) (upd lk i (-1)) (upd rp i rep) (vp_updL ba i ((c.rf r.toNatClampNeg).toInt64 <<< (p11.toInt64 &&& 63))) := fun s' hs => FdR_give ⟨f1, f2, f3, f4'⟩ hi h100 hs ⟨fun e => absurd e (by decide), hbb, b1⟩
    refine ⟨_, _, hg, Or.inr ⟨rfl, i, 0, Walk_dueCode W, c.wi r.toNatClampNeg + p4, c.sc r.toNatClampNeg + p8, (c.rf r.toNatClampNeg).toInt64 <<< (p11.toInt64 &&& 63), -1, rep, tu, ki, co, wd, sca, lk, rp, ba, _, Fl, hi, h100, r2, WIs, Aw, ⟨⟨by clear ei; omega, b2⟩, fun e => absurd e (by decide), hbb, b1⟩, hq, ⟨f1, f2, f3, f4'⟩, er1, rfl, ?_, fun hq0 => ?_, fun hq0 _ => ?_⟩⟩
    · unfold gvW
      rw [if_pos rfl]
      exact r1
    · have hq0 : ¬ Mo_fault (Mo_set_elements sq (Mo_elements sq + 1)) = 0 := hq0
      have e := run_f hq0 hrun.2
      unfold FdE
      rw [e]
      exact ⟨hq0, FdN _ cf⟩
    · have hk : Fld_kinds (gvF Fl i 0 (Walk_dueCode W) (c.wi r.toNatClampNeg + p4) (c.sc r.toNatClampNeg + p8) ((c.rf r.toNatClampNeg).toInt64 <<< (p11.toInt64 &&& 63)) (-1) rep) i = 0 := upd_at _ _ _
      have hc1 : (Fld_count (gvF Fl i 0 (Walk_dueCode W) (c.wi r.toNatClampNeg + p4) (c.sc r.toNatClampNeg + p8) ((c.rf r.toNatClampNeg).toInt64 <<< (p11.toInt64 &&& 63)) (-1) rep)).toInt = (i : Int) + 1 := by
        show (Fld_count Fl + 1).toInt = _
        rw [f1]
        exact ei
      have st := settle_other (v := v) (W := gvW (Walk_set_dueKind W (-1)) 0 (Fld_count Fl)) (L := L) hc1 h100 (by rw [hk]; decide) (by rw [hk]; decide)
      refine ⟨_, L, Mo_set_elements sq (Mo_elements sq + 1), st, ⟨rfl, rfl, rfl, rfl, rfl⟩, ?_⟩
      have RW : WB c.t c.P (Walk_set_dueKind W (-1)) Fl L s li ne en be lf tu op ki co wd sca lk rp ba ea pa o a := R'
      have R1 := WB_come (a0 := 0) (a1 := Walk_dueCode W) (a2 := c.wi r.toNatClampNeg + p4) (a3 := c.sc r.toNatClampNeg + p8) (a4 := (c.rf r.toNatClampNeg).toInt64 <<< (p11.toInt64 &&& 63)) (a5 := -1) (q := rep) RW hi h100 hq0 k4 k5 k6 k7 k8 cf ⟨fun e => absurd e (by decide), hbb, b1⟩
      have R2 := WB_elem (i := i) (c := Fld_count Fl) R1 hcnt (by rw [cf]; exact ei) (by
        have := r9.2.2.1
        rw [k6]
        clear ei
        omega)
      obtain ⟨S1, S2⟩ := hrun
      have eg : gvW (Walk_set_dueKind W (-1)) 0 (Fld_count Fl) = Walk_set_elementCount (Walk_put_elements (Walk_set_dueKind W (-1)) (Walk_elementCount (Walk_set_dueKind W (-1))).toNatClampNeg (Fld_count Fl)) (Walk_elementCount (Walk_set_dueKind W (-1)) + 1) := if_pos rfl
      rw [eg]
      rw [f1] at R2 ⊢
      exact ⟨li, ne, en, be, lf, tu, fo, op, _, _, _, _, _, _, _, _, pa, o, a, R2, hce, S1.1, S1.2.1, S1.2.2.2.2.1, Or.inl ⟨rfl, S1, S2⟩⟩
  · -- too many fields
    have h100' : (Mo_fields s).toInt = 100 := by omega
    obtain ⟨W', e1, e2⟩ := give_f (L := L) (a0 := 0) (a1 := Walk_dueCode W) (a2 := c.wi r.toNatClampNeg + p4) (a3 := c.sc r.toNatClampNeg + p8) (a4 := (c.rf r.toNatClampNeg).toInt64 <<< (p11.toInt64 &&& 63)) (a5 := -1) (W := Walk_set_dueKind W (-1)) (Fl := Fl) (by omega)
    obtain ⟨c1, c2, c3⟩ := come_f (Or.inr h100') hq
    have c1 : (rdq, kiq, coq, wdq, scaq, lkq, rpq, baq) = _ := c1
    cases c1
    have c3 : Mo_fields sq = Mo_fields s := c3
    have hw : w = (sq, rd, ki, co, wd, sca, lk, rp, ba, ea) := by
      rcases hw with ⟨_, y⟩ | ⟨y, _⟩
      · exact y
      · exact absurd c3 y
    rw [hw] at hrun
    have e := run_f c2 hrun.2
    refine ⟨W', Fl, e1, Or.inl ⟨rfl, e2, ?_⟩⟩
    unfold FdE
    rw [e]
    refine ⟨c2, ?_⟩
    show FdR Fl sq ki co wd sca lk rp ba
    unfold FdR
    rw [c3]
    exact ⟨f1, f2, f3, f4'⟩

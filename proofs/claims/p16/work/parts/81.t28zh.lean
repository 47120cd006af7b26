-- the count of a REPEAT: the event
theorem ct_field {c : Cst} {n : Nat} {W : S_Walk} {Fl : S_Fld} {L : S_Lps} {s : S_Mo} {rd : Nat → Int64} {li ne ne2 en be lf tu fo op ki co wd sca lk rp : Nat → Int32} {ba : Nat → Int64} {ea pa : Nat → Int32} {o a a0 b m : Nat} {q16 len fr to x2 : Int32} {q : QC} {w : A19} (ok : Cok c) (h1 : Walk_fault W = 0) (h2 : Mo_fault s = 0) (h3 : (Mo_open s).toInt = (o : Int) + 1) (h4 : (Walk_at W).toInt = (a : Int)) (h5 : Walk_come W = Mo_looked s) (h6 : 0 ≤ (Mo_looked s).toInt) (h7 : (Mo_looked s).toInt ≤ 2000) (h8 : ∀ k, k < 4 → om k (Walk_settings W k) (op k)) (h9 : ElR W s ea) (h10 : PtR W s pa) (h11 : FdR Fl s ki co wd sca lk rp ba) (H : St (Tab_listed c.t) (zT c.t) (Prog_descriptors c.P) (Prog_bodyEnds c.P) (Prog_size c.P).toInt.toNat li ne en be lf tu L o a0) (hL : (Lps_open L).toInt = (rn tu (o + 1) : Int)) (hS : ∀ ne' : Nat → Int32, (∀ f, f < o → ne' f = ne f) → fp li ne' o = fp li ne o + 2 + (to.toNatClampNeg - fr.toNatClampNeg) → St (Tab_listed c.t) (zT c.t) (Prog_descriptors c.P) (Prog_bodyEnds c.P) (Prog_size c.P).toInt.toNat li ne' en be lf tu L o b) (C : Sg (It (Tab_listed c.t) (zT c.t) (Prog_descriptors c.P) (Prog_bodyEnds c.P) (63 - o)) m (fp li ne o + 2) (fp li ne o + 2 + (to.toNatClampNeg - fr.toNatClampNeg)) a b) (hfr : fr.toNatClampNeg = (ne o).toNatClampNeg + 2) (hto : fr.toNatClampNeg < to.toNatClampNeg) (hne : ∀ f, f < o → ne2 f = ne f) (hne2 : ne2 o = fr) (hlen : fr + len = to) (hce : (Walk_countedEnd W).toInt = (b : Int)) (hdk : Walk_dueKind W = 2) (hfi : Tab_inForce c.fu c.t (Walk_dueCode W) = some q16) (h16 : 0 ≤ q16.toInt ∧ q16.toInt < 320) (v1 : Tab_widths c.t q16.toNatClampNeg = c.wi q16.toNatClampNeg) (v2 : Tab_scales c.t q16.toNatClampNeg = c.sc q16.toNatClampNeg) (v3 : Tab_references c.t q16.toNatClampNeg = c.rf q16.toNatClampNeg) (ha2 : 0 ≤ (c.wi q16.toNatClampNeg).toInt ∧ (c.wi q16.toNatClampNeg).toInt ≤ 32) (ha1 : 1 ≤ (c.wi q16.toNatClampNeg).toInt) (WIs : WI s) (K : WK s c.z) (Aw : A_Mwidth wd) (hq : Mod_come c.fu c.va tu c.bi 2 (Walk_dueCode W) (c.wi q16.toNatClampNeg) (c.sc q16.toNatClampNeg) (c.rf q16.toNatClampNeg).toInt64 (-1) s rd ki co wd sca lk rp ba = some q) (hx2 : x2.toNatClampNeg = o) (hj : Mod_walkOne_j162 c.fu c.th c.sc c.rf c.wi c.ls c.le c.va c.bi x2 len q.1.toInt32 q.2.1 q.2.2.1 li ne2 en be lf tu fo op q.2.2.2.1 q.2.2.2.2.1 q.2.2.2.2.2.1 q.2.2.2.2.2.2.1 q.2.2.2.2.2.2.2.1 q.2.2.2.2.2.2.2.2.1 q.2.2.2.2.2.2.2.2.2 ea pa = some w) (hrun : RunL c n w.1 w.2.1 w.2.2.1 w.2.2.2.1 w.2.2.2.2.1 w.2.2.2.2.2.1 w.2.2.2.2.2.2.1 w.2.2.2.2.2.2.2.1 w.2.2.2.2.2.2.2.2.1 w.2.2.2.2.2.2.2.2.2.1 w.2.2.2.2.2.2.2.2.2.2.1 w.2.2.2.2.2.2.2.2.2.2.2.1 w.2.2.2.2.2.2.2.2.2.2.2.2.1 w.2.2.2.2.2.2.2.2.2.2.2.2.2.1 w.2.2.2.2.2.2.2.2.2.2.2.2.2.2.1 w.2.2.2.2.2.2.2.2.2.2.2.2.2.2.2.1 w.2.2.2.2.2.2.2.2.2.2.2.2.2.2.2.2.1 w.2.2.2.2.2.2.2.2.2.2.2.2.2.2.2.2.2.1 w.2.2.2.2.2.2.2.2.2.2.2.2.2.2.2.2.2.2) : ∃ (W' : S_Walk) (Fl' : S_Fld), Walk_giveFromEntry c.fu c.t L W Fl = some (W', Fl') ∧ ((Fl' = Fl ∧ ¬ Walk_fault W' = 0 ∧ ¬ Mo_fault c.r.1 = 0 ∧ FdE Fl c.r) ∨ (Fld_count Fl' = Fld_count Fl + 1 ∧ FE c n W' Fl' L s rd)) := by
  obtain ⟨hf, It_, IP, T, Iw, Is, Ils, Ile, Irf⟩ := ok
  have k1 : (1 : Int32).toInt = 1 := by decide
  have t0 := St_t0 o a0 H
  have rl := rn_le t0.1 o
  obtain ⟨rep, er1, er2⟩ := rep_both (fu := c.fu) hf h3 H hL
  have R11 := h11
  obtain ⟨f1, f2, f3, f4'⟩ := h11
  obtain ⟨i, hi⟩ : ∃ i : Nat, (Mo_fields s).toInt = (i : Int) := ⟨(Mo_fields s).toInt.toNat, by omega⟩
  have hcnt : (Fld_count Fl).toInt = (i : Int) := by rw [f1]; exact hi
  rw [gfe_2 (L := L) (Fl := Fl) hdk hfi h16.1 h16.2, v1, v2, v3]
  obtain ⟨v, sq, rdq, kiq, coq, wdq, scaq, lkq, rpq, baq⟩ := q
  by_cases h100 : i < 100
  · have hge : o_in (Walk_elementCount (Walk_set_dueKind W (-1))) 100 = true := by
      refine i_in.mpr ?_
      show 0 ≤ (Walk_elementCount W).toInt ∧ (Walk_elementCount W).toInt < _
      rw [h9.1]
      have := h9.2.1
      have := h9.2.2.1
      omega
    have hg := give_eq (L := L) (a0 := 2) (a1 := Walk_dueCode W) (a2 := c.wi q16.toNatClampNeg) (a3 := c.sc q16.toNatClampNeg) (a4 := (c.rf q16.toNatClampNeg).toInt64) (a5 := -1) (W := Walk_set_dueKind W (-1)) hcnt h100 er2 hge
    obtain ⟨rep', v', s1, rd1, c1, c2, c3, c4, c5⟩ := come_inv h2 hi h100 hq
    have c3 : (rdq, kiq, coq, wdq, scaq, lkq, rpq, baq) = _ := c3
    rw [er1] at c1
    cases c1
    cases c3
    have cf := come_fields hf WIs Aw ha2 h2 hi h100 hq
    have cf : Mo_fields sq = Mo_fields s + 1 := cf
    obtain ⟨q', eq', k1', k2, k3, k4, k5, k6, k7, k8, k9, k10⟩ := c_come (va := c.va) (tu := tu) (bi := c.bi) (a0 := 2) (a1 := Walk_dueCode W) (a2 := c.wi q16.toNatClampNeg) (a3 := c.sc q16.toNatClampNeg) (a4 := (c.rf q16.toNatClampNeg).toInt64) (a5 := -1) (s := s) (rd := rd) (ki := ki) (co := co) (wd := wd) (sc := sca) (lk := lk) (rp := rp) (ba := ba) hf WIs Aw ha2.1 ha2.2
    rw [hq] at eq'
    cases eq'
    have k4 : (Mo_open sq).toInt = (Mo_open s).toInt := k4
    have k5 : (Mo_looked sq).toInt = (Mo_looked s).toInt := k5
    have ei : (Mo_fields s + 1).toInt = (i : Int) + 1 := by
      rw [i_add (a := Mo_fields s) (b := 1) (by omega) (by omega), hi, k1]
    obtain ⟨Fl', hFl'⟩ : ∃ Fl', Fl' = gvF Fl i 2 (Walk_dueCode W) (c.wi q16.toNatClampNeg) (c.sc q16.toNatClampNeg) (c.rf q16.toNatClampNeg).toInt64 (-1) rep := ⟨_, rfl⟩
    have FdN : ∀ s' : S_Mo, Mo_fields s' = Mo_fields s + 1 → FdR Fl' s' (upd ki i 2) (upd co i (Walk_dueCode W)) (upd wd i (c.wi q16.toNatClampNeg)) (upd sca i (c.sc q16.toNatClampNeg)) (upd lk i (-1)) (upd rp i rep) (vp_updL ba i (c.rf q16.toNatClampNeg).toInt64) := fun s' hs => by
      rw [hFl']
      exact FdR_give R11 hi h100 hs ⟨fun e => absurd e (by decide), BB_32 (Irf _), ha1⟩
    have eg : gvW (Walk_set_dueKind W (-1)) 2 (Fld_count Fl) = Walk_set_dueKind W (-1) := if_neg (by decide)
    rw [eg, ← hFl'] at hg
    have hc0 : Fld_count Fl' = Fld_count Fl + 1 := by rw [hFl']; rfl
    refine ⟨_, _, hg, Or.inr ⟨hc0, i, 2, Walk_dueCode W, c.wi q16.toNatClampNeg, c.sc q16.toNatClampNeg, (c.rf q16.toNatClampNeg).toInt64, -1, rep, tu, ki, co, wd, sca, lk, rp, ba, _, Fl, hi, h100, h2, WIs, Aw, ⟨ha2, fun e => absurd e (by decide), BB_32 (Irf _), ha1⟩, hq, R11, er1, hFl', h1, fun hq0 => ?_, fun hq0 hok => ?_⟩⟩
    · have hq0 : ¬ Mo_fault sq = 0 := hq0
      have hw := j162_f hq0 hj
      rw [hw] at hrun
      have e := run_f hq0 hrun.2
      unfold FdE
      rw [e]
      exact ⟨hq0, FdN sq cf⟩
    · have hq0 : Mo_fault sq = 0 := hq0
      have hk : Fld_kinds Fl' i = 2 := by rw [hFl']; exact upd_at _ _ _
      have hc1 : (Fld_count Fl').toInt = (i : Int) + 1 := by rw [hc0, f1]; exact ei
      have hv := hok.1 rfl
      have hv1 : 1 ≤ v.toInt ∧ v.toInt ≤ 30 := by
        have z1 : (1 : Int64).toInt = 1 := by decide
        have z30 : (30 : Int64).toInt = 30 := by decide
        have x1 : ¬ v < 1 := hv.1
        have x2 : ¬ 30 < v := hv.2
        rw [i64_lt, z1] at x1
        rw [i64_lt, z30] at x2
        clear ei
        omega
      have hv32 : v.toInt32.toInt = v.toInt := by
        clear ei
        rcases i_64 v with x | x | x
        · omega
        · omega
        · exact x
      obtain ⟨L', l1, l2, l3, l4, l5, l6, l7⟩ := enter_x (L := L) (k := rn tu (o + 1)) (a0 := Walk_at W) (a1 := Walk_countedEnd W) (a2 := v.toInt32) hL (by clear ei; omega)
      have st := settle_count (W := Walk_set_dueKind W (-1)) (v := v) hc1 h100 hk hok l1
      have hw := j162_inv hf (x2 := x2) hx2 (by show (Mo_open sq).toInt = _; rw [k4, h3]; rfl) (by clear ei; omega) hq0 hj
      rw [hne2, hlen] at hw
      rw [hw] at hrun
      have S2 := St_rep (g := 2) (c := v.toInt32) (L' := L') hS t0.2 hfr hto C ⟨by rw [hv32]; exact hv1.1, by rw [hv32]; exact hv1.2⟩ l7 (by rw [l3]; exact h4) (by rw [l4]; exact hce) l6 l5 (ne1 := ne2) hne
      have rs : rn (upd tu (o + 1) 0) (o + 1 + 1) = rn tu (o + 1) + 1 := by
        rw [rn_r (by rw [upd_at]; decide)]
        exact congrArg (· + 1) (rn_cong (o + 1) (fun j hj' => upd_ne (by clear ei; omega)))
      obtain ⟨S1, S3⟩ := hrun
      -- elements and pointed bits
      have E' : ElR W sq ea := by
        obtain ⟨x1, x2', x3, x4⟩ := h9
        have k6 : (Mo_elements sq).toInt = (Mo_elements s).toInt := k6
        refine ⟨x1.trans (i_eq.mpr k6).symm, by clear ei; omega, by rw [cf, ei]; clear ei; omega, fun j hj' => ?_⟩
        have y := x4 j (by clear ei; omega)
        exact ⟨y.1, y.2.1, by rw [cf, ei]; clear ei; omega⟩
      have P' : PtR W sq pa := by
        obtain ⟨y1, y2, y3, y4, y5, y6, y7⟩ := h10
        have k7 : (Mo_pointed sq).toInt = (Mo_pointed s).toInt := k7
        have k8 : (Mo_pointer sq).toInt = (Mo_pointer s).toInt := k8
        refine ⟨y1.trans (i_eq.mpr k7).symm, by clear ei; omega, by clear ei; omega, y4.trans (i_eq.mpr k8).symm, by clear ei; omega, by clear ei; omega, fun j hj' => ?_⟩
        have y := y7 j (by clear ei; omega)
        exact ⟨y.1, y.2.1, by rw [cf, ei]; clear ei; omega⟩
      refine ⟨_, L', Mo_set_open sq (Mo_open sq + 1), st, ⟨rfl, rfl, rfl, rfl, rfl⟩, ?_⟩
      refine ⟨_, _, _, _, _, _, _, op, _, _, _, _, _, _, _, ea, pa, o + 1, a, ⟨h1, hq0, ?_, h4, ?_, ?_, ?_, h8, E', P', FdN _ cf, S2, ?_⟩, rfl, S1.1, S1.2.1, S1.2.2.2.2.1, Or.inl ⟨rfl, S1, S3⟩⟩
      · show (Mo_open sq + 1).toInt = _
        clear ei
        rw [i_add (a := Mo_open sq) (b := 1) (by omega) (by omega), k4, h3, k1]
        omega
      · show Walk_come W = Mo_looked sq
        exact h5.trans (i_eq.mpr k5).symm
      · show 0 ≤ (Mo_looked sq).toInt
        rw [k5]
        exact h6
      · show (Mo_looked sq).toInt ≤ 2000
        rw [k5]
        exact h7
      · rw [rs, l2]
        rfl
  · have h100' : (Mo_fields s).toInt = 100 := by omega
    obtain ⟨W', x1, x2'⟩ := give_f (L := L) (a0 := 2) (a1 := Walk_dueCode W) (a2 := c.wi q16.toNatClampNeg) (a3 := c.sc q16.toNatClampNeg) (a4 := (c.rf q16.toNatClampNeg).toInt64) (a5 := -1) (W := Walk_set_dueKind W (-1)) (Fl := Fl) (by omega)
    obtain ⟨c1, c2, c3⟩ := come_f (Or.inr h100') hq
    have c1 : (rdq, kiq, coq, wdq, scaq, lkq, rpq, baq) = _ := c1
    cases c1
    have c3 : Mo_fields sq = Mo_fields s := c3
    have c2 : ¬ Mo_fault sq = 0 := c2
    have hw := j162_f c2 hj
    rw [hw] at hrun
    have e := run_f c2 hrun.2
    refine ⟨W', Fl, x1, Or.inl ⟨rfl, x2', ?_⟩⟩
    unfold FdE
    rw [e]
    refine ⟨c2, ?_⟩
    show FdR Fl sq ki co wd sca lk rp ba
    unfold FdR
    rw [c3]
    exact R11

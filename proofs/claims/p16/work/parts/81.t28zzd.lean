-- a walk over values, asked for: class and reference
theorem over_both {fu M : Nat} {t : S_Tab} {P : S_Prog} {th sc rf wi ls le : Nat → Int32} {va : Nat → Int64} {bi : Nat → Int32} {z0 : S_Mo} (hf : 12000 ≤ fu) (It_ : I_Tab t) (IP : I_Prog P) (T : TbR t (Mo_used z0) th sc rf wi ls le) (Iw : A_Mwidths wi) (Is : A_Mscales sc) (Ils : A_Mlists ls) (Ile : A_Mlengths le) (Irf : Rfb rf) (hc : CompOK fu th sc wi ls le (Mo_used z0)) (hSg : Sg (It (Tab_listed t) (zT t) (Prog_descriptors P) (Prog_bodyEnds P) 64) M 128 (128 + zT t 16) 0 (Prog_size P).toInt.toNat) {k : Nat} {a0 a1 : Int32} {row : Nat → Int64} {W : S_Walk} {Fl : S_Fld} {L : S_Lps} {s : S_Mo} {rd : Nat → Int64} {li ne en be lf tu fo op ki co wd sca lk rp : Nat → Int32} {ba : Nat → Int64} {ea pa : Nat → Int32} {r : A19} (A : MA s fo op wd ea pa) (K : KM s z0) (hz : Mo_fault s = 0) (h0 : a0.toInt = (k : Int)) (hk : k < 8) (hm : a1.toInt = 0 ∨ (a1.toInt = 1 ∧ Mo_fault r.1 = 0)) (hrow : ∀ j, j < 100 → row j = va (100 * k + j)) (er : Mod_walk fu th sc rf wi ls le va bi a0 a1 s rd li ne en be lf tu fo op ki co wd sca lk rp ba ea pa = some r) : ∃ (W' : S_Walk) (Fl' : S_Fld) (L' : S_Lps), Walk_over fu 100 t P row W Fl L = some (W', Fl', L') ∧ FdE Fl' r ∧ ((Walk_fault W' = 0 ∧ Mo_fault r.1 = 0) ∨ (¬ Walk_fault W' = 0 ∧ ¬ Mo_fault r.1 = 0)) := by
  have hm2 : a1.toInt < 2 := by omega
  obtain ⟨I, a1', a2, a3, a4, a5⟩ := A
  have hu : Mo_used s = Mo_used z0 := K.1
  have hS := WSt_start (fu := fu) (th := th) (sc := sc) (wi := wi) (ls := ls) (le := le) (a0 := a0) (a1 := a1) (s := s) (li := li) (ne := ne) (en := en) (be := be) (lf := lf) I a1' a2 a3 a4 a5 (by rw [hz]; decide) (by omega) (by omega) (Or.inl hm2) (Or.inl (by omega)) (by rw [hu]; exact hc)
  obtain ⟨W0, Fl0, L0, s1, eb, cb, ok, hKA, SY0⟩ := w_start (W := W) (Fl := Fl) (L := L) (P := P) hf It_ IP (by rw [hu]; exact T) Iw Is Ils Ile Irf hSg hS hz er
  obtain ⟨W', Fl', L', e1, e2, e3⟩ := over_L (row := row) (k := k) ok hm2 h0 hk hrow (by
    rcases hm with y | y
    · exact Or.inl (by show ¬ a1.toInt = 1; omega)
    · exact Or.inr y.2) fu 0 fu 0 W0 Fl0 L0 s1 rd SY0 (by decide) (by rw [cb]; decide) (by omega) (by omega)
  refine ⟨W', Fl', L', ?_, e2, e3⟩
  unfold Walk_over
  rw [bd_s eb]
  exact e1
def AskR (b : Int32) (Fl : S_Fld) (R : A20) : Prop := (b = 0 ∧ R.1 = 0) ∨ (b = 1 ∧ Fld_count Fl = R.1 ∧ 0 ≤ R.1.toInt ∧ R.1.toInt ≤ 100 ∧ ∀ i : Nat, (i : Int) < R.1.toInt → Fld_kinds Fl i = R.2.2.2.2.2.2.2.2.2.2.2.1 i ∧ Fld_codes Fl i = R.2.2.2.2.2.2.2.2.2.2.2.2.1 i ∧ Fld_widths Fl i = R.2.2.2.2.2.2.2.2.2.2.2.2.2.1 i ∧ Fld_scales Fl i = R.2.2.2.2.2.2.2.2.2.2.2.2.2.2.1 i ∧ Fld_references Fl i = R.2.2.2.2.2.2.2.2.2.2.2.2.2.2.2.2.2.1 i ∧ Fld_targets Fl i = R.2.2.2.2.2.2.2.2.2.2.2.2.2.2.2.1 i ∧ Fld_repetitions Fl i = R.2.2.2.2.2.2.2.2.2.2.2.2.2.2.2.2.1 i)
theorem ask_both {fu : Nat} {t : S_Tab} {P : S_Prog} {X : S_X} {VAL : Nat → Nat → Int64} {W : S_Walk} {Fl : S_Fld} {L : S_Lps} {th sc rf wi ls le : Nat → Int32} {va : Nat → Int64} {bi : Nat → Int32} {a0 : Int32} {s : S_Mo} {rd : Nat → Int64} {li ne en be lf tu fo op ki co wd sca lk rp : Nat → Int32} {ba : Nat → Int64} {ea pa : Nat → Int32} {R : A20} (hf : 12000 ≤ fu) (It_ : I_Tab t) (IP : I_Prog P) (Iw : A_Mwidths wi) (Is : A_Mscales sc) (Ils : A_Mlists ls) (Ile : A_Mlengths le) (Irf : Rfb rf) (I : I_Mo s) (Ifo : A_MfoundOps fo) (Iop : A_Mops op) (Aw : A_Mwidth wd) (Ae : A_MelementAt ea) (Ap : A_MpointAt pa) (T : TbR t (Mo_used s) th sc rf wi ls le) (V : RwR VAL va) (h : Mod_ask fu th sc rf wi ls le va bi a0 s rd li ne en be lf tu fo op ki co wd sca lk rp ba ea pa = some R) : ∃ (b : Int32) (P' : S_Prog) (W' : S_Walk) (Fl' : S_Fld) (L' : S_Lps), X_walkOver fu X VAL t a0 P W Fl L = some (b, P', W', Fl', L') ∧ AskR b Fl' R := by
  unfold Mod_ask o_lt at h
  dsimp only at h
  obtain ⟨r9, e9, h⟩ := oi_bd h
  obtain ⟨P', r9', eb, ec, ce⟩ := c_compile (P := P) (li := li) (ne := ne) (en := en) (be := be) (lf := lf) (tu := tu) (fo := fo) (op := op) hf It_ I Ile T
  rw [e9] at ec
  cases ec
  obtain ⟨r9', ec, p1, p2, p3, p4, p5, p6⟩ := t_Mod_compileAll (li := li) (ne := ne) (en := en) (be := be) (lf := lf) (tu := tu) hf Iw Is Ils Ile I Ifo Iop
  rw [e9] at ec
  cases ec
  have IP' : I_Prog P' := by
    obtain ⟨P2, e2, hP2⟩ := t_Prog_build (fu := fu) (sTab := t) (sProg := P) hf It_ IP
    rw [eb] at e2
    cases e2
    exact hP2
  have j51 : ∀ (x2 x3 : Int32) (q : A19), Mod_ask_j51 fu th sc rf wi ls le va bi x2 x3 0 q.1 q.2.1 q.2.2.1 q.2.2.2.1 q.2.2.2.2.1 q.2.2.2.2.2.1 q.2.2.2.2.2.2.1 q.2.2.2.2.2.2.2.1 q.2.2.2.2.2.2.2.2.1 q.2.2.2.2.2.2.2.2.2.1 q.2.2.2.2.2.2.2.2.2.2.1 q.2.2.2.2.2.2.2.2.2.2.2.1 q.2.2.2.2.2.2.2.2.2.2.2.2.1 q.2.2.2.2.2.2.2.2.2.2.2.2.2.1 q.2.2.2.2.2.2.2.2.2.2.2.2.2.2.1 q.2.2.2.2.2.2.2.2.2.2.2.2.2.2.2.1 q.2.2.2.2.2.2.2.2.2.2.2.2.2.2.2.2.1 q.2.2.2.2.2.2.2.2.2.2.2.2.2.2.2.2.2.1 q.2.2.2.2.2.2.2.2.2.2.2.2.2.2.2.2.2.2 = some R → R.1 = 0 := by
    intro x2 x3 q g
    unfold Mod_ask_j51 o_lt at g
    dsimp only at g
    rw [if_pos rfl] at g
    cases g
    rfl
  have xs : X_isSubset a0 = some (if 0 ≤ a0.toInt ∧ a0.toInt < 8 then 1 else 0) := iss
  by_cases cs : 0 ≤ a0.toInt ∧ a0.toInt < 8
  · rw [if_pos cs] at xs
    rcases ce with ⟨c1, c2, _⟩ | ⟨c1, c2⟩
    · have z2 : Mo_fault (Mo_set_fields r9.1 0) = 0 := c2
      rw [if_pos z2, bd_s iss, if_pos cs, if_neg (show ¬ (1 : Int32) = 0 by decide)] at h
      unfold Mod_ask_j38 at h
      rw [if_neg (show ¬ (1 : Int32) = 0 by decide)] at h
      obtain ⟨r, er, h⟩ := oi_bd h
      obtain ⟨M, hSg⟩ := cp_all hf It_ IP eb c1
      obtain ⟨k, hk⟩ : ∃ k : Nat, a0.toInt = (k : Int) := ⟨a0.toInt.toNat, by omega⟩
      have I2 : I_Mo (Mo_set_fields r9.1 0) := I_Mo_set_fields p1 (by decide)
      have nk : a0.toNatClampNeg = k := by
        have := i_nat (a := a0) (by omega)
        omega
      obtain ⟨W', Fl', L', o1, o2, o3⟩ := over_both (z0 := s) (P := P') (row := VAL k) (W := W) (Fl := Fl) (L := L) (k := k) hf It_ IP' T Iw Is Ils Ile Irf (p6 c2) hSg ⟨I2, p4, p5, Aw, Ae, Ap⟩ p2 z2 hk (by omega) (Or.inl (by decide)) (fun j hj => V k j (by omega) hj) er
      refine ⟨1, P', W', Fl', L', ?_, ?_⟩
      · unfold X_walkOver
        rw [bd_s xs, if_neg (show ¬ (1 : Int32) = 0 by decide), bd_s eb, if_pos c1, gd_t (i_in.mpr (by omega)), nk, bd_s o1]
      · unfold Mod_ask_j51 o_lt at h
        dsimp only at h
        rw [if_neg (show ¬ (1 : Int32) = 0 by decide)] at h
        cases h
        obtain ⟨g1, g2, g3, g4⟩ := o2
        refine Or.inr ⟨rfl, g1, g2, g3, fun i hi => ?_⟩
        obtain ⟨y1, y2, y3, y4, y5, y6, y7, _⟩ := g4 i hi
        exact ⟨y1, y2, y3, y4, y5, y6, y7⟩
    · have z2 : ¬ Mo_fault (Mo_set_fields r9.1 0) = 0 := c2
      rw [if_neg z2] at h
      unfold Mod_ask_j37 Mod_ask_j38 at h
      rw [if_pos rfl] at h
      refine ⟨0, P', W, Fl, L, ?_, Or.inl ⟨rfl, j51 _ _ (_, _, _, _, _, _, _, _, _, _, _, _, _, _, _, _, _, _, _) h⟩⟩
      unfold X_walkOver
      rw [bd_s xs, if_neg (show ¬ (1 : Int32) = 0 by decide), bd_s eb, if_neg c1]
  · rw [if_neg cs] at xs
    refine ⟨0, P, W, Fl, L, ?_, Or.inl ⟨rfl, ?_⟩⟩
    · unfold X_walkOver
      rw [bd_s xs, if_pos rfl]
    · by_cases c2 : Mo_fault (Mo_set_fields r9.1 0) = 0
      · rw [if_pos c2, bd_s iss, if_neg cs, if_pos rfl] at h
        unfold Mod_ask_j37 Mod_ask_j38 at h
        rw [if_pos rfl] at h
        exact j51 _ _ (_, _, _, _, _, _, _, _, _, _, _, _, _, _, _, _, _, _, _) h
      · rw [if_neg c2] at h
        unfold Mod_ask_j37 Mod_ask_j38 at h
        rw [if_pos rfl] at h
        exact j51 _ _ (_, _, _, _, _, _, _, _, _, _, _, _, _, _, _, _, _, _, _) h
abbrev FQ : Type := Int32 × Int32 × S_X × S_Prog × S_Walk × S_Fld × S_Lps
theorem fields_both {fu : Nat} {t : S_Tab} {P : S_Prog} {X : S_X} {VAL : Nat → Nat → Int64} {W : S_Walk} {Fl : S_Fld} {L : S_Lps} {th sc rf wi ls le : Nat → Int32} {va : Nat → Int64} {bi : Nat → Int32} {a0 : Int32} {s : S_Mo} {rd : Nat → Int64} {li ne en be lf tu fo op ki co wd sca lk rp : Nat → Int32} {ba : Nat → Int64} {ea pa : Nat → Int32} {R : A20} (hf : 12000 ≤ fu) (It_ : I_Tab t) (IP : I_Prog P) (Iw : A_Mwidths wi) (Is : A_Mscales sc) (Ils : A_Mlists ls) (Ile : A_Mlengths le) (Irf : Rfb rf) (I : I_Mo s) (Ifo : A_MfoundOps fo) (Iop : A_Mops op) (Aw : A_Mwidth wd) (Ae : A_MelementAt ea) (Ap : A_MpointAt pa) (T : TbR t (Mo_used s) th sc rf wi ls le) (V : RwR VAL va) (h : Mod_fields fu th sc rf wi ls le va bi a0 s rd li ne en be lf tu fo op ki co wd sca lk rp ba ea pa = some R) : ∃ Q : FQ, X_fields fu VAL t a0 X P W Fl L = some Q ∧ ((Q.1 = 3 ∧ Mo_thrown R.2.1 = 1) ∨ (Q.1 = 1 ∧ Mo_thrown R.2.1 = 2) ∨ (Q.1 = 0 ∧ Mo_thrown R.2.1 = 0 ∧ Q.2.1 = R.1)) := by
  have xs : X_isSubset a0 = some (if 0 ≤ a0.toInt ∧ a0.toInt < 8 then 1 else 0) := iss
  have sf : ∀ (a b : Int32) (Y : S_X), X_setFault a b Y = some (X_set_faultPlace (X_set_faultNumber Y a) b) := fun _ _ _ => rfl
  unfold Mod_fields at h
  rw [bd_s iss] at h
  by_cases cs : 0 ≤ a0.toInt ∧ a0.toInt < 8
  · rw [if_pos cs] at h xs
    rw [if_neg (show ¬ (1 : Int32) = 0 by decide)] at h
    unfold Mod_fields_j13 o_lt at h
    dsimp only at h
    rw [if_pos (show (0 : Int32) ≤ 0 by decide)] at h
    obtain ⟨r9, e9, h⟩ := oi_bd h
    have I0 : I_Mo (Mo_set_thrown s 0) := I_Mo_set_thrown I
    obtain ⟨P', r9', eb, ec, ce⟩ := c_compile (P := P) (li := li) (ne := ne) (en := en) (be := be) (lf := lf) (tu := tu) (fo := fo) (op := op) hf It_ I0 Ile T
    rw [e9] at ec
    cases ec
    obtain ⟨r9', ec, p1, p2, p3, p4, p5, p6⟩ := t_Mod_compileAll (li := li) (ne := ne) (en := en) (be := be) (lf := lf) (tu := tu) hf Iw Is Ils Ile I0 Ifo Iop
    rw [e9] at ec
    cases ec
    have IP' : I_Prog P' := by
      obtain ⟨P2, e2, hP2⟩ := t_Prog_build (fu := fu) (sTab := t) (sProg := P) hf It_ IP
      rw [eb] at e2
      cases e2
      exact hP2
    obtain ⟨X1, hX1⟩ : ∃ X1, X1 = X_set_faultPlace (X_set_faultNumber X 0) (-1) := ⟨_, rfl⟩
    have es0 : X_setFault 0 (-1) X = some X1 := by rw [hX1]; rfl
    have j42 : ∀ q : A19, Mod_fields_j42 fu th sc rf wi ls le va bi q.1 q.2.1 q.2.2.1 q.2.2.2.1 q.2.2.2.2.1 q.2.2.2.2.2.1 q.2.2.2.2.2.2.1 q.2.2.2.2.2.2.2.1 q.2.2.2.2.2.2.2.2.1 q.2.2.2.2.2.2.2.2.2.1 q.2.2.2.2.2.2.2.2.2.2.1 q.2.2.2.2.2.2.2.2.2.2.2.1 q.2.2.2.2.2.2.2.2.2.2.2.2.1 q.2.2.2.2.2.2.2.2.2.2.2.2.2.1 q.2.2.2.2.2.2.2.2.2.2.2.2.2.2.1 q.2.2.2.2.2.2.2.2.2.2.2.2.2.2.2.1 q.2.2.2.2.2.2.2.2.2.2.2.2.2.2.2.2.1 q.2.2.2.2.2.2.2.2.2.2.2.2.2.2.2.2.2.1 q.2.2.2.2.2.2.2.2.2.2.2.2.2.2.2.2.2.2 = some R → (Mo_fault q.1 = 0 → Mo_thrown R.2.1 = 0 ∧ R.1 = Mo_fields q.1) ∧ (¬ Mo_fault q.1 ≤ 0 → Mo_thrown R.2.1 = 2) := by
      intro q g
      unfold Mod_fields_j42 at g
      refine ⟨fun e => ?_, fun e => ?_⟩
      · rw [if_pos (show Mo_fault q.1 ≤ 0 by rw [e]; decide)] at g
        unfold Mod_fields_j55 o_lt at g
        dsimp only at g
        rw [if_pos (show (0 : Int32) ≤ 0 by decide)] at g
        cases g
        exact ⟨rfl, rfl⟩
      · rw [if_neg e] at g
        unfold Mod_fields_j55 o_lt at g
        dsimp only at g
        rw [if_neg (show ¬ (2 : Int32) ≤ 0 by decide)] at g
        cases g
        rfl
    have k0 : (0 : Int32).toInt = 0 := by decide
    rcases ce with ⟨c1, c2, _⟩ | ⟨c1, c2⟩
    · rw [if_pos c2] at h
      obtain ⟨r, er, h⟩ := oi_bd h
      obtain ⟨M, hSg⟩ := cp_all hf It_ IP eb c1
      obtain ⟨k, hk⟩ : ∃ k : Nat, a0.toInt = (k : Int) := ⟨a0.toInt.toNat, by omega⟩
      have nk : a0.toNatClampNeg = k := by
        have := i_nat (a := a0) (by omega)
        omega
      obtain ⟨W', Fl', L', o1, o2, o3⟩ := over_both (z0 := Mo_set_thrown s 0) (P := P') (row := VAL k) (W := W) (Fl := Fl) (L := L) (k := k) hf It_ IP' T Iw Is Ils Ile Irf (p6 c2) hSg ⟨p1, p4, p5, Aw, Ae, Ap⟩ p2 c2 hk (by omega) (Or.inl (by decide)) (fun j hj => V k j (by omega) hj) er
      have ca : X_compileAnew fu t X1 P = some (1, X_set_faultPlace (X_set_faultNumber X1 (Prog_fault P')) (Prog_place P'), P') := by
        unfold X_compileAnew
        rw [bd_s eb, bd_s (sf _ _ _), if_pos c1]
      have J := j42 r h
      have cls : X_fields fu VAL t a0 X P W Fl L = (if Walk_fault W' = 0 then some (0, Fld_count Fl', X_set_faultPlace (X_set_faultNumber X1 (Prog_fault P')) (Prog_place P'), P', W', Fl', L') else o_bd (X_placeOf a0 (Walk_place W')) fun q6 => (o_bd (X_setFault (Walk_fault W') q6 (X_set_faultPlace (X_set_faultNumber X1 (Prog_fault P')) (Prog_place P'))) fun q7 => (some ((1, 0, q7, P', W', Fl', L'))))) := by
        unfold X_fields
        rw [bd_s es0, bd_s xs, if_neg (show ¬ (1 : Int32) = 0 by decide), bd_s ca]
        dsimp only
        rw [if_neg (show ¬ (1 : Int32) = 0 by decide), gd_t (i_in.mpr (by omega)), nk, bd_s o1]
      rw [cls]
      rcases o3 with ⟨y1, y2⟩ | ⟨y1, y2⟩
      · rw [if_pos y1]
        obtain ⟨z1, z2⟩ := J.1 y2
        exact ⟨_, rfl, Or.inr (Or.inr ⟨rfl, z1, by rw [z2]; exact o2.1⟩)⟩
      · rw [if_neg y1]
        have hwr := t_walk2 (z := Mo_set_thrown s 0) (a0 := a0) (a1 := 0) (va := va) (bi := bi) (rf := rf) (rd := rd) (li := r9.2.1) (ne := r9.2.2.1) (en := r9.2.2.2.1) (be := r9.2.2.2.2.1) (lf := r9.2.2.2.2.2.1) (tu := r9.2.2.2.2.2.2.1) (ki := ki) (co := co) (sca := sca) (lk := lk) (rp := rp) (ba := ba) hf Is Iw Ils Ile p1 p4 p5 Aw Ae Ap c2 (by omega) (by omega) (Or.inl (by decide)) (Or.inl (by decide)) p2 (p6 c2)
        obtain ⟨r', er', hr'⟩ := hwr
        rw [er] at er'
        cases er'
        have z1 := J.2 (flt_pos hr'.1.1 y2)
        have ep : X_placeOf a0 (Walk_place W') = some (100 * a0 + Walk_place W') := rfl
        rw [bd_s ep, bd_s (sf _ _ _)]
        exact ⟨_, rfl, Or.inr (Or.inl ⟨rfl, z1⟩)⟩
    · rw [if_neg c2] at h
      have J := j42 (_, _, _, _, _, _, _, _, _, _, _, _, _, _, _, _, _, _, _) h
      have z1 := J.2 (by
        show ¬ Mo_fault r9.1 ≤ 0
        rw [i_le, k0]
        intro e
        exact c2 (i_eq.mpr (by omega)))
      have ca : X_compileAnew fu t X1 P = some (0, X_set_faultPlace (X_set_faultNumber X1 (Prog_fault P')) (Prog_place P'), P') := by
        unfold X_compileAnew
        rw [bd_s eb, bd_s (sf _ _ _), if_neg c1]
      refine ⟨(1, 0, X_set_faultPlace (X_set_faultNumber X1 (Prog_fault P')) (Prog_place P'), P', W, Fl, L), ?_, Or.inr (Or.inl ⟨rfl, z1⟩)⟩
      unfold X_fields
      rw [bd_s es0, bd_s xs, if_neg (show ¬ (1 : Int32) = 0 by decide), bd_s ca, if_pos rfl]
  · rw [if_neg cs] at h xs
    rw [if_pos rfl] at h
    unfold Mod_fields_j13 o_lt at h
    dsimp only at h
    rw [if_neg (show ¬ (1 : Int32) ≤ 0 by decide)] at h
    cases h
    refine ⟨(3, 0, X_set_faultPlace (X_set_faultNumber X 0) (-1), P, W, Fl, L), ?_, Or.inl ⟨rfl, rfl⟩⟩
    unfold X_fields
    rw [bd_s (sf _ _ _), bd_s xs, if_pos rfl]

-- reading as a whole
def RdE (VAL : Nat → Nat → Int64) (va : Nat → Int64) (Q : XQ) (R : A22) : Prop := (Bits_length Q.2.2.2.2.2.2.2.2.2.2 = 0 ∧ ∀ j, j < 1000 → Bits_bytes Q.2.2.2.2.2.2.2.2.2.2 j = 0) ∧ ((Q.1 = 0 ∧ Mo_thrown R.2.1 = 0 ∧ Q.2.1 = R.1 ∧ RwR Q.2.2.2.1 R.2.2.1) ∨ (Q.1 = 1 ∧ Mo_thrown R.2.1 = 1 ∧ Q.2.2.2.1 = VAL ∧ R.2.2.1 = va))
theorem rd_bad {fu : Nat} {th sc rf wi ls le tape : Nat → Int32} {x1 : Int32} {s : S_Mo} {va rd : Nat → Int64} {li ne en be lf tu fo op ki co wd sca lk rp : Nat → Int32} {ba : Nat → Int64} {ea pa : Nat → Int32} {bi : Nat → Int32} {R : A22} (hz : ¬ Mo_fault s ≤ 0) (h : Mod_read_j65 fu th sc rf wi ls le tape x1 s va rd li ne en be lf tu fo op ki co wd sca lk rp ba ea pa bi = some R) : Mo_thrown R.2.1 = 1 ∧ R.2.2.1 = va := by
  have n0 : ¬ Mo_fault s = 0 := fun z => hz (by rw [z]; decide)
  have j100 : ∀ t0 u : Int32, Mod_read_j100 fu th sc rf wi ls le tape t0 (Mo_set_subsets s u) va rd li ne en be lf tu fo op ki co wd sca lk rp ba ea pa bi = some R → Mo_thrown R.2.1 = 1 ∧ R.2.2.1 = va := by
    intro t0 u g
    have n1 : ¬ Mo_fault (Mo_set_subsets s u) = 0 := n0
    unfold Mod_read_j100 at g
    rw [if_neg n1] at g
    unfold Mod_read_j118 at g
    have g := ref_stop (Or.inr (Or.inl n1)) g
    exact (rd_tail g).2 (Or.inl hz)
  have j81 : ∀ u : Int32, Mod_read_j81 fu th sc rf wi ls le tape u s va rd li ne en be lf tu fo op ki co wd sca lk rp ba ea pa bi = some R → Mo_thrown R.2.1 = 1 ∧ R.2.2.1 = va := by
    intro u g
    unfold Mod_read_j81 o_lt at g
    dsimp only at g
    have g := oe_gd g
    by_cases c : tape (0 : Int32).toNatClampNeg = 67
    · rw [if_pos c] at g
      exact j100 _ _ g
    · rw [if_neg c] at g
      exact j100 _ _ g
  unfold Mod_read_j65 at h
  by_cases c : x1 ≤ 1
  · rw [if_pos c] at h
    exact j81 _ h
  · rw [if_neg c] at h
    exact j81 _ (oe_gd h)
theorem read_both {fu : Nat} {t : S_Tab} {P : S_Prog} {X : S_X} {VAL : Nat → Nat → Int64} {W : S_Walk} {Fl : S_Fld} {L : S_Lps} {Re : S_Rea} {RR : Nat → Nat → Int64} {tp : S_Bits} {th sc rf wi ls le tape : Nat → Int32} {s : S_Mo} {va rd : Nat → Int64} {li ne en be lf tu fo op ki co wd sca lk rp : Nat → Int32} {ba : Nat → Int64} {ea pa : Nat → Int32} {bi : Nat → Int32} {R : A22} (hf : 12000 ≤ fu) (It_ : I_Tab t) (IP : I_Prog P) (Ib : I_Bits tp) (Il : (Bits_length tp).toInt ≤ 8000) (Iw : A_Mwidths wi) (Is : A_Mscales sc) (Ils : A_Mlists ls) (Ile : A_Mlengths le) (Irf : Rfb rf) (At : A_Mtape tape) (A : MA s fo op wd ea pa) (T : TbR t (Mo_used s) th sc rf wi ls le) (V : RwR VAL va) (Tp : TpR tp tape (Mo_taped s)) (h : Mod_read fu th sc rf wi ls le tape s va rd li ne en be lf tu fo op ki co wd sca lk rp ba ea pa bi = some R) : ∃ Q : XQ, X_read fu t X VAL P W Fl L Re RR tp = some Q ∧ RdE VAL va Q R := by
  obtain ⟨I, a1, a2, a3, a4, a5⟩ := A
  have k0 : (0 : Int32).toInt = 0 := by decide
  have k1 : (1 : Int32).toInt = 1 := by decide
  have I0 : I_Mo (Mo_set_taped s 0) := I_Mo_set_taped I (by decide)
  unfold Mod_read o_lt at h
  dsimp only at h
  obtain ⟨r9, e9, h⟩ := oi_bd h
  obtain ⟨P', r9', eb, ec, ce⟩ := c_compile (P := P) (li := li) (ne := ne) (en := en) (be := be) (lf := lf) (tu := tu) (fo := fo) (op := op) hf It_ I0 Ile T
  rw [e9] at ec
  cases ec
  obtain ⟨r9', ec, p1, p2, p3, p4, p5, p6⟩ := t_Mod_compileAll (li := li) (ne := ne) (en := en) (be := be) (lf := lf) (tu := tu) hf Iw Is Ils Ile I0 a1 a2
  rw [e9] at ec
  cases ec
  have IP' : I_Prog P' := by
    obtain ⟨P2, e2, hP2⟩ := t_Prog_build (fu := fu) (sTab := t) (sProg := P) hf It_ IP
    rw [eb] at e2
    cases e2
    exact hP2
  obtain ⟨rd', hrd, h⟩ := rd_L21 fu 0 0 rd (by decide) (by omega) (fun j hj => absurd hj (by omega)) h
  -- the class, behind its compiling
  obtain ⟨X1, hX1⟩ : ∃ X1, X1 = X_set_faultPlace (X_set_faultNumber X (Prog_fault P')) (Prog_place P') := ⟨_, rfl⟩
  have esf : X_setFault (Prog_fault P') (Prog_place P') X = some X1 := by rw [hX1]; rfl
  have hf1 : X_faultNumber X1 = Prog_fault P' := by rw [hX1]
  have cls : X_read fu t X VAL P W Fl L Re RR tp = (if Prog_fault P' = 0 then o_bd (X_openTape fu tp X1 Re RR) fun q2 => (if q2.1 = 0 then X_read_j67 fu t q2.2.1 VAL P' W Fl L q2.2.2.1 q2.2.2.2 tp else if (Rea_packed q2.2.2.1) = 0 then o_bd (Rea_takePlain fu t P' tp W Fl L q2.2.2.1 q2.2.2.2) fun q3 => (X_read_j49 fu t q2.2.1 VAL P' q3.1 q3.2.1 q3.2.2.1 q3.2.2.2.1 q3.2.2.2.2 tp) else o_bd (Rea_takePacked fu t P' tp W Fl L q2.2.2.1 q2.2.2.2) fun q4 => (X_read_j49 fu t q2.2.1 VAL P' q4.1 q4.2.1 q4.2.2.1 q4.2.2.2.1 q4.2.2.2.2 tp)) else X_read_j67 fu t X1 VAL P' W Fl L Re RR tp) := by
    unfold X_read X_compileAnew
    rw [bd_s eb, bd_s esf]
    by_cases c : Prog_fault P' = 0
    · rw [if_pos c, if_pos c]
      rfl
    · rw [if_neg c, if_neg c]
      rfl
  rw [cls]
  rcases ce with ⟨c1, c2, _⟩ | ⟨c1, c2⟩
  · rw [if_pos c1]
    have f3 : Mo_fault (Mo_set_at r9.1 0) = 0 := c2
    unfold Mod_read_j43 at h
    rw [if_pos f3] at h
    obtain ⟨q7, e7, h⟩ := oi_bd h
    obtain ⟨b, Re1, RR1, o1, o2, o3⟩ := open_both (Re := Re) (RR := RR) hf Tp (fun j => A_Mtape_at At j) e7
    rcases o3 with ⟨o4, o5, o6⟩ | ⟨o4, o5, z, m, u1, u2, u3, u4, u5, u6, u7, u8, u9, u10, u11⟩
    · -- no form
      rw [if_pos o5] at h
      obtain ⟨s8, e8, h⟩ := oi_bd h
      have n8 : ¬ Mo_fault s8 ≤ 0 := by
        have hz7 : Mo_fault q7.2.1 ≤ 0 := by rw [o6, f3]; decide
        unfold Mod_wrong o_lt at e8
        rw [if_pos hz7] at e8
        cases e8
        show ¬ (11 : Int32) ≤ 0
        decide
      have g := rd_bad n8 h
      have eo : X_openTape fu tp X1 Re RR = some (0, X_set_faultPlace (X_set_faultNumber X1 11) (-1), Re1, RR1) := by
        unfold X_openTape
        rw [bd_s o1, if_pos o4]
        rfl
      rw [bd_s eo, if_pos rfl]
      dsimp only
      obtain ⟨Q, e, l0, _, l2⟩ := cl_tail (fu := fu) (t := t) (X := X_set_faultPlace (X_set_faultNumber X1 11) (-1)) (VAL := VAL) (P := P') (W := W) (Fl := Fl) (L := L) (Re := Re1) (RR := RR1) (tp := tp) hf
      obtain ⟨l3, l4⟩ := l2 (by show ¬ (11 : Int32) = 0; decide)
      exact ⟨Q, e, l0, Or.inr ⟨l3, g.1, l4, g.2⟩⟩
    · -- a message
      rw [if_neg o5] at h
      have eo : X_openTape fu tp X1 Re RR = some (1, X1, Re1, RR1) := by
        unfold X_openTape
        rw [bd_s o1, o4, if_neg (show ¬ (1 : Int32) = 0 by decide)]
      rw [bd_s eo, if_neg (show ¬ (1 : Int32) = 0 by decide)]
      dsimp only
      obtain ⟨sub, hsub⟩ : ∃ sub : Nat, (tape 1).toInt = (sub : Int) := ⟨(tape 1).toInt.toNat, by omega⟩
      have hM := cp_all hf It_ IP eb c1
      obtain ⟨M, hSg⟩ := hM
      have hcO := p6 c2
      have nt : ¬ Mo_taped s ≤ 1 := by
        intro e
        rw [i_le, k1] at e
        have k4 : (4 : Int32).toInt = 4 := by decide
        unfold Mod_unpack at e7
        rw [if_pos (show Mo_taped s < 4 by rw [i_lt, k4]; omega)] at e7
        cases e7
        exact o5 rfl
      have n0 : (0 : Int32).toNatClampNeg = 0 := by decide
      have n1 : (1 : Int32).toNatClampNeg = 1 := by decide
      unfold Mod_read_j65 at h
      rw [if_neg nt, n1] at h
      have h := oe_gd h
      unfold Mod_read_j81 o_lt at h
      dsimp only at h
      have h := oe_gd h
      rw [n0, u1] at h
      obtain ⟨s5, hs5⟩ : ∃ s5, s5 = Mo_set_subsets (Mo_set_many (Mo_set_at r9.1 0) z) (tape 1) := ⟨_, rfl⟩
      rw [← hs5] at h
      have z5 : Mo_fault s5 = 0 := by rw [hs5]; exact c2
      have I5 : I_Mo s5 := by
        rw [hs5]
        exact I_Mo_set_subsets (I_Mo_set_many (I_Mo_set_at p1 (by decide)) (by omega))
      have K5 : KM s5 (Mo_set_taped s 0) := by rw [hs5]; exact p2
      have su5 : (Mo_subsets s5).toInt = (sub : Int) := by rw [hs5]; exact hsub
      have A5 : MA s5 r9.2.2.2.2.2.2.2.1 r9.2.2.2.2.2.2.2.2 wd ea pa := ⟨I5, p4, p5, a3, a4, a5⟩
      have R5 : RdR tp q7.2.2 Re1 s5 RR1 rd' := by
        rw [hs5]
        refine ⟨?_, ?_, ?_, ?_, ?_, ?_, ?_, fun k j hk hj => ?_⟩
        · show (Rea_at Re1).toInt = 32 + (0 : Int32).toInt
          rw [u8, k0]
          rfl
        · show (Rea_end Re1).toInt = 32 + z.toInt
          rw [u9, u2]
        · show 0 ≤ (0 : Int32).toInt
          decide
        · show (0 : Int32).toInt ≤ z.toInt
          rw [u2, k0]
          omega
        · show z.toInt ≤ 40000
          rw [u2]
          omega
        · show BiR tp q7.2.2 z.toInt
          rw [u2]
          exact u10
        · show (Rea_subsets Re1).toInt = (tape 1).toInt
          rw [u5]
        · rw [u11 k j hk hj, hrd (100 * k + j) (by omega)]
      have ends : ∀ (W' : S_Walk) (Fl' : S_Fld) (L' : S_Lps) (Re' : S_Rea) (RR' : Nat → Nat → Int64) (w : A19), Rea_subsets Re' = Rea_subsets Re1 → OutP Re' RR' sub w → Mod_read_j151 fu th sc rf wi ls le tape w.1 va w.2.1 w.2.2.1 w.2.2.2.1 w.2.2.2.2.1 w.2.2.2.2.2.1 w.2.2.2.2.2.2.1 w.2.2.2.2.2.2.2.1 w.2.2.2.2.2.2.2.2.1 w.2.2.2.2.2.2.2.2.2.1 w.2.2.2.2.2.2.2.2.2.2.1 w.2.2.2.2.2.2.2.2.2.2.2.1 w.2.2.2.2.2.2.2.2.2.2.2.2.1 w.2.2.2.2.2.2.2.2.2.2.2.2.2.1 w.2.2.2.2.2.2.2.2.2.2.2.2.2.2.1 w.2.2.2.2.2.2.2.2.2.2.2.2.2.2.2.1 w.2.2.2.2.2.2.2.2.2.2.2.2.2.2.2.2.1 w.2.2.2.2.2.2.2.2.2.2.2.2.2.2.2.2.2.1 w.2.2.2.2.2.2.2.2.2.2.2.2.2.2.2.2.2.2 q7.2.2 = some R → ∃ Q : XQ, X_read_j49 fu t X1 VAL P' W' Fl' L' Re' RR' tp = some Q ∧ RdE VAL va Q R := by
        intro W' Fl' L' Re' RR' w hsb hO g
        have g := rd_tail g
        have ex : X_setFault (Rea_fault Re') (Rea_place Re') X1 = some (X_set_faultPlace (X_set_faultNumber X1 (Rea_fault Re')) (Rea_place Re')) := rfl
        unfold X_read_j49
        rw [bd_s ex]
        obtain ⟨Q, e, l0, l1, l2⟩ := cl_tail (fu := fu) (t := t) (X := X_set_faultPlace (X_set_faultNumber X1 (Rea_fault Re')) (Rea_place Re')) (VAL := VAL) (P := P') (W := W') (Fl := Fl') (L := L') (Re := Re') (RR := RR') (tp := tp) hf
        refine ⟨Q, e, l0, ?_⟩
        rcases hO with ⟨y1, y2, y3, y4, y5⟩ | ⟨y1, y2⟩
        · obtain ⟨m1, m2, m3⟩ := l1 y1
          obtain ⟨t1, t2, t3⟩ := g.1 ⟨y2, y3⟩
          refine Or.inl ⟨m1, t2, ?_, fun k j hk hj => ?_⟩
          · rw [m2, t1, hsb, u5]
            exact i_eq.mpr (by rw [y4, hsub])
          · rw [m3 k j hk hj, t3 (100 * k + j) (by omega)]
            exact y5 k j hk hj
        · obtain ⟨m1, m2⟩ := l2 y1
          obtain ⟨t1, t2⟩ := g.2 y2
          exact Or.inr ⟨m1, t1, m2, t2⟩
      by_cases c67 : tape 0 = 67
      · rw [if_pos c67] at h u4
        rw [u4, if_neg (show ¬ (1 : Int32) = 0 by decide)]
        unfold Mod_read_j100 at h
        rw [if_pos z5, if_neg (show ¬ (1 : Int32) = 0 by decide)] at h
        obtain ⟨r, er, h⟩ := oi_bd h
        unfold Mod_read_j118 at h
        have g := ref_stop (Or.inr (Or.inr (show ¬ (1 : Int32) = 0 by decide))) h
        obtain ⟨W', Fl', L', Re', RR', v1, v2, v3⟩ := pk_all (z0 := Mo_set_taped s 0) (W := W) (Fl := Fl) (L := L) (P := P') hf It_ IP' T Iw Is Ils Ile Irf hcO hSg (by omega) Ib Il (by omega) A5 K5 z5 o2 su5 R5 er
        rw [bd_s v1]
        exact ends W' Fl' L' Re' RR' r v2 v3 g
      · rw [if_neg c67] at h u4
        rw [u4, if_pos rfl]
        unfold Mod_read_j100 at h
        rw [if_pos z5, if_pos rfl] at h
        unfold Mod_read_j118 at h
        obtain ⟨W', Fl', L', Re', RR', w, v1, v2, v3, v4⟩ := pl_out (z0 := Mo_set_taped s 0) hf It_ IP' T Iw Is Ils Ile Irf hcO hSg (by omega) fu fu 0 0 W Fl L Re1 RR1 s5 rd' _ _ _ _ _ _ _ _ _ _ _ _ _ _ _ _ _ (by decide) (by omega) (by omega) A5 K5 z5 o2 su5 R5 (fun e => absurd e (by omega)) h
        have v1 : Rea_takePlain fu t P' tp W Fl L Re1 RR1 = some (W', Fl', L', Re', RR') := v1
        rw [bd_s v1]
        exact ends W' Fl' L' Re' RR' w v3 v4 v2
  · rw [if_neg c1]
    have n3 : ¬ Mo_fault (Mo_set_at r9.1 0) = 0 := c2
    unfold Mod_read_j43 at h
    rw [if_neg n3] at h
    have n8 : ¬ Mo_fault (Mo_set_at r9.1 0) ≤ 0 := by
      show ¬ Mo_fault r9.1 ≤ 0
      rw [i_le, k0]
      intro e
      exact c2 (i_eq.mpr (by omega))
    have g := rd_bad n8 h
    obtain ⟨Q, e, l0, _, l2⟩ := cl_tail (fu := fu) (t := t) (X := X1) (VAL := VAL) (P := P') (W := W) (Fl := Fl) (L := L) (Re := Re) (RR := RR) (tp := tp) hf
    obtain ⟨l3, l4⟩ := l2 (by rw [hf1]; exact c1)
    exact ⟨Q, e, l0, Or.inr ⟨l3, g.1, l4, g.2⟩⟩

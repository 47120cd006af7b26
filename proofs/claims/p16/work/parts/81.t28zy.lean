-- reading PACKED, and reading as a whole
theorem pk_all {fu M sub : Nat} {t : S_Tab} {P : S_Prog} {th sc rf wi ls le : Nat → Int32} {va : Nat → Int64} {bi : Nat → Int32} {tp : S_Bits} {z0 : S_Mo} (hf : 12000 ≤ fu) (It_ : I_Tab t) (IP : I_Prog P) (T : TbR t (Mo_used z0) th sc rf wi ls le) (Iw : A_Mwidths wi) (Is : A_Mscales sc) (Ils : A_Mlists ls) (Ile : A_Mlengths le) (Irf : Rfb rf) (hc : CompOK fu th sc wi ls le (Mo_used z0)) (hSg : Sg (It (Tab_listed t) (zT t) (Prog_descriptors P) (Prog_bodyEnds P) 64) M 128 (128 + zT t 16) 0 (Prog_size P).toInt.toNat) (h8 : sub ≤ 8) {W : S_Walk} {Fl : S_Fld} {L : S_Lps} {Re : S_Rea} {RR : Nat → Nat → Int64} {s : S_Mo} {rd : Nat → Int64} {li ne en be lf tu fo op ki co wd sca lk rp : Nat → Int32} {ba : Nat → Int64} {ea pa : Nat → Int32} {r : A19} (Ib : I_Bits tp) (Il : (Bits_length tp).toInt ≤ 8000) (h1 : 1 ≤ sub) (A : MA s fo op wd ea pa) (K : KM s z0) (hz : Mo_fault s = 0) (hrz : Rea_fault Re = 0) (hs : (Mo_subsets s).toInt = (sub : Int)) (R0 : RdR tp bi Re s RR rd) (er : Mod_walk fu th sc rf wi ls le va bi 0 3 s rd li ne en be lf tu fo op ki co wd sca lk rp ba ea pa = some r) : ∃ (W' : S_Walk) (Fl' : S_Fld) (L' : S_Lps) (Re' : S_Rea) (RR' : Nat → Nat → Int64), Rea_takePacked fu t P tp W Fl L Re RR = some (W', Fl', L', Re', RR') ∧ Rea_subsets Re' = Rea_subsets Re ∧ OutP Re' RR' sub r := by
  have k3 : (3 : Int32).toInt = 3 := by decide
  have R1 := R0
  obtain ⟨q1, q2, q3, q4, q5, q6, q7, q8⟩ := R1
  obtain ⟨I, a1, a2, a3, a4, a5⟩ := A
  have hu : Mo_used s = Mo_used z0 := K.1
  obtain ⟨r', er', hr'⟩ := t_walk2 (z := z0) (a0 := 0) (a1 := 3) (va := va) (bi := bi) (rf := rf) (rd := rd) (li := li) (ne := ne) (en := en) (be := be) (lf := lf) (tu := tu) (ki := ki) (co := co) (sca := sca) (lk := lk) (rp := rp) (ba := ba) hf Is Iw Ils Ile I a1 a2 a3 a4 a5 hz (by decide) (by decide) (Or.inr ⟨q4, q5⟩) (Or.inr (by omega)) K hc
  rw [er] at er'
  cases er'
  obtain ⟨⟨Wr, WKr, w3, w4, w5, w6, w7⟩, Kr⟩ := hr'
  have hsr : (Mo_subsets r.1).toInt = (sub : Int) := WKr.2.2.2.1.trans hs
  have hS := WSt_start (fu := fu) (th := th) (sc := sc) (wi := wi) (ls := ls) (le := le) (a0 := 0) (a1 := 3) (s := s) (li := li) (ne := ne) (en := en) (be := be) (lf := lf) I a1 a2 a3 a4 a5 (by rw [hz]; decide) (by decide) (by decide) (Or.inr ⟨q4, q5⟩) (Or.inr (by omega)) (by rw [hu]; exact hc)
  obtain ⟨W0, Fl0, L0, s1, eb, cb, ok, hKA, SY0⟩ := w_start (W := W) (Fl := Fl) (L := L) (P := P) hf It_ IP (by rw [hu]; exact T) Iw Is Ils Ile Irf hSg hS hz er
  have Rs : RdR tp bi Re s1 RR rd := RdR_KA hKA (show RdR tp bi Re (Mo_set_mode (Mo_set_subset s 0) 3) RR rd from R0)
  obtain ⟨W1, Fl1, L1, Re1, RR1, e1, e2, e3, e4⟩ := pk_L (sub := sub) ok Ib Il k3 (show (0 : Int32).toInt = 0 by decide) hs h1 h8 fu 0 fu 0 W0 Fl0 L0 s1 rd Re RR SY0 Rs (by decide) (by rw [cb]; decide) (by omega) (by omega)
  obtain ⟨W2, Re2, f1, f2, f3⟩ := ew_x (Fl := Fl1) (k := 0) (b := 1) (W := W1) (Re := Re1)
  have e1 : Rea_takePacked_L6 fu t P tp fu 0 W0 Fl0 L0 Re RR = _ := e1
  refine ⟨W2, Fl1, L1, Re2, RR1, ?_, f2.trans e3, ?_⟩
  · unfold Rea_takePacked
    rw [bd_s eb]
    dsimp only
    rw [e1, bd_s f1]
  · obtain ⟨_, e4⟩ := e4
    rcases e4 with ⟨x1, x2, x3⟩ | ⟨x1, x2⟩
    · have x2 : Mo_fault r.1 = 0 := x2
      have x3 : RdR tp bi Re1 r.1 RR1 r.2.1 := x3
      obtain ⟨v1, v2, v3, v4, v5, v6, v7, v8⟩ := x3
      rcases f3 with ⟨_, g2, g3, g4⟩ | ⟨g1, g2⟩
      · left
        rw [g4]
        refine ⟨e2.trans hrz, x2, ?_, hsr, v8⟩
        rcases g2 with g2 | g2
        · exact absurd g2 (by decide)
        · rw [i_le] at g2 ⊢
          omega
      · right
        refine ⟨g2, Or.inr ⟨x2, fun e => ?_⟩⟩
        rcases g1 with g1 | ⟨_, g1⟩
        · exact g1 x1
        · apply g1
          rw [i_le] at e ⊢
          omega
    · have x2 : ¬ Mo_fault r.1 = 0 := x2
      rcases f3 with ⟨g1, _⟩ | ⟨_, g2⟩
      · exact absurd g1 x1
      · exact Or.inr ⟨g2, Or.inl (flt_pos Wr x2)⟩
theorem rd_L21 {fu : Nat} {th sc rf wi ls le tape : Nat → Int32} {x1 : Int32} {s : S_Mo} {va : Nat → Int64} {li ne en be lf tu fo op ki co wd sca lk rp : Nat → Int32} {ba : Nat → Int64} {ea pa : Nat → Int32} {bi : Nat → Int32} {ke : (Nat → Int64) → Option A22} {R : A22} : ∀ (n k : Nat) (x : Int32) (rd : Nat → Int64), x.toInt = (k : Int) → k ≤ 800 → (∀ j, j < k → rd j = (-9000000000000000000)) → Mod_read_L21 fu th sc rf wi ls le tape x1 s va li ne en be lf tu fo op ki co wd sca lk rp ba ea pa bi ke n x rd = some R → ∃ rd' : Nat → Int64, (∀ j, j < 800 → rd' j = (-9000000000000000000)) ∧ ke rd' = some R
  | 0, k, x, rd, _, _, _, h => by
    rw [Mod_read_L21] at h
    cases h
  | n + 1, k, x, rd, hx, hk, hv, h => by
    have k1 : (1 : Int32).toInt = 1 := by decide
    have k8 : (800 : Int32).toInt = 800 := by decide
    rw [Mod_read_L21] at h
    by_cases c : k = 800
    · have c1 : (800 : Int32) ≤ x := by rw [i_le]; omega
      rw [if_pos c1] at h
      rw [c] at hv
      exact ⟨rd, hv, h⟩
    · have c1 : ¬ (800 : Int32) ≤ x := by rw [i_le]; omega
      rw [if_neg c1] at h
      have h := oe_gd h
      have nx : x.toNatClampNeg = k := by
        have := i_nat (a := x) (by omega)
        omega
      unfold o_lt at h
      rw [nx] at h
      have e1 : (x + 1).toInt = ((k + 1 : Nat) : Int) := by
        rw [i_add (a := x) (b := 1) (by omega) (by omega), hx, k1]
        rfl
      refine rd_L21 n (k + 1) (x + 1) _ e1 (by clear e1; omega) (fun j hj => ?_) h
      show (if j = k then (-9000000000000000000) else rd j) = (-9000000000000000000)
      by_cases cj : j = k
      · rw [if_pos cj]
      · rw [if_neg cj]
        exact hv j (by clear e1; omega)

-- reading PLAIN: all subsets
abbrev KeR : Type := S_Mo → (Nat → Int64) → (Nat → Int32) → (Nat → Int32) → (Nat → Int32) → (Nat → Int32) → (Nat → Int32) → (Nat → Int32) → (Nat → Int32) → (Nat → Int32) → (Nat → Int32) → (Nat → Int32) → (Nat → Int32) → (Nat → Int32) → (Nat → Int32) → (Nat → Int32) → (Nat → Int64) → (Nat → Int32) → (Nat → Int32) → Option A22
def OutP (Re' : S_Rea) (RR' : Nat → Nat → Int64) (sub : Nat) (w : A19) : Prop := (Rea_fault Re' = 0 ∧ Mo_fault w.1 = 0 ∧ Mo_many w.1 ≤ Mo_at w.1 ∧ (Mo_subsets w.1).toInt = (sub : Int) ∧ RwR RR' w.2.1) ∨ (¬ Rea_fault Re' = 0 ∧ (¬ Mo_fault w.1 ≤ 0 ∨ (Mo_fault w.1 = 0 ∧ ¬ Mo_many w.1 ≤ Mo_at w.1)))
theorem out_stop {fu n : Nat} {t : S_Tab} {P : S_Prog} {tp : S_Bits} {y : Int32} {W : S_Walk} {Fl : S_Fld} {L : S_Lps} {Re : S_Rea} {RR : Nat → Nat → Int64} (h : Rea_subsets Re ≤ y ∨ ¬ Rea_fault Re = 0) : Rea_takePlain_L2 fu t P tp (n + 1) y W Fl L Re RR = some (W, Fl, L, Re, RR) := by
  rw [Rea_takePlain_L2]
  by_cases c : Rea_subsets Re ≤ y
  · rw [if_pos c]
  · rw [if_neg c]
    rcases h with h | h
    · exact absurd h c
    · rw [if_neg h]
theorem ref_stop {fu n : Nat} {th sc rf wi ls le tape : Nat → Int32} {x2 : Int32} {va : Nat → Int64} {bi : Nat → Int32} {ke : KeR} {R : A22} {y : Int32} {s : S_Mo} {rd : Nat → Int64} {li ne en be lf tu fo op ki co wd sca lk rp : Nat → Int32} {ba : Nat → Int64} {ea pa : Nat → Int32} (h : Mo_subsets s ≤ y ∨ ¬ Mo_fault s = 0 ∨ ¬ x2 = 0) (g : Mod_read_L120 fu th sc rf wi ls le tape x2 va bi ke n y s rd li ne en be lf tu fo op ki co wd sca lk rp ba ea pa = some R) : ke s rd li ne en be lf tu fo op ki co wd sca lk rp ba ea pa = some R := by
  cases n with
  | zero =>
    rw [Mod_read_L120] at g
    cases g
  | succ n =>
    rw [Mod_read_L120] at g
    by_cases c : Mo_subsets s ≤ y
    · rw [if_pos c] at g
      exact g
    · rw [if_neg c] at g
      by_cases c2 : Mo_fault s = 0
      · rw [if_pos c2] at g
        rcases h with h | h | h
        · exact absurd h c
        · exact absurd c2 h
        · rw [if_neg h] at g
          exact g
      · rw [if_neg c2] at g
        exact g
theorem pl_out {fu M sub : Nat} {t : S_Tab} {P : S_Prog} {th sc rf wi ls le tape : Nat → Int32} {va : Nat → Int64} {bi : Nat → Int32} {tp : S_Bits} {ke : KeR} {z0 : S_Mo} {R : A22} (hf : 12000 ≤ fu) (It_ : I_Tab t) (IP : I_Prog P) (T : TbR t (Mo_used z0) th sc rf wi ls le) (Iw : A_Mwidths wi) (Is : A_Mscales sc) (Ils : A_Mlists ls) (Ile : A_Mlengths le) (Irf : Rfb rf) (hc : CompOK fu th sc wi ls le (Mo_used z0)) (hSg : Sg (It (Tab_listed t) (zT t) (Prog_descriptors P) (Prog_bodyEnds P) 64) M 128 (128 + zT t 16) 0 (Prog_size P).toInt.toNat) (h8 : sub ≤ 8) : ∀ (n n' kk : Nat) (y : Int32) (W : S_Walk) (Fl : S_Fld) (L : S_Lps) (Re : S_Rea) (RR : Nat → Nat → Int64) (s : S_Mo) (rd : Nat → Int64) (li ne en be lf tu fo op ki co wd sca lk rp : Nat → Int32) (ba : Nat → Int64) (ea pa : Nat → Int32), y.toInt = (kk : Int) → kk ≤ sub → sub - kk < n → MA s fo op wd ea pa → KM s z0 → Mo_fault s = 0 → Rea_fault Re = 0 → (Mo_subsets s).toInt = (sub : Int) → RdR tp bi Re s RR rd → (kk = sub → Rea_end Re ≤ Rea_at Re) → Mod_read_L120 fu th sc rf wi ls le tape 0 va bi ke n' y s rd li ne en be lf tu fo op ki co wd sca lk rp ba ea pa = some R → ∃ (W' : S_Walk) (Fl' : S_Fld) (L' : S_Lps) (Re' : S_Rea) (RR' : Nat → Nat → Int64) (w : A19), Rea_takePlain_L2 fu t P tp n y W Fl L Re RR = some (W', Fl', L', Re', RR') ∧ ke w.1 w.2.1 w.2.2.1 w.2.2.2.1 w.2.2.2.2.1 w.2.2.2.2.2.1 w.2.2.2.2.2.2.1 w.2.2.2.2.2.2.2.1 w.2.2.2.2.2.2.2.2.1 w.2.2.2.2.2.2.2.2.2.1 w.2.2.2.2.2.2.2.2.2.2.1 w.2.2.2.2.2.2.2.2.2.2.2.1 w.2.2.2.2.2.2.2.2.2.2.2.2.1 w.2.2.2.2.2.2.2.2.2.2.2.2.2.1 w.2.2.2.2.2.2.2.2.2.2.2.2.2.2.1 w.2.2.2.2.2.2.2.2.2.2.2.2.2.2.2.1 w.2.2.2.2.2.2.2.2.2.2.2.2.2.2.2.2.1 w.2.2.2.2.2.2.2.2.2.2.2.2.2.2.2.2.2.1 w.2.2.2.2.2.2.2.2.2.2.2.2.2.2.2.2.2.2 = some R ∧ Rea_subsets Re' = Rea_subsets Re ∧ OutP Re' RR' sub w
  | 0, n', kk, y, W, Fl, L, Re, RR, s, rd, li, ne, en, be, lf, tu, fo, op, ki, co, wd, sca, lk, rp, ba, ea, pa, hy, hk, hn, A, K, hz, hrz, hs, R0, hl, h => absurd hn (by omega)
  | n + 1, 0, kk, y, W, Fl, L, Re, RR, s, rd, li, ne, en, be, lf, tu, fo, op, ki, co, wd, sca, lk, rp, ba, ea, pa, hy, hk, hn, A, K, hz, hrz, hs, R0, hl, h => by
    rw [Mod_read_L120] at h
    cases h
  | n + 1, n' + 1, kk, y, W, Fl, L, Re, RR, s, rd, li, ne, en, be, lf, tu, fo, op, ki, co, wd, sca, lk, rp, ba, ea, pa, hy, hk, hn, A, K, hz, hrz, hs, R0, hl, h => by
    have k1 : (1 : Int32).toInt = 1 := by decide
    have k2 : (2 : Int32).toInt = 2 := by decide
    have R1 := R0
    obtain ⟨q1, q2, q3, q4, q5, q6, q7, q8⟩ := R1
    have hr : (Rea_subsets Re).toInt = (sub : Int) := q7.trans hs
    by_cases ck : kk = sub
    · have c1 : Rea_subsets Re ≤ y := by rw [i_le]; omega
      have c2 : Mo_subsets s ≤ y := by rw [i_le]; omega
      have ce := hl ck
      rw [i_le] at ce
      have g := ref_stop (Or.inl c2) h
      exact ⟨W, Fl, L, Re, RR, (s, rd, li, ne, en, be, lf, tu, fo, op, ki, co, wd, sca, lk, rp, ba, ea, pa), out_stop (Or.inl c1), g, rfl, Or.inl ⟨hrz, hz, by rw [i_le]; show (Mo_many s).toInt ≤ (Mo_at s).toInt; omega, hs, q8⟩⟩
    · have c1 : ¬ Rea_subsets Re ≤ y := by rw [i_le]; omega
      have c2 : ¬ Mo_subsets s ≤ y := by rw [i_le]; omega
      obtain ⟨I, a1, a2, a3, a4, a5⟩ := A
      rw [Mod_read_L120, if_neg c2, if_pos hz, if_pos rfl] at h
      obtain ⟨r, er, h⟩ := oi_bd h
      obtain ⟨r', er', hr'⟩ := t_walk2 (z := z0) (a0 := y) (a1 := 2) (va := va) (bi := bi) (rf := rf) (rd := rd) (li := li) (ne := ne) (en := en) (be := be) (lf := lf) (tu := tu) (ki := ki) (co := co) (sca := sca) (lk := lk) (rp := rp) (ba := ba) hf Is Iw Ils Ile I a1 a2 a3 a4 a5 hz (by omega) (by omega) (Or.inr ⟨q4, q5⟩) (Or.inl (by decide)) K hc
      rw [er] at er'
      cases er'
      obtain ⟨⟨Wr, WKr, w3, w4, w5, w6, w7⟩, Kr⟩ := hr'
      have hsr : (Mo_subsets r.1).toInt = (sub : Int) := WKr.2.2.2.1.trans hs
      have hu : Mo_used s = Mo_used z0 := K.1
      have hS := WSt_start (fu := fu) (th := th) (sc := sc) (wi := wi) (ls := ls) (le := le) (a0 := y) (a1 := 2) (s := s) (li := li) (ne := ne) (en := en) (be := be) (lf := lf) I a1 a2 a3 a4 a5 (by rw [hz]; decide) (by omega) (by omega) (Or.inr ⟨q4, q5⟩) (Or.inl (by decide)) (by rw [hu]; exact hc)
      obtain ⟨W0, Fl0, L0, s1, eb, cb, ok, hKA, SY0⟩ := w_start (W := W) (Fl := Fl) (L := L) (P := P) hf It_ IP (by rw [hu]; exact T) Iw Is Ils Ile Irf hSg hS hz er
      have Rs : RdR tp bi Re s1 RR rd := RdR_KA hKA (show RdR tp bi Re (Mo_set_mode (Mo_set_subset s y) 2) RR rd from R0)
      have PL := pl_L (k := kk) (xk := y) (ke := fun zWalk zFld zLps zRea zRR => Rea_takePlain_j82 fu t P tp (fun v0 v1 v2 v3 v4 v5 => Rea_takePlain_L2 fu t P tp n v0 v1 v2 v3 v4 v5) y zWalk zFld zLps zRea zRR) ok k2 hy (by omega) hy fu 0 fu 0 W0 Fl0 L0 s1 rd Re RR SY0 Rs (by decide) (by rw [cb]; decide) (by omega) (by omega)
      obtain ⟨W1, Fl1, L1, Re1, RR1, e1, e2, e3, e4⟩ := PL
      have y1 : (y + 1).toInt = ((kk + 1 : Nat) : Int) := by
        rw [i_add (a := y) (b := 1) (by omega) (by omega), hy, k1]
        rfl
      have hr1 : (Rea_subsets Re1).toInt = (sub : Int) := by rw [e3]; exact hr
      obtain ⟨n, rfl⟩ : ∃ n1, n = n1 + 1 := ⟨n - 1, by clear y1; omega⟩
      -- what stands behind the walk's end
      obtain ⟨b, hb1, hb2⟩ : ∃ b : Int32, (b = 0 ↔ ¬ kk + 1 = sub) ∧ Rea_takePlain_j82 fu t P tp (fun v0 v1 v2 v3 v4 v5 => Rea_takePlain_L2 fu t P tp (n + 1) v0 v1 v2 v3 v4 v5) y W1 Fl1 L1 Re1 RR1 = (o_bd (Rea_endWalk Fl1 y b W1 Re1) fun q15 => Rea_takePlain_L2 fu t P tp (n + 1) (y + 1) q15.1 Fl1 L1 q15.2 RR1) := by
        have es : (Rea_subsets Re1 - 1).toInt = (sub : Int) - 1 := by
          clear y1
          rw [i_sub (a := Rea_subsets Re1) (b := 1) (by omega) (by omega), hr1, k1]
        by_cases c : y = Rea_subsets Re1 - 1
        · have c' := c
          rw [i_eq, es] at c'
          refine ⟨1, ⟨fun e => absurd e (by decide), fun e => absurd (by clear y1 es; omega) e⟩, ?_⟩
          unfold Rea_takePlain_j82
          rw [if_pos c]
          rfl
        · have c' := c
          rw [i_eq, es] at c'
          refine ⟨0, ⟨fun _ e => c' (by clear y1 es c'; omega), fun _ => rfl⟩, ?_⟩
          unfold Rea_takePlain_j82
          rw [if_neg c]
          rfl
      have cls : Rea_takePlain_L2 fu t P tp (n + 1 + 1) y W Fl L Re RR = (o_bd (Rea_endWalk Fl1 y b W1 Re1) fun q15 => Rea_takePlain_L2 fu t P tp (n + 1) (y + 1) q15.1 Fl1 L1 q15.2 RR1) := by
        rw [Rea_takePlain_L2, if_neg c1, if_pos hrz, bd_s eb]
        dsimp only
        exact e1.trans hb2
      obtain ⟨W2, Re2, f1, f2, f3⟩ := ew_x (Fl := Fl1) (k := y) (b := b) (W := W1) (Re := Re1)
      rw [bd_s f1] at cls
      dsimp only at cls
      obtain ⟨_, e4⟩ := e4
      have flt : ¬ Mo_fault r.1 = 0 → ¬ Rea_fault Re2 = 0 → ∃ (W' : S_Walk) (Fl' : S_Fld) (L' : S_Lps) (Re' : S_Rea) (RR' : Nat → Nat → Int64) (w : A19), Rea_takePlain_L2 fu t P tp (n + 1 + 1) y W Fl L Re RR = some (W', Fl', L', Re', RR') ∧ ke w.1 w.2.1 w.2.2.1 w.2.2.2.1 w.2.2.2.2.1 w.2.2.2.2.2.1 w.2.2.2.2.2.2.1 w.2.2.2.2.2.2.2.1 w.2.2.2.2.2.2.2.2.1 w.2.2.2.2.2.2.2.2.2.1 w.2.2.2.2.2.2.2.2.2.2.1 w.2.2.2.2.2.2.2.2.2.2.2.1 w.2.2.2.2.2.2.2.2.2.2.2.2.1 w.2.2.2.2.2.2.2.2.2.2.2.2.2.1 w.2.2.2.2.2.2.2.2.2.2.2.2.2.2.1 w.2.2.2.2.2.2.2.2.2.2.2.2.2.2.2.1 w.2.2.2.2.2.2.2.2.2.2.2.2.2.2.2.2.1 w.2.2.2.2.2.2.2.2.2.2.2.2.2.2.2.2.2.1 w.2.2.2.2.2.2.2.2.2.2.2.2.2.2.2.2.2.2 = some R ∧ Rea_subsets Re' = Rea_subsets Re ∧ OutP Re' RR' sub w := by
        intro hf1 hf2
        have g := ref_stop (Or.inr (Or.inl hf1)) h
        rw [out_stop (Or.inr hf2)] at cls
        exact ⟨W2, Fl1, L1, Re2, RR1, r, cls, g, f2.trans e3, Or.inr ⟨hf2, Or.inl (flt_pos Wr hf1)⟩⟩
      rcases e4 with ⟨x1, x2, x3⟩ | ⟨x1, x2⟩
      · have x2 : Mo_fault r.1 = 0 := x2
        have x3 : RdR tp bi Re1 r.1 RR1 r.2.1 := x3
        rcases f3 with ⟨_, g2, g3, g4⟩ | ⟨g1, g2⟩
        · rw [g3, g4] at cls
          obtain ⟨W', Fl', L', Re', RR', w, o1, o2, o3, o4⟩ := pl_out hf It_ IP T Iw Is Ils Ile Irf hc hSg h8 (n + 1) n' (kk + 1) (y + 1) W1 Fl1 L1 Re1 RR1 r.1 r.2.1 _ _ _ _ _ _ _ _ _ _ _ _ _ _ _ _ _ y1 (by clear y1; omega) (by clear y1; omega) ⟨Wr.1, w3, w4, w5, w6, w7⟩ Kr x2 (e2.trans hrz) hsr x3 (fun e => by
            rcases g2 with g2 | g2
            · exact absurd e (hb1.1 g2)
            · exact g2) h
          exact ⟨W', Fl', L', Re', RR', w, cls.trans o1, o2, o3.trans e3, o4⟩
        · rcases g1 with g1 | ⟨g1, g3⟩
          · exact absurd x1 g1
          · have kl : kk + 1 = sub := by
              by_cases c : kk + 1 = sub
              · exact c
              · exact absurd (hb1.2 c) g1
            have cs : Mo_subsets r.1 ≤ y + 1 := by
              rw [i_le, y1, hsr]
              clear y1
              omega
            have g := ref_stop (Or.inl cs) h
            rw [out_stop (Or.inr g2)] at cls
            refine ⟨W2, Fl1, L1, Re2, RR1, r, cls, g, f2.trans e3, Or.inr ⟨g2, Or.inr ⟨x2, fun e => g3 ?_⟩⟩⟩
            obtain ⟨v1, v2, _⟩ := x3
            rw [i_le] at e ⊢
            clear y1
            omega
      · have x2 : ¬ Mo_fault r.1 = 0 := x2
        rcases f3 with ⟨g1, _⟩ | ⟨_, g2⟩
        · exact absurd g1 x1
        · exact flt x2 g2

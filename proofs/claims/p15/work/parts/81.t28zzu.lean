-- Law.write, by X.write
theorem lw_inv {fu : Nat} {VAL : Nat → Nat → Int64} {t : S_Tab} {Wr : S_Wri} {a b : Int32} {X : S_X} {P : S_Prog} {W : S_Walk} {Fl : S_Fld} {L : S_Lps} {wb : S_Bits} {w : Nat → Int64} {q : Int32 × S_X × S_Prog × S_Walk × S_Fld × S_Lps × S_Bits × (Nat → Int64)} (h : Law_write fu 1 VAL t Wr a b X P W Fl L wb w = some q) : ∃ Q : Int32 × Int32 × S_X × S_Prog × S_Walk × S_Fld × S_Lps × S_Bits, X_write fu VAL t Wr a b X P W Fl L wb = some Q ∧ q.2.2.2.2.2.2.1 = Q.2.2.2.2.2.2.2 ∧ q.1 = Q.1 ∧ (Q.1 = 0 → q.2.2.2.2.2.2.2 0 = Q.2.1.toInt64) := by
  unfold Law_write at h
  obtain ⟨Q, e, h⟩ := oi_bd h
  refine ⟨Q, e, ?_⟩
  by_cases c : Q.1 = 0
  · rw [if_pos c] at h
    have h := oe_gd h
    unfold o_lt at h
    cases h
    exact ⟨rfl, c.symm, fun _ => updL_at w 0 _⟩
  · rw [if_neg c] at h
    by_cases c1 : Q.1 = 1
    · rw [if_pos c1] at h
      cases h
      exact ⟨rfl, c1.symm, fun e => absurd e c⟩
    · rw [if_neg c1] at h
      cases h
-- p15: write
theorem t_La_c13 {fu N : Nat} {xs : Nat → Int32} {t : S_Tab} {Wr : S_Wri} {VAL : Nat → Nat → Int64} {th sc rf wi ls le : Nat → Int32} {va : Nat → Int64} {x4 : Int32} {X : S_X} {P : S_Prog} {W : S_Walk} {Fl : S_Fld} {L : S_Lps} {wb : S_Bits} {s : S_Mo} {rd : Nat → Int64} {li ne en be lf tu fo op ki co wd sca lk rp : Nat → Int32} {ba : Nat → Int64} {ea pa : Nat → Int32} {bi ma fk fw fs : Nat → Int32} {fb w : Nat → Int64} {tape : Nat → Int32} {tp : S_Bits} (hf : 45000 ≤ fu) (It_ : I_Tab t) (IP : I_Prog P) (IW : I_Walk W) (IF : I_Fld Fl) (IL : I_Lps L) (IB : I_Bits wb) (Ith : A_Mthere th) (Is : A_Mscales sc) (Iw : A_Mwidths wi) (Ils : A_Mlists ls) (Ile : A_Mlengths le) (Irf : Rfb rf) (I : I_Mo s) (Ifo : A_MfoundOps fo) (Iop : A_Mops op) (Aw : A_Mwidth wd) (Ae : A_MelementAt ea) (Ap : A_MpointAt pa) (h0 : 0 ≤ x4.toInt) (h1 : x4.toInt + 5 < (N : Int)) (h2 : (N : Int) ≤ 3072) (T : TbR t (Mo_used s) th sc rf wi ls le) (V : RwR VAL va) (Tp : TpR tp tape (Mo_taped s)) : So (La_c13 fu xs N t Wr VAL th sc rf wi ls le va x4 X P W Fl L wb s rd li ne en be lf tu fo op ki co wd sca lk rp ba ea pa bi ma fk fw fs fb w) (fun r => I_Prog r.2.1 ∧ I_Walk r.2.2.1 ∧ I_Fld r.2.2.2.1 ∧ I_Lps r.2.2.2.2.1 ∧ I_Bits r.2.2.2.2.2.1 ∧ I_Mo r.2.2.2.2.2.2.1 ∧ A_MfoundOps r.2.2.2.2.2.2.2.2.2.2.2.2.2.2.1 ∧ A_Mops r.2.2.2.2.2.2.2.2.2.2.2.2.2.2.2.1 ∧ A_Mwidth r.2.2.2.2.2.2.2.2.2.2.2.2.2.2.2.2.2.2.1 ∧ A_MelementAt r.2.2.2.2.2.2.2.2.2.2.2.2.2.2.2.2.2.2.2.2.2.2.2.1 ∧ A_MpointAt r.2.2.2.2.2.2.2.2.2.2.2.2.2.2.2.2.2.2.2.2.2.2.2.2.1 ∧ TbR t (Mo_used r.2.2.2.2.2.2.1) th sc rf wi ls le ∧ TpR tp tape (Mo_taped r.2.2.2.2.2.2.1)) := by
  unfold La_c13
  have k1 : (1 : Int32).toInt = 1 := by decide
  have k2 : (2 : Int32).toInt = 2 := by decide
  have e1 := i_add (a := x4) (b := 1) (by omega) (by omega)
  have e2 := i_add (a := x4) (b := 2) (by omega) (by omega)
  have g1 : o_in (x4 + 1) N = true := i_in.mpr (by omega)
  have g2 : o_in (x4 + 2) N = true := i_in.mpr (by omega)
  have core : ∀ b : Int32, ∃ (Q : Int32 × Int32 × S_X × S_Prog × S_Walk × S_Fld × S_Lps × S_Bits) (p : A26), Law_write fu 1 VAL t Wr (xs (x4 + 1).toNatClampNeg) b X P W Fl L wb w = some (Q.1, Q.2.2.1, Q.2.2.2.1, Q.2.2.2.2.1, Q.2.2.2.2.2.1, Q.2.2.2.2.2.2.1, Q.2.2.2.2.2.2.2, if Q.1 = 0 then vp_updL w (0 : Int32).toNatClampNeg (Q.2.1.toInt64) else w) ∧ Mod_write fu th sc rf wi ls le va (xs (x4 + 1).toNatClampNeg) b s rd li ne en be lf tu fo op ki co wd sca lk rp ba ea pa bi ma fk fw fs fb = some p ∧ Mod_thrown p.2.1 = some Q.1 ∧ (Q.1 = 0 → (if Q.1 = 0 then vp_updL w (0 : Int32).toNatClampNeg (Q.2.1.toInt64) else w) (0 : Int32).toNatClampNeg = p.1.toInt64) ∧ ∀ w', So (some (Q.2.2.1, Q.2.2.2.1, Q.2.2.2.2.1, Q.2.2.2.2.2.1, Q.2.2.2.2.2.2.1, Q.2.2.2.2.2.2.2, p.2.1, p.2.2.1, p.2.2.2.1, p.2.2.2.2.1, p.2.2.2.2.2.1, p.2.2.2.2.2.2.1, p.2.2.2.2.2.2.2.1, p.2.2.2.2.2.2.2.2.1, p.2.2.2.2.2.2.2.2.2.1, p.2.2.2.2.2.2.2.2.2.2.1, p.2.2.2.2.2.2.2.2.2.2.2.1, p.2.2.2.2.2.2.2.2.2.2.2.2.1, p.2.2.2.2.2.2.2.2.2.2.2.2.2.1, p.2.2.2.2.2.2.2.2.2.2.2.2.2.2.1, p.2.2.2.2.2.2.2.2.2.2.2.2.2.2.2.1, p.2.2.2.2.2.2.2.2.2.2.2.2.2.2.2.2.1, p.2.2.2.2.2.2.2.2.2.2.2.2.2.2.2.2.2.1, p.2.2.2.2.2.2.2.2.2.2.2.2.2.2.2.2.2.2.1, p.2.2.2.2.2.2.2.2.2.2.2.2.2.2.2.2.2.2.2.1, p.2.2.2.2.2.2.2.2.2.2.2.2.2.2.2.2.2.2.2.2.1, p.2.2.2.2.2.2.2.2.2.2.2.2.2.2.2.2.2.2.2.2.2.1, p.2.2.2.2.2.2.2.2.2.2.2.2.2.2.2.2.2.2.2.2.2.2.1, p.2.2.2.2.2.2.2.2.2.2.2.2.2.2.2.2.2.2.2.2.2.2.2.1, p.2.2.2.2.2.2.2.2.2.2.2.2.2.2.2.2.2.2.2.2.2.2.2.2.1, p.2.2.2.2.2.2.2.2.2.2.2.2.2.2.2.2.2.2.2.2.2.2.2.2.2, w')) (fun r : S_X × S_Prog × S_Walk × S_Fld × S_Lps × S_Bits × S_Mo × (Nat → Int64) × (Nat → Int32) × (Nat → Int32) × (Nat → Int32) × (Nat → Int32) × (Nat → Int32) × (Nat → Int32) × (Nat → Int32) × (Nat → Int32) × (Nat → Int32) × (Nat → Int32) × (Nat → Int32) × (Nat → Int32) × (Nat → Int32) × (Nat → Int32) × (Nat → Int64) × (Nat → Int32) × (Nat → Int32) × (Nat → Int32) × (Nat → Int32) × (Nat → Int32) × (Nat → Int32) × (Nat → Int32) × (Nat → Int64) × (Nat → Int64) => I_Prog r.2.1 ∧ I_Walk r.2.2.1 ∧ I_Fld r.2.2.2.1 ∧ I_Lps r.2.2.2.2.1 ∧ I_Bits r.2.2.2.2.2.1 ∧ I_Mo r.2.2.2.2.2.2.1 ∧ A_MfoundOps r.2.2.2.2.2.2.2.2.2.2.2.2.2.2.1 ∧ A_Mops r.2.2.2.2.2.2.2.2.2.2.2.2.2.2.2.1 ∧ A_Mwidth r.2.2.2.2.2.2.2.2.2.2.2.2.2.2.2.2.2.2.1 ∧ A_MelementAt r.2.2.2.2.2.2.2.2.2.2.2.2.2.2.2.2.2.2.2.2.2.2.2.1 ∧ A_MpointAt r.2.2.2.2.2.2.2.2.2.2.2.2.2.2.2.2.2.2.2.2.2.2.2.2.1 ∧ TbR t (Mo_used r.2.2.2.2.2.2.1) th sc rf wi ls le ∧ TpR tp tape (Mo_taped r.2.2.2.2.2.2.1)) := by
    intro b
    obtain ⟨Q, eQ, q1, q2, q3, q4, q5, q6⟩ := t_X_write (fu := fu) (sX := X) (sVAL := VAL) (sWri := Wr) (a0 := xs (x4 + 1).toNatClampNeg) (a1 := b) (by omega) It_ IP IW IF IL IB
    obtain ⟨p, ep, p1, p2, p3, p4, p5, p6, p7, p8⟩ := t_Mod_write (rf := rf) (va := va) (a0 := xs (x4 + 1).toNatClampNeg) (a1 := b) (rd := rd) (li := li) (ne := ne) (en := en) (be := be) (lf := lf) (tu := tu) (ki := ki) (co := co) (sca := sca) (lk := lk) (rp := rp) (ba := ba) (bi := bi) (ma := ma) (fk := fk) (fw := fw) (fs := fs) (fb := fb) hf Ith Is Iw Ils Ile I Ifo Iop Aw Ae Ap
    have B := (write_both (show 12000 ≤ fu by omega) It_ IP Iw Is Ils Ile Irf I Ifo Iop Aw Ae Ap T V eQ ep).1
    refine ⟨Q, p, ?_, ep, ?_, ?_, fun w' => So.one ⟨q1, q2, q3, q4, q5, p1, p2, p3, p4, p5, p6, TbR.keep T p7, TpR.keep Tp p8⟩⟩
    · unfold Law_write
      rw [eQ]
      show (if Q.1 = 0 then _ else _) = _
      rcases B with ⟨c, _⟩ | ⟨c, _⟩
      · rw [if_pos c, if_pos c, c]
        rfl
      · have n0 : ¬ Q.1 = 0 := by rw [c]; decide
        rw [if_neg n0, if_pos c, if_neg n0, c]
    · unfold Mod_thrown
      rcases B with ⟨c, d, _⟩ | ⟨c, d⟩
      · rw [c, d]
      · rw [c, d]
    · intro c0
      rw [if_pos c0]
      rcases B with ⟨c, d, e⟩ | ⟨c, d⟩
      · rw [← e]
        exact if_pos rfl
      · rw [c] at c0
        exact absurd c0 (by decide)
  refine So.gd g1 (So.gd g2 ?_)
  by_cases c : xs (x4 + 2).toNatClampNeg = 0
  · obtain ⟨Q, p, e1, e2, e3, e4, fin⟩ := core 0
    refine So.pos c ?_
    unfold La_c13_j698
    refine So.bde e1 (So.gd g1 (So.gd g2 (So.pos c ?_)))
    unfold La_c13_j725
    refine So.bde e2 (So.bde e3 (So.pos rfl ?_))
    by_cases c0 : Q.1 = 0
    · exact So.pos c0 (So.gd (by decide) (So.pos (e4 c0) (fin _)))
    · exact So.neg c0 (fin _)
  · obtain ⟨Q, p, e1, e2, e3, e4, fin⟩ := core 1
    refine So.neg c ?_
    unfold La_c13_j698
    refine So.bde e1 (So.gd g1 (So.gd g2 (So.neg c ?_)))
    unfold La_c13_j725
    refine So.bde e2 (So.bde e3 (So.pos rfl ?_))
    by_cases c0 : Q.1 = 0
    · exact So.pos c0 (So.gd (by decide) (So.pos (e4 c0) (fin _)))
    · exact So.neg c0 (fin _)

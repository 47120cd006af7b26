-- Law.write, by X.write
theorem lw_inv {fu : Nat} {VAL : Nat → Nat → Int64} {t : S_Tab} {Wr : S_Wri} {a b : Int32} {X : S_X} {P : S_Prog} {W : S_Walk} {Fl : S_Fld} {L : S_Lps} {wb : S_Bits} {w : Nat → Int64} {q : Int32 × S_X × S_Prog × S_Walk × S_Fld × S_Lps × S_Bits × (Nat → Int64)} (h : Law_write fu 1 VAL t Wr a b X P W Fl L wb w = some q) : ∃ Q : Int32 × Int32 × S_X × S_Prog × S_Walk × S_Fld × S_Lps × S_Bits, X_write fu VAL t Wr a b X P W Fl L wb = some Q ∧ q.2.2.2.2.2.2.1 = Q.2.2.2.2.2.2.2 ∧ q.1 = Q.1 ∧ (Q.1 = 0 → q.2.2.2.2.2.2.2 0 = Q.2.1.toInt64) := by
  unfold Law_write at h
  obtain ⟨Q, e, h⟩ := oi_bd h
  refine ⟨Q, e, ?_⟩
  by_cases c : Q.1 = 0
  · rw [if_pos c] at h
    have h := oe_gd h
    unfold o_lt at h
    cases h
    exact ⟨rfl, c.symm, fun _ => updL_at w 0 _⟩
  · rw [if_neg c] at h
    by_cases c1 : Q.1 = 1
    · rw [if_pos c1] at h
      cases h
      exact ⟨rfl, c1.symm, fun e => absurd e c⟩
    · rw [if_neg c1] at h
      cases h
theorem md_c13 {fu N : Nat} {xs : Nat → Int32} {t : S_Tab} {Wr : S_Wri} {VAL : Nat → Nat → Int64} {th sc rf wi ls le : Nat → Int32} {va : Nat → Int64} {x4 : Int32} {X : S_X} {P : S_Prog} {W : S_Walk} {Fl : S_Fld} {L : S_Lps} {wb : S_Bits} {s : S_Mo} {rd : Nat → Int64} {li ne en be lf tu fo op ki co wd sca lk rp : Nat → Int32} {ba : Nat → Int64} {ea pa : Nat → Int32} {bi ma fk fw fs : Nat → Int32} {fb w : Nat → Int64} {r : S_X × S_Prog × S_Walk × S_Fld × S_Lps × S_Bits × S_Mo × (Nat → Int64) × (Nat → Int32) × (Nat → Int32) × (Nat → Int32) × (Nat → Int32) × (Nat → Int32) × (Nat → Int32) × (Nat → Int32) × (Nat → Int32) × (Nat → Int32) × (Nat → Int32) × (Nat → Int32) × (Nat → Int32) × (Nat → Int32) × (Nat → Int32) × (Nat → Int64) × (Nat → Int32) × (Nat → Int32) × (Nat → Int32) × (Nat → Int32) × (Nat → Int32) × (Nat → Int32) × (Nat → Int32) × (Nat → Int64) × (Nat → Int64)} (hf : 45000 ≤ fu) (It_ : I_Tab t) (IP : I_Prog P) (Iw : A_Mwidths wi) (Is : A_Mscales sc) (Ils : A_Mlists ls) (Ile : A_Mlengths le) (Irf : Rfb rf) (I : I_Mo s) (Ifo : A_MfoundOps fo) (Iop : A_Mops op) (Aw : A_Mwidth wd) (Ae : A_MelementAt ea) (Ap : A_MpointAt pa) (T : TbR t (Mo_used s) th sc rf wi ls le) (V : RwR VAL va) (h : La_c13 fu xs N t Wr VAL th sc rf wi ls le va x4 X P W Fl L wb s rd li ne en be lf tu fo op ki co wd sca lk rp ba ea pa bi ma fk fw fs fb w = some r) (D : MdR wb s ma) : MdR r.2.2.2.2.2.1 r.2.2.2.2.2.2.1 r.2.2.2.2.2.2.2.2.2.2.2.2.2.2.2.2.2.2.2.2.2.2.2.2.2.2.1 := by
  unfold La_c13 at h
  have h := oe_gd (oe_gd h)
  by_cases c : xs (x4 + 2).toNatClampNeg = 0
  · rw [if_pos c] at h
    unfold La_c13_j698 at h
    obtain ⟨q4, e4, h⟩ := oi_bd h
    have h := oe_gd (oe_gd h)
    rw [if_pos c] at h
    unfold La_c13_j725 at h
    obtain ⟨q8, e8, h⟩ := oi_bd h
    cases h
    obtain ⟨Q, eQ, l1, _⟩ := lw_inv e4
    have g := (write_both (by omega) It_ IP Iw Is Ils Ile Irf I Ifo Iop Aw Ae Ap T V eQ e8).2 D
    rw [← l1] at g
    exact g
  · rw [if_neg c] at h
    unfold La_c13_j698 at h
    obtain ⟨q4, e4, h⟩ := oi_bd h
    have h := oe_gd (oe_gd h)
    rw [if_neg c] at h
    unfold La_c13_j725 at h
    obtain ⟨q8, e8, h⟩ := oi_bd h
    cases h
    obtain ⟨Q, eQ, l1, _⟩ := lw_inv e4
    have g := (write_both (by omega) It_ IP Iw Is Ils Ile Irf I Ifo Iop Aw Ae Ap T V eQ e8).2 D
    rw [← l1] at g
    exact g
-- p16: byteAt
theorem t_La_c14 {fu N : Nat} {xs : Nat → Int32} {X : S_X} {Wr : S_Wri} {wb : S_Bits} {ma : Nat → Int32} {x4 : Int32} {s : S_Mo} {t : S_Tab} {th sc rf wi ls le tape : Nat → Int32} {tp : S_Bits} (hf : 45000 ≤ fu) (IB : I_Bits wb) (I : I_Mo s) (h0 : 0 ≤ x4.toInt) (h1 : x4.toInt + 5 < (N : Int)) (h2 : (N : Int) ≤ 3072) (T : TbR t (Mo_used s) th sc rf wi ls le) (Tp : TpR tp tape (Mo_taped s)) (D : MdR wb s ma) : So (La_c14 fu xs N X Wr wb ma x4 s) (fun r => I_Mo r ∧ TbR t (Mo_used r) th sc rf wi ls le ∧ TpR tp tape (Mo_taped r) ∧ MdR wb r ma) := by
  unfold La_c14
  have k1 : (1 : Int32).toInt = 1 := by decide
  have e1 := i_add (a := x4) (b := 1) (by omega) (by omega)
  have g1 : o_in (x4 + 1) N = true := i_in.mpr (by omega)
  obtain ⟨q, eq, _⟩ := t_X_byteAt (sX := X) (sWri := Wr) (a0 := xs (x4 + 1).toNatClampNeg) IB
  obtain ⟨p, ep, _⟩ := t_Mod_byteAt (sMmade := ma) (a0 := xs (x4 + 1).toNatClampNeg) (show 12000 ≤ fu by omega) I
  obtain ⟨b1, b2⟩ := byteAt_both D eq ep
  have fin : So (some p.2) (fun r : S_Mo => I_Mo r ∧ TbR t (Mo_used r) th sc rf wi ls le ∧ TpR tp tape (Mo_taped r) ∧ MdR wb r ma) := So.one (by
    show I_Mo p.2 ∧ TbR t (Mo_used p.2) th sc rf wi ls le ∧ TpR tp tape (Mo_taped p.2) ∧ MdR wb p.2 ma
    rw [b2]
    exact ⟨I_Mo_set_thrown I, T, Tp, MdR.keep D (s' := Mo_set_thrown s 0) ⟨rfl, rfl, rfl, rfl⟩⟩)
  exact So.gd g1 (So.bde eq (So.gd g1 (So.bde ep (So.pos b1 fin))))

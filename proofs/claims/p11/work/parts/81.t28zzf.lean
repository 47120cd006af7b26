-- p11: fields
theorem l_fields {fu : Nat} {VAL : Nat → Nat → Int64} {t : S_Tab} {a : Int32} {X : S_X} {P : S_Prog} {W : S_Walk} {Fl : S_Fld} {L : S_Lps} {w : Nat → Int64} {q : Int32 × S_X × S_Prog × S_Walk × S_Fld × S_Lps × (Nat → Int64)} (h : Law_fields fu 1 VAL t a X P W Fl L w = some q) : ∃ Q : FQ, X_fields fu VAL t a X P W Fl L = some Q ∧ ((Q.1 = 0 ∧ q.1 = 0 ∧ q.2.2.2.2.2.2 = vp_updL w 0 Q.2.1.toInt64) ∨ (Q.1 = 3 ∧ q.1 = 1) ∨ (Q.1 = 1 ∧ q.1 = 2)) := by
  unfold Law_fields at h
  obtain ⟨Q, e, h⟩ := oi_bd h
  refine ⟨Q, e, ?_⟩
  by_cases c : Q.1 = 0
  · rw [if_pos c] at h
    have h := oe_gd h
    cases h
    exact Or.inl ⟨c, rfl, rfl⟩
  · rw [if_neg c] at h
    by_cases c3 : Q.1 = 3
    · rw [if_pos c3] at h
      cases h
      exact Or.inr (Or.inl ⟨c3, rfl⟩)
    · rw [if_neg c3] at h
      by_cases c1 : Q.1 = 1
      · rw [if_pos c1] at h
        cases h
        exact Or.inr (Or.inr ⟨c1, rfl⟩)
      · rw [if_neg c1] at h
        cases h
theorem t_La_c9 {fu N : Nat} {xs : Nat → Int32} {t : S_Tab} {P : S_Prog} {X : S_X} {VAL : Nat → Nat → Int64} {W : S_Walk} {Fl : S_Fld} {L : S_Lps} {th sc rf wi ls le tape : Nat → Int32} {va : Nat → Int64} {bi : Nat → Int32} {x4 : Int32} {s : S_Mo} {rd : Nat → Int64} {li ne en be lf tu fo op ki co wd sca lk rp : Nat → Int32} {ba : Nat → Int64} {ea pa : Nat → Int32} {w : Nat → Int64} {tp : S_Bits} (hf : 45000 ≤ fu) (It_ : I_Tab t) (IP : I_Prog P) (IW : I_Walk W) (IF : I_Fld Fl) (IL : I_Lps L) (Ith : A_Mthere th) (Is : A_Mscales sc) (Iw : A_Mwidths wi) (Ils : A_Mlists ls) (Ile : A_Mlengths le) (I : I_Mo s) (Ifo : A_MfoundOps fo) (Iop : A_Mops op) (Aw : A_Mwidth wd) (Ae : A_MelementAt ea) (Ap : A_MpointAt pa) (h0 : 0 ≤ x4.toInt) (h1 : x4.toInt + 5 < (N : Int)) (h2 : (N : Int) ≤ 3072) (T : TbR t (Mo_used s) th sc rf wi ls le) (V : RwR VAL va) (Tp : TpR tp tape (Mo_taped s)) : So (La_c9 fu xs N t VAL th sc rf wi ls le va bi x4 X P W Fl L s rd li ne en be lf tu fo op ki co wd sca lk rp ba ea pa w) (fun r => I_Prog r.2.1 ∧ I_Walk r.2.2.1 ∧ I_Fld r.2.2.2.1 ∧ I_Lps r.2.2.2.2.1 ∧ I_Mo r.2.2.2.2.2.1 ∧ A_MfoundOps r.2.2.2.2.2.2.2.2.2.2.2.2.2.1 ∧ A_Mops r.2.2.2.2.2.2.2.2.2.2.2.2.2.2.1 ∧ A_Mwidth r.2.2.2.2.2.2.2.2.2.2.2.2.2.2.2.2.2.1 ∧ A_MelementAt r.2.2.2.2.2.2.2.2.2.2.2.2.2.2.2.2.2.2.2.2.2.2.1 ∧ A_MpointAt r.2.2.2.2.2.2.2.2.2.2.2.2.2.2.2.2.2.2.2.2.2.2.2.1 ∧ TbR t (Mo_used r.2.2.2.2.2.1) th sc rf wi ls le ∧ TpR tp tape (Mo_taped r.2.2.2.2.2.1)) := by
  unfold La_c9
  have k1 : (1 : Int32).toInt = 1 := by decide
  have e1 := i_add (a := x4) (b := 1) (by omega) (by omega)
  have g1 : o_in (x4 + 1) N = true := i_in.mpr (by omega)
  obtain ⟨p, ep, hp⟩ := t_Mod_fields (va := va) (bi := bi) (a0 := xs (x4 + 1).toNatClampNeg) (rf := rf) (rd := rd) (li := li) (ne := ne) (en := en) (be := be) (lf := lf) (tu := tu) (ki := ki) (co := co) (sca := sca) (lk := lk) (rp := rp) (ba := ba) (show 12000 ≤ fu by omega) Ith Is Iw Ils Ile I Ifo Iop Aw Ae Ap
  obtain ⟨p1, p2, p3, p4, p5, p6, _, _, pK⟩ := hp
  obtain ⟨Q, eQ, hQ⟩ := fields_both (X := X) (W := W) (Fl := Fl) (L := L) (show 12000 ≤ fu by omega) It_ IP Iw Is Ils Ile I Ifo Iop Aw Ae Ap T V ep
  obtain ⟨q, eq, q1, q2, q3, q4, _⟩ := t_Law_fields (nRW := 1) (sVAL := VAL) (a1 := xs (x4 + 1).toNatClampNeg) (sX := X) (sRW := w) hf It_ IP IW IF IL rfl
  obtain ⟨Q', eQ', hL⟩ := l_fields eq
  rw [eQ] at eQ'
  cases eQ'
  have hk : Mo_thrown p.2.1 = q.1 ∧ (q.1 = 0 → q.2.2.2.2.2.2 0 = p.1.toInt64) := by
    rcases hQ with ⟨y1, y2⟩ | ⟨y1, y2⟩ | ⟨y1, y2, y3⟩
    · rcases hL with ⟨z1, _⟩ | ⟨_, z2⟩ | ⟨z1, _⟩
      · rw [y1] at z1
        exact absurd z1 (by decide)
      · exact ⟨y2.trans z2.symm, fun e => absurd (z2.symm.trans e) (by decide)⟩
      · rw [y1] at z1
        exact absurd z1 (by decide)
    · rcases hL with ⟨z1, _⟩ | ⟨z1, _⟩ | ⟨_, z2⟩
      · rw [y1] at z1
        exact absurd z1 (by decide)
      · rw [y1] at z1
        exact absurd z1 (by decide)
      · exact ⟨y2.trans z2.symm, fun e => absurd (z2.symm.trans e) (by decide)⟩
    · rcases hL with ⟨_, z2, z3⟩ | ⟨z1, _⟩ | ⟨z1, _⟩
      · refine ⟨y2.trans z2.symm, fun _ => ?_⟩
        rw [z3, updL_at, y3]
      · rw [y1] at z1
        exact absurd z1 (by decide)
      · rw [y1] at z1
        exact absurd z1 (by decide)
  have et : Mod_thrown p.2.1 = some q.1 := by
    unfold Mod_thrown
    rw [hk.1]
  have fin : ∀ w', So (some (q.2.1, q.2.2.1, q.2.2.2.1, q.2.2.2.2.1, q.2.2.2.2.2.1, p.2.1, p.2.2.1, p.2.2.2.1, p.2.2.2.2.1, p.2.2.2.2.2.1, p.2.2.2.2.2.2.1, p.2.2.2.2.2.2.2.1, p.2.2.2.2.2.2.2.2.1, p.2.2.2.2.2.2.2.2.2.1, p.2.2.2.2.2.2.2.2.2.2.1, p.2.2.2.2.2.2.2.2.2.2.2.1, p.2.2.2.2.2.2.2.2.2.2.2.2.1, p.2.2.2.2.2.2.2.2.2.2.2.2.2.1, p.2.2.2.2.2.2.2.2.2.2.2.2.2.2.1, p.2.2.2.2.2.2.2.2.2.2.2.2.2.2.2.1, p.2.2.2.2.2.2.2.2.2.2.2.2.2.2.2.2.1, p.2.2.2.2.2.2.2.2.2.2.2.2.2.2.2.2.2.1, p.2.2.2.2.2.2.2.2.2.2.2.2.2.2.2.2.2.2.1, p.2.2.2.2.2.2.2.2.2.2.2.2.2.2.2.2.2.2.2, w')) (fun r : S_X × S_Prog × S_Walk × S_Fld × S_Lps × S_Mo × (Nat → Int64) × (Nat → Int32) × (Nat → Int32) × (Nat → Int32) × (Nat → Int32) × (Nat → Int32) × (Nat → Int32) × (Nat → Int32) × (Nat → Int32) × (Nat → Int32) × (Nat → Int32) × (Nat → Int32) × (Nat → Int32) × (Nat → Int32) × (Nat → Int32) × (Nat → Int64) × (Nat → Int32) × (Nat → Int32) × (Nat → Int64) => I_Prog r.2.1 ∧ I_Walk r.2.2.1 ∧ I_Fld r.2.2.2.1 ∧ I_Lps r.2.2.2.2.1 ∧ I_Mo r.2.2.2.2.2.1 ∧ A_MfoundOps r.2.2.2.2.2.2.2.2.2.2.2.2.2.1 ∧ A_Mops r.2.2.2.2.2.2.2.2.2.2.2.2.2.2.1 ∧ A_Mwidth r.2.2.2.2.2.2.2.2.2.2.2.2.2.2.2.2.2.1 ∧ A_MelementAt r.2.2.2.2.2.2.2.2.2.2.2.2.2.2.2.2.2.2.2.2.2.2.1 ∧ A_MpointAt r.2.2.2.2.2.2.2.2.2.2.2.2.2.2.2.2.2.2.2.2.2.2.2.1 ∧ TbR t (Mo_used r.2.2.2.2.2.1) th sc rf wi ls le ∧ TpR tp tape (Mo_taped r.2.2.2.2.2.1)) := fun w' => So.one ⟨q1, q2, q3, q4, p1, p2, p3, p4, p5, p6, TbR.keep T (congrArg Int32.toInt pK.1), TpR.keep Tp (congrArg Int32.toInt pK.2.1)⟩
  refine So.gd g1 (So.bde eq (So.gd g1 (So.bde ep (So.bde et (So.pos rfl ?_)))))
  by_cases c : q.1 = 0
  · exact So.pos c (So.gd (by decide) (So.pos (hk.2 c) (fin _)))
  · exact So.neg c (fin _)

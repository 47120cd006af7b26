-- put, on both sides
theorem isv {a b : Int32} : X_isValue a b = some (if (0 ≤ a.toInt ∧ a.toInt < 8) ∧ 0 ≤ b.toInt ∧ b.toInt < 100 then 1 else 0) := by
  have k0 : (0 : Int32).toInt = 0 := by decide
  have k8 : (8 : Int32).toInt = 8 := by decide
  have kh : (100 : Int32).toInt = 100 := by decide
  unfold X_isValue X_isSubset
  by_cases c1 : a < 0
  · rw [if_pos c1, bd_s rfl, if_pos rfl]
    rw [i_lt] at c1
    rw [if_neg (by omega)]
  · rw [if_neg c1]
    by_cases c2 : 8 ≤ a
    · rw [if_pos c2, bd_s rfl, if_pos rfl]
      rw [i_le] at c2
      rw [if_neg (by omega)]
    · rw [if_neg c2, bd_s rfl, if_neg (show ¬ (1 : Int32) = 0 by decide)]
      rw [i_lt] at c1
      rw [i_le] at c2
      by_cases c3 : b < 0
      · rw [if_pos c3]
        rw [i_lt] at c3
        rw [if_neg (by omega)]
      · rw [if_neg c3]
        by_cases c4 : 100 ≤ b
        · rw [if_pos c4]
          rw [i_le] at c4
          rw [if_neg (by omega)]
        · rw [if_neg c4]
          rw [i_lt] at c3
          rw [i_le] at c4
          rw [if_pos (by omega)]
theorem iss {a : Int32} : Mod_isSubset a = some (if 0 ≤ a.toInt ∧ a.toInt < 8 then 1 else 0) := by
  have k0 : (0 : Int32).toInt = 0 := by decide
  have k8 : (8 : Int32).toInt = 8 := by decide
  unfold Mod_isSubset
  by_cases c1 : a < 0
  · rw [if_pos c1]
    rw [i_lt] at c1
    rw [if_neg (by omega)]
  · rw [if_neg c1]
    by_cases c2 : 8 ≤ a
    · rw [if_pos c2]
      rw [i_le] at c2
      rw [if_neg (by omega)]
    · rw [if_neg c2]
      rw [i_lt] at c1
      rw [i_le] at c2
      rw [if_pos (by omega)]
theorem m_put2 {a b : Int32} {v : Int64} {s : S_Mo} {va : Nat → Int64} {p : S_Mo × (Nat → Int64)} (h : Mod_put a b v s va = some p) : ((0 ≤ a.toInt ∧ a.toInt < 8) ∧ 0 ≤ b.toInt ∧ b.toInt < 100 → p.2 = vp_updL va (100 * a.toInt.toNat + b.toInt.toNat) v) ∧ (¬ ((0 ≤ a.toInt ∧ a.toInt < 8) ∧ 0 ≤ b.toInt ∧ b.toInt < 100) → p.2 = va) := by
  have k0 : (0 : Int32).toInt = 0 := by decide
  have kh : (100 : Int32).toInt = 100 := by decide
  have j22 : Mod_put_j22 a b v s va = some p → p.2 = va := by
    intro g
    unfold Mod_put_j22 Mod_put_j23 o_lt at g
    dsimp only at g
    rw [if_neg (show ¬ (1 : Int32) = 0 by decide)] at g
    cases g
    rfl
  unfold Mod_put at h
  rw [bd_s iss] at h
  by_cases c : 0 ≤ a.toInt ∧ a.toInt < 8
  · rw [if_pos c, if_neg (show ¬ (1 : Int32) = 0 by decide)] at h
    by_cases c3 : b < 0
    · rw [if_pos c3] at h
      rw [i_lt] at c3
      exact ⟨fun e => absurd e (by omega), fun _ => j22 h⟩
    · rw [if_neg c3] at h
      by_cases c4 : 100 ≤ b
      · rw [if_pos c4] at h
        rw [i_le] at c4
        exact ⟨fun e => absurd e (by omega), fun _ => j22 h⟩
      · rw [if_neg c4] at h
        rw [i_lt] at c3
        rw [i_le] at c4
        refine ⟨fun _ => ?_, fun e => absurd (by omega) e⟩
        unfold Mod_put_j23 o_lt at h
        dsimp only at h
        rw [if_pos rfl] at h
        have h := oe_gd h
        have ix := (idx_k (b := a) (f := b) (k := a.toInt.toNat) (i := b.toInt.toNat) (by omega) (by omega) (by omega) (by omega)).1
        rw [ix] at h
        cases h
        rfl
  · rw [if_neg c, if_pos rfl] at h
    exact ⟨fun e => absurd e.1 c, fun _ => j22 h⟩
theorem put_both {X : S_X} {a b : Int32} {v : Int64} {VAL : Nat → Nat → Int64} {s : S_Mo} {va : Nat → Int64} {q : Int32 × (Nat → Nat → Int64)} {p : S_Mo × (Nat → Int64)} (V : RwR VAL va) (h1 : Law_put X a b v VAL = some q) (h2 : Mod_put a b v s va = some p) : RwR q.2 p.2 := by
  have M := m_put2 h2
  unfold Law_put at h1
  obtain ⟨q1, e1, h1⟩ := oi_bd h1
  have eq2 : q.2 = q1.2 := by
    by_cases c : q1.1 = 0
    · rw [if_pos c] at h1
      cases h1
      rfl
    · rw [if_neg c] at h1
      by_cases c3 : q1.1 = 3
      · rw [if_pos c3] at h1
        cases h1
        rfl
      · rw [if_neg c3] at h1
        cases h1
  rw [eq2]
  unfold X_put at e1
  rw [bd_s isv] at e1
  by_cases c : (0 ≤ a.toInt ∧ a.toInt < 8) ∧ 0 ≤ b.toInt ∧ b.toInt < 100
  · rw [if_pos c, if_neg (show ¬ (1 : Int32) = 0 by decide)] at e1
    have e1 := oe_gd (oe_gd e1)
    unfold o_lt at e1
    have na : a.toNatClampNeg = a.toInt.toNat := rfl
    have nb : b.toNatClampNeg = b.toInt.toNat := rfl
    rw [na, nb] at e1
    cases e1
    rw [M.1 c]
    exact rows_up (by omega) V
  · rw [if_neg c, if_pos rfl] at e1
    cases e1
    rw [M.2 c]
    exact V
theorem va_c7 {fu L : Nat} {xs : Nat → Int32} {X : S_X} {x4 : Int32} {VAL : Nat → Nat → Int64} {s : S_Mo} {va : Nat → Int64} {r : (Nat → Nat → Int64) × S_Mo × (Nat → Int64)} (h : La_c7 fu xs L X x4 VAL s va = some r) (V : RwR VAL va) : RwR r.1 r.2.2 := by
  unfold La_c7 at h
  have h := oe_gd (oe_gd (oe_gd (oe_gd h)))
  obtain ⟨q5, e5, h⟩ := oi_bd h
  have h := oe_gd (oe_gd (oe_gd (oe_gd h)))
  obtain ⟨q10, e10, h⟩ := oi_bd h
  cases h
  exact put_both V e5 e10
-- feed
theorem TpR.keep {tp : S_Bits} {tape : Nat → Int32} {u u' : Int32} (T : TpR tp tape u) (h : u'.toInt = u.toInt) : TpR tp tape u' := by
  have e : u' = u := i_eq.mpr h
  rw [e]
  exact T
theorem tt_c15 {fu L : Nat} {xs : Nat → Int32} {X : S_X} {x4 : Int32} {tp : S_Bits} {s : S_Mo} {tape : Nat → Int32} {r : S_Bits × S_Mo × (Nat → Int32)} (hf : 45000 ≤ fu) (At : A_Mtape tape) (h : La_c15 fu xs L X x4 tp s tape = some r) (T : TpR tp tape (Mo_taped s)) : TpR r.1 r.2.2 (Mo_taped r.2.1) := by
  unfold La_c15 at h
  have h := oe_gd (oe_gd h)
  obtain ⟨q3, e3, h⟩ := oi_bd h
  have h := oe_gd (oe_gd h)
  obtain ⟨q6, e6, h⟩ := oi_bd h
  cases h
  exact feed_both (by omega) At T e3 e6
theorem tt_zero {tp : S_Bits} {tape : Nat → Int32} {u : Int32} (h1 : Bits_length tp = 0) (h2 : ∀ j, j < 1000 → Bits_bytes tp j = 0) (h3 : u = 0) : TpR tp tape u := by
  have k0 : (0 : Int32).toInt = 0 := by decide
  rw [h3]
  refine ⟨?_, ?_, ?_, fun j hj => ?_, fun j _ hj => h2 j hj⟩
  · rw [h1, k0]
    rfl
  · decide
  · decide
  · rw [k0] at hj
    omega
-- read
theorem l_read {fu nR : Nat} {t : S_Tab} {X : S_X} {VAL : Nat → Nat → Int64} {P : S_Prog} {W : S_Walk} {Fl : S_Fld} {L : S_Lps} {Re : S_Rea} {RR : Nat → Nat → Int64} {tp : S_Bits} {w : Nat → Int64} {q : Int32 × S_X × (Nat → Nat → Int64) × S_Prog × S_Walk × S_Fld × S_Lps × S_Rea × (Nat → Nat → Int64) × S_Bits × (Nat → Int64)} (h : Law_read fu nR t X VAL P W Fl L Re RR tp w = some q) : ∃ Q : XQ, X_read fu t X VAL P W Fl L Re RR tp = some Q ∧ q.2.2.1 = Q.2.2.2.1 ∧ q.2.2.2.2.2.2.2.2.2.1 = Q.2.2.2.2.2.2.2.2.2.2 ∧ ((Q.1 = 0 ∧ q.1 = 0 ∧ q.2.2.2.2.2.2.2.2.2.2 = vp_updL w 0 Q.2.1.toInt64) ∨ (¬ Q.1 = 0 ∧ Q.1 = 1 ∧ q.1 = 1)) := by
  unfold Law_read at h
  obtain ⟨Q, e, h⟩ := oi_bd h
  refine ⟨Q, e, ?_⟩
  by_cases c : Q.1 = 0
  · rw [if_pos c] at h
    have h := oe_gd h
    cases h
    exact ⟨rfl, rfl, Or.inl ⟨c, rfl, rfl⟩⟩
  · rw [if_neg c] at h
    by_cases c1 : Q.1 = 1
    · rw [if_pos c1] at h
      cases h
      exact ⟨rfl, rfl, Or.inr ⟨c, c1, rfl⟩⟩
    · rw [if_neg c1] at h
      cases h
theorem rd_rel {fu : Nat} {t : S_Tab} {P : S_Prog} {X : S_X} {VAL : Nat → Nat → Int64} {W : S_Walk} {Fl : S_Fld} {L : S_Lps} {Re : S_Rea} {RR : Nat → Nat → Int64} {tp : S_Bits} {th sc rf wi ls le tape : Nat → Int32} {s : S_Mo} {va rd : Nat → Int64} {li ne en be lf tu fo op ki co wd sca lk rp : Nat → Int32} {ba : Nat → Int64} {ea pa : Nat → Int32} {bi : Nat → Int32} {w : Nat → Int64} {q : Int32 × S_X × (Nat → Nat → Int64) × S_Prog × S_Walk × S_Fld × S_Lps × S_Rea × (Nat → Nat → Int64) × S_Bits × (Nat → Int64)} {R : A22} (hf : 12000 ≤ fu) (It_ : I_Tab t) (IP : I_Prog P) (Ib : I_Bits tp) (Il : (Bits_length tp).toInt ≤ 8000) (Iw : A_Mwidths wi) (Is : A_Mscales sc) (Ils : A_Mlists ls) (Ile : A_Mlengths le) (Irf : Rfb rf) (At : A_Mtape tape) (I : I_Mo s) (Ifo : A_MfoundOps fo) (Iop : A_Mops op) (Aw : A_Mwidth wd) (Ae : A_MelementAt ea) (Ap : A_MpointAt pa) (T : TbR t (Mo_used s) th sc rf wi ls le) (V : RwR VAL va) (Tp : TpR tp tape (Mo_taped s)) (h1 : Law_read fu 1 t X VAL P W Fl L Re RR tp w = some q) (h2 : Mod_read fu th sc rf wi ls le tape s va rd li ne en be lf tu fo op ki co wd sca lk rp ba ea pa bi = some R) : RwR q.2.2.1 R.2.2.1 ∧ TpR q.2.2.2.2.2.2.2.2.2.1 tape (Mo_taped R.2.1) ∧ ((q.1 = 0 ∧ Mo_thrown R.2.1 = 0 ∧ q.2.2.2.2.2.2.2.2.2.2 0 = R.1.toInt64) ∨ (q.1 = 1 ∧ Mo_thrown R.2.1 = 1)) := by
  obtain ⟨Q, eQ, q1, q2, q3⟩ := l_read h1
  obtain ⟨Q', eQ', ⟨z1, z2⟩, z3⟩ := read_both (X := X) (W := W) (Fl := Fl) (L := L) (Re := Re) (RR := RR) hf It_ IP Ib Il Iw Is Ils Ile Irf At ⟨I, Ifo, Iop, Aw, Ae, Ap⟩ T V Tp h2
  rw [eQ] at eQ'
  cases eQ'
  obtain ⟨R', eR', hR⟩ := t_rd_all (va := va) (rd := rd) (rf := rf) (li := li) (ne := ne) (en := en) (be := be) (lf := lf) (tu := tu) (ki := ki) (co := co) (sca := sca) (lk := lk) (rp := rp) (ba := ba) (bi := bi) hf Is Iw Ils Ile At ⟨I, Ifo, Iop, Aw, Ae, Ap⟩
  rw [h2] at eR'
  cases eR'
  have ht : Mo_taped R.2.1 = 0 := hR.2.2.1
  rw [q1, q2]
  refine ⟨?_, tt_zero z1 z2 ht, ?_⟩
  · rcases z3 with ⟨_, _, _, y⟩ | ⟨_, _, y1, y2⟩
    · exact y
    · rw [y1, y2]
      exact V
  · rcases z3 with ⟨y1, y2, y3, _⟩ | ⟨y1, y2, _⟩
    · rcases q3 with ⟨_, x1, x2⟩ | ⟨x1, _⟩
      · refine Or.inl ⟨x1, y2, ?_⟩
        rw [x2, updL_at, y3]
      · exact absurd y1 x1
    · rcases q3 with ⟨x1, _⟩ | ⟨_, _, x2⟩
      · rw [y1] at x1
        exact absurd x1 (by decide)
      · exact Or.inr ⟨x2, y2⟩
theorem rd_c16 {fu : Nat} {t : S_Tab} {P : S_Prog} {X : S_X} {VAL : Nat → Nat → Int64} {W : S_Walk} {Fl : S_Fld} {L : S_Lps} {Re : S_Rea} {RR : Nat → Nat → Int64} {tp : S_Bits} {th sc rf wi ls le tape : Nat → Int32} {s : S_Mo} {va rd : Nat → Int64} {li ne en be lf tu fo op ki co wd sca lk rp : Nat → Int32} {ba : Nat → Int64} {ea pa : Nat → Int32} {bi : Nat → Int32} {w : Nat → Int64} {xs : Nat → Int32} {LL : Nat} {x4 : Int32} {r : S_X × S_Prog × S_Walk × S_Fld × S_Lps × S_Bits × S_Rea × (Nat → Nat → Int64) × (Nat → Nat → Int64) × S_Mo × (Nat → Int64) × (Nat → Int64) × (Nat → Int32) × (Nat → Int32) × (Nat → Int32) × (Nat → Int32) × (Nat → Int32) × (Nat → Int32) × (Nat → Int32) × (Nat → Int32) × (Nat → Int32) × (Nat → Int32) × (Nat → Int32) × (Nat → Int32) × (Nat → Int32) × (Nat → Int32) × (Nat → Int64) × (Nat → Int32) × (Nat → Int32) × (Nat → Int32) × (Nat → Int64)} (hf : 45000 ≤ fu) (It_ : I_Tab t) (IP : I_Prog P) (Ib : I_Bits tp) (Il : (Bits_length tp).toInt ≤ 8000) (Iw : A_Mwidths wi) (Is : A_Mscales sc) (Ils : A_Mlists ls) (Ile : A_Mlengths le) (Irf : Rfb rf) (At : A_Mtape tape) (I : I_Mo s) (Ifo : A_MfoundOps fo) (Iop : A_Mops op) (Aw : A_Mwidth wd) (Ae : A_MelementAt ea) (Ap : A_MpointAt pa) (T : TbR t (Mo_used s) th sc rf wi ls le) (V : RwR VAL va) (Tp : TpR tp tape (Mo_taped s)) (h : La_c16 fu xs LL t th sc rf wi ls le tape x4 X P W Fl L tp Re RR VAL s va rd li ne en be lf tu fo op ki co wd sca lk rp ba ea pa bi w = some r) : RwR r.2.2.2.2.2.2.2.2.1 r.2.2.2.2.2.2.2.2.2.2.1 ∧ TpR r.2.2.2.2.2.1 tape (Mo_taped r.2.2.2.2.2.2.2.2.2.1) := by
  unfold La_c16 at h
  obtain ⟨q1, e1, h⟩ := oi_bd h
  obtain ⟨q2, e2, h⟩ := oi_bd h
  cases h
  have g := rd_rel (by omega) It_ IP Ib Il Iw Is Ils Ile Irf At I Ifo Iop Aw Ae Ap T V Tp e1 e2
  exact ⟨g.1, g.2.1⟩

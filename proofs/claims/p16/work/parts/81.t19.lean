def RG (s : S_Mo) (li ne en be lf li' ne' en' be' lf' : Nat → Int32) : Prop := ∀ f : Nat, (f : Int) < (Mo_open s).toInt → li f = li' f ∧ ne f = ne' f ∧ en f = en' f ∧ be f = be' f ∧ lf f = lf' f
theorem enter_inv {fu : Nat} {op li ne en be lf tu fo : Nat → Int32} {a0 a1 a2 a3 a4 : Int32} {s : S_Mo} {r : S_Mo × (Nat → Int32) × (Nat → Int32) × (Nat → Int32) × (Nat → Int32) × (Nat → Int32) × (Nat → Int32) × (Nat → Int32)} (hf : 12000 ≤ fu) (h : Mod_enter fu op a0 a1 a2 a3 a4 s li ne en be lf tu fo = some r) : ∃ o : Nat, (Mo_open s).toInt = (o : Int) ∧ o < 90 ∧ r = (Mo_set_open s (Mo_open s + 1), upd li o a0, upd ne o a1, upd en o a2, upd be o a1, upd lf o a3, upd tu o a4, fo4 fo o op) := by
  have h0 := h
  unfold Mod_enter at h0
  have gi : o_in (Mo_open s) 90 = true := by
    unfold o_gd at h0
    split at h0
    · assumption
    · cases h0
  have hgi := i_in.mp gi
  have hn := i_nat hgi.1
  refine ⟨(Mo_open s).toNatClampNeg, hn.symm, by omega, ?_⟩
  rw [enter_eq hf hn.symm (by omega)] at h
  exact (Option.some.inj h).symm
theorem RG.push {s : S_Mo} {li ne en be lf li' ne' en' be' lf' : Nat → Int32} {o : Nat} {a b c d : Int32} (h : RG s li ne en be lf li' ne' en' be' lf') (ho : (Mo_open s).toInt = (o : Int)) (h90 : o < 90) : RG (Mo_set_open s (Mo_open s + 1)) (upd li o a) (upd ne o b) (upd en o c) (upd be o b) (upd lf o d) (upd li' o a) (upd ne' o b) (upd en' o c) (upd be' o b) (upd lf' o d) := fun f hf => by
  have hf : (f : Int) < (Mo_open s + 1).toInt := hf
  have k1 : (1 : Int32).toInt = 1 := by decide
  have e1 := i_add (a := Mo_open s) (b := 1) (by omega) (by omega)
  by_cases e : f = o
  · rw [e, upd_at, upd_at, upd_at, upd_at, upd_at, upd_at, upd_at, upd_at, upd_at, upd_at]
    exact ⟨rfl, rfl, rfl, rfl, rfl⟩
  · rw [upd_ne e, upd_ne e, upd_ne e, upd_ne e, upd_ne e, upd_ne e, upd_ne e, upd_ne e, upd_ne e, upd_ne e]
    exact h f (by omega)
theorem RG.next {s : S_Mo} {li ne en be lf li' ne' en' be' lf' : Nat → Int32} {k : Nat} {v : Int32} (h : RG s li ne en be lf li' ne' en' be' lf') : RG s li (upd ne k v) en be lf li' (upd ne' k v) en' be' lf' := fun f hf => by
  obtain ⟨h1, h2, h3, h4, h5⟩ := h f hf
  refine ⟨h1, ?_, h3, h4, h5⟩
  by_cases e : f = k
  · rw [e, upd_at, upd_at]
  · rw [upd_ne e, upd_ne e]
    exact h2
theorem q_comes {s : S_Mo} {q : Int32 × S_Mo} (h : Mod_comes s = some q) (m : QM s) : QM q.2 := by
  unfold Mod_comes at h
  unfold o_lt at h
  dsimp only at h
  split at h
  · unfold Mod_comes_j30 at h
    split at h
    · cases h
      exact m
    · cases h
      exact m
  · obtain ⟨p, e, h⟩ := oi_bd h
    have hp := q_wrongAt (by decide) e (show QM (Mo_set_looked s (Mo_looked s + 1)) from m)
    unfold Mod_comes_j30 at h
    split at h
    · cases h
      exact hp
    · cases h
      exact hp
theorem comes_inv {s : S_Mo} {q : Int32 × S_Mo} (h : Mod_comes s = some q) (hz : Mo_fault q.2 = 0) : q = (1, Mo_set_looked s (Mo_looked s + 1)) := by
  unfold Mod_comes at h
  unfold o_lt at h
  dsimp only at h
  by_cases c : Mo_looked (Mo_set_looked s (Mo_looked s + 1)) ≤ 2000
  · rw [if_pos c] at h
    unfold Mod_comes_j30 at h
    have c2 : ¬ (2000 : Int32) < Mo_looked (Mo_set_looked s (Mo_looked s + 1)) := by
      rw [i_lt]
      rw [i_le] at c
      omega
    rw [if_neg c2] at h
    exact (Option.some.inj h).symm
  · rw [if_neg c] at h
    obtain ⟨p, e, h⟩ := oi_bd h
    have hp := wrongAt_f (by decide) e
    unfold Mod_comes_j30 at h
    split at h
    · cases h
      exact absurd hz hp
    · cases h
      exact absurd hz hp
def RW (va : Nat → Int64) (r r' : A19) : Prop := RX va r.1 r'.1 r.2.2.2.2.2.2.2.2.2.2.1 r.2.2.2.2.2.2.2.2.2.2.2.2.1 r.2.2.2.2.2.2.2.2.2.2.2.2.2.2.2.2.1 r'.2.2.2.2.2.2.2.2.2.2.1 r'.2.2.2.2.2.2.2.2.2.2.2.2.1 r'.2.2.2.2.2.2.2.2.2.2.2.2.2.2.2.2.1 ∧ EA r.1 r.2.2.2.2.2.2.2.2.2.2.2.2.2.2.2.2.2.1 r'.2.2.2.2.2.2.2.2.2.2.2.2.2.2.2.2.2.1 ∧ PA r.1 r.2.2.2.2.2.2.2.2.2.2.2.2.2.2.2.2.2.2 r'.2.2.2.2.2.2.2.2.2.2.2.2.2.2.2.2.2.2 ∧ (∀ k, k < 4 → r.2.2.2.2.2.2.2.2.2.1 k = r'.2.2.2.2.2.2.2.2.2.1 k) ∧ RG r.1 r.2.2.1 r.2.2.2.1 r.2.2.2.2.1 r.2.2.2.2.2.1 r.2.2.2.2.2.2.1 r'.2.2.1 r'.2.2.2.1 r'.2.2.2.2.1 r'.2.2.2.2.2.1 r'.2.2.2.2.2.2.1
theorem f_j162 {fu : Nat} {th sc rf wi ls le : Nat → Int32} {va : Nat → Int64} {bi : Nat → Int32} {x2 x3 x4 : Int32} {s : S_Mo} {rd : Nat → Int64} {li ne en be lf tu fo op ki co wd sca lk rp : Nat → Int32} {ba : Nat → Int64} {ea pa : Nat → Int32} {r : A19} (hf : 12000 ≤ fu) (h : Mod_walkOne_j162 fu th sc rf wi ls le va bi x2 x3 x4 s rd li ne en be lf tu fo op ki co wd sca lk rp ba ea pa = some r) : Mo_fault r.1 = Mo_fault s := by
  unfold Mod_walkOne_j162 at h
  have h := oe_gd (oe_gd h)
  unfold o_lt at h
  dsimp only at h
  split at h
  · have h := oe_gd h
    obtain ⟨q, e, h⟩ := oi_bd h
    obtain ⟨o, _, _, hq⟩ := enter_inv hf e
    cases h
    rw [hq]
  · cases h
    rfl
theorem d_j162 {fu : Nat} {th sc rf wi ls le : Nat → Int32} {va : Nat → Int64} {bi bi' : Nat → Int32} {x2 x3 x4 : Int32} {s : S_Mo} {rd : Nat → Int64} {li ne en be lf tu fo op ki co wd sca lk rp : Nat → Int32} {ba : Nat → Int64} {ea pa : Nat → Int32} {s' : S_Mo} {rd' : Nat → Int64} {li' ne' en' be' lf' tu' fo' op' ki' co' wd' sca' lk' rp' : Nat → Int32} {ba' : Nat → Int64} {ea' pa' : Nat → Int32} {r r' : A19} (hf : 12000 ≤ fu) (h : Mod_walkOne_j162 fu th sc rf wi ls le va bi x2 x3 x4 s rd li ne en be lf tu fo op ki co wd sca lk rp ba ea pa = some r) (h' : Mod_walkOne_j162 fu th sc rf wi ls le va bi' x2 x3 x4 s' rd' li' ne' en' be' lf' tu' fo' op' ki' co' wd' sca' lk' rp' ba' ea' pa' = some r') (R : RX va s s' ki wd ba ki' wd' ba') (E : EA s ea ea') (P : PA s pa pa') (ho : ∀ k, k < 4 → op k = op' k) (G : RG s li ne en be lf li' ne' en' be' lf') (hx0 : 0 ≤ x2.toInt) (hx : x2.toInt < (Mo_open s).toInt) : RW va r r' := by
  unfold Mod_walkOne_j162 at h h'
  have h := oe_gd (oe_gd h)
  have h' := oe_gd (oe_gd h')
  unfold o_lt at h h'
  dsimp only at h h'
  rw [if_pos R.1.1] at h
  rw [if_pos R.1.2.1] at h'
  have h := oe_gd h
  have h' := oe_gd h'
  have hn := i_nat hx0
  obtain ⟨g1, g2, g3, g4, g5⟩ := G x2.toNatClampNeg (by omega)
  rw [← g1, ← g2] at h'
  obtain ⟨q, e, h⟩ := oi_bd h
  obtain ⟨q', e', h'⟩ := oi_bd h'
  obtain ⟨o, ho1, ho2, hq⟩ := enter_inv hf e
  obtain ⟨o', ho1', ho2', hq'⟩ := enter_inv hf e'
  have hoo : Mo_open s = Mo_open s' := R.1.2.2.2.2.1
  have heq : o' = o := by
    rw [← hoo] at ho1'
    omega
  subst heq
  cases h
  cases h'
  rw [hq, hq']
  obtain ⟨⟨s1, s2, s3, s4, s5, s6, s7, s8, s9, s10, s11, s12, s13⟩, D, V⟩ := R
  refine ⟨⟨⟨s1, s2, s3, s4, ?_, s6, s7, s8, s9, s10, s11, s12, s13⟩, D, V⟩, E, P, ho, (G.next).push ho1 ho2⟩
  show Mo_open s + 1 = Mo_open s' + 1
  rw [s5]
theorem d_walkOne {fu : Nat} {th sc rf wi ls le : Nat → Int32} {va : Nat → Int64} {bi bi' : Nat → Int32} {d : Int32} {s : S_Mo} {rd : Nat → Int64} {li ne en be lf tu fo op ki co wd sca lk rp : Nat → Int32} {ba : Nat → Int64} {ea pa : Nat → Int32} {s' : S_Mo} {rd' : Nat → Int64} {li' ne' en' be' lf' tu' fo' op' ki' co' wd' sca' lk' rp' : Nat → Int32} {ba' : Nat → Int64} {ea' pa' : Nat → Int32} {r r' : A19} (hf : 12000 ≤ fu) (I : I_Mo s) (I' : I_Mo s') (Ap : A_MpointAt pa) (Ils : A_Mlists ls) (hpp : (Mo_pointer s).toInt ≤ (Mo_pointed s).toInt) (hd : (0 ≤ d.toInt ∧ d.toInt ≤ 63) ∨ (100 ≤ d.toInt ∧ d.toInt ≤ 115) ∨ (216 ≤ d.toInt ∧ d.toInt ≤ 343) ∨ (400 ≤ d.toInt ∧ d.toInt ≤ 487) ∨ (501 ≤ d.toInt ∧ d.toInt ≤ 516) ∨ d.toInt = 520) (hop : 0 < (Mo_open s).toInt) (hc63 : (d.toInt - 200) % 16 = 0 → 216 ≤ d.toInt → d.toInt ≤ 343 → (ls (24 * li (Mo_open s - 1).toNatClampNeg + ne (Mo_open s - 1).toNatClampNeg).toNatClampNeg).toInt ≤ 63) (h : Mod_walkOne fu th sc rf wi ls le va bi d s rd li ne en be lf tu fo op ki co wd sca lk rp ba ea pa = some r) (h' : Mod_walkOne fu th sc rf wi ls le va bi' d s' rd' li' ne' en' be' lf' tu' fo' op' ki' co' wd' sca' lk' rp' ba' ea' pa' = some r') (hr : Mo_fault r.1 = 0) (hr' : Mo_fault r'.1 = 0) (R : RX va s s' ki wd ba ki' wd' ba') (E : EA s ea ea') (P : PA s pa pa') (ho : ∀ k, k < 4 → op k = op' k) (G : RG s li ne en be lf li' ne' en' be' lf') : RW va r r' := by
  unfold Mod_walkOne at h h'
  have k63 : (63 : Int32).toInt = 63 := by decide
  have k115 : (115 : Int32).toInt = 115 := by decide
  have k0 : (0 : Int32).toInt = 0 := by decide
  have k1 : (1 : Int32).toInt = 1 := by decide
  have k16 : (16 : Int32).toInt = 16 := by decide
  have k200 : (200 : Int32).toInt = 200 := by decide
  have k500 : (500 : Int32).toInt = 500 := by decide
  have k516 : (516 : Int32).toInt = 516 := by decide
  have hoo : Mo_open s = Mo_open s' := R.1.2.2.2.2.1
  have hrI := I_Mo_open I
  have eo := i_sub (a := Mo_open s) (b := 1) (by omega) (by omega)
  have hn := i_nat (a := Mo_open s - 1) (by omega)
  by_cases c1 : (63 : Int32) < d
  · rw [if_pos c1] at h h'
    rw [i_lt] at c1
    by_cases c2 : (115 : Int32) < d
    · rw [if_pos c2] at h h'
      rw [i_lt] at c2
      obtain ⟨q1, e1, hq1⟩ := t_Mod_isRepeat (a0 := d)
      rw [e1] at h h'
      replace h : (if q1 = 0 then _ else _) = some r := h
      replace h' : (if q1 = 0 then _ else _) = some r' := h'
      by_cases c3 : q1 = 0
      · rw [if_pos c3] at h h'
        obtain ⟨q2, e2, hq2⟩ := t_Mod_operator (a0 := d)
        rw [e2] at h h'
        replace h : (if q2 < 0 then _ else _) = some r := h
        replace h' : (if q2 < 0 then _ else _) = some r' := h'
        by_cases c4 : q2 < 0
        · rw [if_pos c4] at h h'
          by_cases c5 : (516 : Int32) < d
          · rw [if_pos c5] at h h'
            obtain ⟨q3, e3, h⟩ := oi_bd h
            obtain ⟨q3', e3', h'⟩ := oi_bd h'
            cases h
            cases h'
            obtain ⟨m1, m2, m3, m4⟩ := d_walkMark I hpp Ap e3 e3' hr hr' R E P
            refine ⟨m1, m2, m3, ho, fun f hf => G f ?_⟩
            have hf : (f : Int) < (Mo_open q3.1).toInt := hf
            rw [m4] at hf
            exact hf
          · rw [if_neg c5] at h h'
            rw [i_lt] at c5
            obtain ⟨q4, e4, h⟩ := oi_bd h
            obtain ⟨q4', e4', h'⟩ := oi_bd h'
            cases h
            cases h'
            have e5 := i_sub (a := d) (b := 500) (by omega) (by omega)
            obtain ⟨m1, m2, m3, m4⟩ := d_walkBits (by omega) I e4 e4' hr hr' R E
            refine ⟨m1, m2, m3, ho, fun f hf => G f ?_⟩
            have hf : (f : Int) < (Mo_open q4.1).toInt := hf
            rw [m4] at hf
            exact hf
        · rw [if_neg c4] at h h'
          obtain ⟨q7, e7, h⟩ := oi_bd (show o_bd (Mod_begins d) _ = some r from h)
          obtain ⟨q7', e7', h'⟩ := oi_bd (show o_bd (Mod_begins d) _ = some r' from h')
          rw [e7] at e7'
          cases e7'
          have h := oe_gd h
          have h' := oe_gd h'
          cases h
          cases h'
          refine ⟨R, E, P, fun k hk => ?_, G⟩
          show upd op q2.toNatClampNeg q7 k = upd op' q2.toNatClampNeg q7 k
          by_cases e : k = q2.toNatClampNeg
          · rw [e, upd_at, upd_at]
          · rw [upd_ne e, upd_ne e]
            exact ho k hk
      · rw [if_neg c3] at h h'
        rw [i_eq] at c3
        have hrr : 216 ≤ d.toInt ∧ d.toInt ≤ 343 := by omega
        by_cases c4 : ((d - 200) - (d - 200) / 16 * 16) = 0
        · rw [if_pos c4] at h h'
          have e1' := i_sub (a := d) (b := 200) (by omega) (by omega)
          have e2' := i_divk (d - 200) 16 16 (by decide) (by decide) (by omega)
          have e3' := i_mulr ((d - 200) / 16) 16 16 (by decide) (by omega) (by omega)
          have e4' := i_sub (a := d - 200) (b := (d - 200) / 16 * 16) (by omega) (by omega)
          have c4' := c4
          rw [i_eq] at c4'
          have hc := hc63 (by omega) hrr.1 hrr.2
          obtain ⟨q11, f1, h⟩ := oi_bd h
          obtain ⟨q11', f1', h'⟩ := oi_bd h'
          have m11 := q_comes f1 R.1.q.1
          have m11' := q_comes f1' R.1.q.2
          -- the fault behind
          have hz11 : Mo_fault q11.2 = 0 := by
            by_cases c5 : q11.1 = 0
            · rw [if_pos c5] at h
              rw [← f_j162 hf h]
              exact hr
            · rw [if_neg c5] at h
              have h := oe_gd (oe_gd (oe_gd h))
              obtain ⟨q16, _, h⟩ := oi_bd (show o_bd (Mod_force fu q11.2 th _) _ = some r from h)
              have h := oe_gd (oe_gd (oe_gd h))
              obtain ⟨q20, f20, h⟩ := oi_bd h
              have h := oe_gd (oe_gd h)
              unfold o_lt at h
              dsimp only at h
              have hz := f_j162 hf h
              rw [hr] at hz
              exact (x_come f20 m11.1 hz.symm m11.2).1
          have hz11' : Mo_fault q11'.2 = 0 := by
            by_cases c5 : q11'.1 = 0
            · rw [if_pos c5] at h'
              rw [← f_j162 hf h']
              exact hr'
            · rw [if_neg c5] at h'
              have h' := oe_gd (oe_gd (oe_gd h'))
              obtain ⟨q16, _, h'⟩ := oi_bd (show o_bd (Mod_force fu q11'.2 th _) _ = some r' from h')
              have h' := oe_gd (oe_gd (oe_gd h'))
              obtain ⟨q20, f20, h'⟩ := oi_bd h'
              have h' := oe_gd (oe_gd h')
              unfold o_lt at h'
              dsimp only at h'
              have hz := f_j162 hf h'
              rw [hr'] at hz
              exact (x_come f20 m11'.1 hz.symm m11'.2).1
          have g11 := comes_inv f1 hz11
          have g11' := comes_inv f1' hz11'
          have c5 : ¬ q11.1 = 0 := by rw [g11]; show ¬ (1 : Int32) = 0; decide
          have c5' : ¬ q11'.1 = 0 := by rw [g11']; show ¬ (1 : Int32) = 0; decide
          rw [if_neg c5] at h
          rw [if_neg c5'] at h'
          rw [← hoo] at h'
          have h := oe_gd (oe_gd (oe_gd h))
          have h' := oe_gd (oe_gd (oe_gd h'))
          obtain ⟨a1, a2, a3, a4, a5⟩ := G (Mo_open s - 1).toNatClampNeg (by omega)
          unfold o_lt at h h'
          dsimp only at h h'
          rw [← a1, ← a2] at h'
          have hdl := A_Mlists_at Ils (24 * li (Mo_open s - 1).toNatClampNeg + ne (Mo_open s - 1).toNatClampNeg).toNatClampNeg
          generalize ls (24 * li (Mo_open s - 1).toNatClampNeg + ne (Mo_open s - 1).toNatClampNeg).toNatClampNeg = cc at h h' hc hdl
          obtain ⟨⟨s1, s2, s3, s4, s5, s6, s7, s8, s9, s10, s11, s12, s13⟩, D, V⟩ := R
          have I2 : I_Mo q11.2 := by rw [g11]; exact I_Mo_set_looked I
          have I2' : I_Mo q11'.2 := by rw [g11']; exact I_Mo_set_looked I'
          obtain ⟨q16, f16, hq16⟩ := t_Mod_force (th := th) (c := cc) hf I2 (by omega) (by omega)
          obtain ⟨q16', f16', hq16'⟩ := t_Mod_force (th := th) (c := cc) hf I2' (by omega) (by omega)
          rw [f16] at h
          rw [f16'] at h'
          have hu : Mo_used q11.2 = Mo_used q11'.2 := by rw [g11, g11']; exact s11
          have hqq : q16 = q16' := i_eq.mpr (by rw [hq16.1, hq16'.1, hu])
          subst hqq
          have h := oe_gd (oe_gd (oe_gd (show o_gd _ _ = some r from h)))
          have h' := oe_gd (oe_gd (oe_gd (show o_gd _ _ = some r' from h')))
          obtain ⟨q20, f20, h⟩ := oi_bd h
          obtain ⟨q20', f20', h'⟩ := oi_bd h'
          have h := oe_gd (oe_gd h)
          have h' := oe_gd (oe_gd h')
          have hz20 := f_j162 hf h
          have hz20' := f_j162 hf h'
          rw [hr] at hz20
          rw [hr'] at hz20'
          have R11 : RX va q11.2 q11'.2 ki wd ba ki' wd' ba' := by
            rw [g11, g11']
            exact ⟨⟨s1, s2, s3, s4, s5, s6, s7, s8, s9, s10, s11, s12, s13⟩, D, V⟩
          obtain ⟨d1, d2, d3, d4, d5, d6⟩ := d_come f20 f20' hz20.symm hz20'.symm R11
          rw [← d3] at h'
          have E20 : EA q20.2.1 ea ea' := E.come (by rw [d1, g11]) (by rw [d1, g11]; rw [g11] at d5; show (Mo_fields s).toInt ≤ (Mo_fields s + 1).toInt; have d5 : (Mo_fields s + 1).toInt = (Mo_fields s).toInt + 1 := d5; omega)
          have P20 : PA q20.2.1 pa pa' := P.come (by rw [d1, g11]) (by rw [d1, g11]; rw [g11] at d5; show (Mo_fields s).toInt ≤ (Mo_fields s + 1).toInt; have d5 : (Mo_fields s + 1).toInt = (Mo_fields s).toInt + 1 := d5; omega)
          have hop20 : Mo_open q20.2.1 = Mo_open s := by rw [d1, g11]
          have G20 : RG q20.2.1 li (upd ne (Mo_open s - 1).toNatClampNeg (ne (Mo_open s - 1).toNatClampNeg + 1)) en be lf li' (upd ne' (Mo_open s - 1).toNatClampNeg (ne (Mo_open s - 1).toNatClampNeg + 1)) en' be' lf' := fun f hf => (G.next) f (by rw [hop20] at hf; exact hf)
          exact d_j162 hf h h' d4 E20 P20 ho G20 (by omega) (by rw [hop20]; omega)
        · rw [if_neg c4] at h h'
          rw [← hoo] at h'
          exact d_j162 hf h h' R E P ho G (by omega) (by omega)
    · rw [if_neg c2] at h h'
      have h := oe_gd h
      have h' := oe_gd h'
      obtain ⟨q, e, h⟩ := oi_bd h
      obtain ⟨q', e', h'⟩ := oi_bd h'
      obtain ⟨o, ho1, ho2, hq⟩ := enter_inv hf e
      obtain ⟨o', ho1', ho2', hq'⟩ := enter_inv hf e'
      have heq : o' = o := by
        rw [← hoo] at ho1'
        omega
      subst heq
      cases h
      cases h'
      rw [hq, hq']
      obtain ⟨⟨s1, s2, s3, s4, s5, s6, s7, s8, s9, s10, s11, s12, s13⟩, D, V⟩ := R
      refine ⟨⟨⟨s1, s2, s3, s4, ?_, s6, s7, s8, s9, s10, s11, s12, s13⟩, D, V⟩, E, P, ho, G.push ho1 ho2⟩
      show Mo_open s + 1 = Mo_open s' + 1
      rw [s5]
  · rw [if_neg c1] at h h'
    rw [i_lt] at c1
    obtain ⟨q, e, h⟩ := oi_bd h
    obtain ⟨q', e', h'⟩ := oi_bd h'
    cases h
    cases h'
    obtain ⟨m1, m2, m3, m4⟩ := d_walkElement hf I I' (by omega) (by omega) e e' hr hr' R ho E P
    refine ⟨m1, m2, m3, ho, fun f hf => G f ?_⟩
    have hf : (f : Int) < (Mo_open q.1).toInt := hf
    rw [m4] at hf
    exact hf

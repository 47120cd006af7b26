theorem comes_inv1 {s : S_Mo} {q : Int32 × S_Mo} (h : Mod_comes s = some q) (hz : ¬ q.1 = 0) : q = (1, Mo_set_looked s (Mo_looked s + 1)) := by
  unfold Mod_comes at h
  unfold o_lt at h
  dsimp only at h
  have k : (2000 : Int32).toInt = 2000 := by decide
  by_cases c : Mo_looked (Mo_set_looked s (Mo_looked s + 1)) ≤ 2000
  · rw [if_pos c] at h
    unfold Mod_comes_j30 at h
    rw [i_le] at c
    rw [if_neg (by rw [i_lt]; omega)] at h
    exact (Option.some.inj h).symm
  · rw [if_neg c] at h
    obtain ⟨p, ep, h⟩ := oi_bd h
    have hl : Mo_looked p = Mo_looked (Mo_set_looked s (Mo_looked s + 1)) := by
      unfold Mod_wrongAt at ep
      split at ep
      · rw [wrong_eq] at ep
        cases ep
        exact wr_looked _ _ _
      · rw [wrong_eq] at ep
        cases ep
        exact wr_looked _ _ _
    unfold Mod_comes_j30 at h
    rw [i_le] at c
    rw [if_pos (by rw [i_lt, hl]; omega)] at h
    cases h
    exact absurd rfl hz
def WSt (fu : Nat) (th sc wi ls le : Nat → Int32) (z s : S_Mo) (li ne en be lf fo op wd ea pa : Nat → Int32) : Prop := WI s ∧ WK s z ∧ A_MfoundOps fo ∧ A_Mops op ∧ A_Mwidth wd ∧ A_MelementAt ea ∧ A_MpointAt pa ∧ (Mo_fault s = 0 → ∃ o : Nat, (Mo_open s).toInt = (o : Int) ∧ FW fu th sc wi ls le (Mo_used z) o li ne en be lf fo op ∧ 0 ≤ (Mo_looked s).toInt ∧ (Mo_looked s).toInt ≤ 2000)
theorem WSt.pop {fu : Nat} {th sc wi ls le : Nat → Int32} {z s : S_Mo} {o : Nat} {li ne en be lf fo op wd ea pa : Nat → Int32} (hf : 12000 ≤ fu) (Ile : A_Mlengths le) (h : WSt fu th sc wi ls le z s li ne en be lf fo op wd ea pa) (hz : Mo_fault s = 0) (ho : (Mo_open s).toInt = (o : Int) + 1) (he : (en o).toInt ≤ (ne o).toInt) : WSt fu th sc wi ls le z (Mo_set_open s (Mo_open s - 1)) li ne en be lf fo op wd ea pa := by
  obtain ⟨⟨w1, w2, w3, w4, w5, w6, w7⟩, K, a1, a2, a3, a4, a5, hst⟩ := h
  obtain ⟨o1, ho1, ⟨hC, hE, hL⟩, hl0, hl1⟩ := hst hz
  obtain rfl : o1 = o + 1 := by omega
  obtain ⟨t1, t2, t3, t4, t5, t6, t7⟩ := cs_top Ile hC
  have k1 : (1 : Int32).toInt = 1 := by decide
  have hr := I_Mo_open w1
  have eo := i_sub (a := Mo_open s) (b := 1) (by omega) (by omega)
  obtain ⟨hP, _⟩ := cs_pop hf Ile hC (by omega)
  exact ⟨⟨I_Mo_set_open w1 (by omega), w2, w3, w4, w5, w6, w7⟩, K, a1, a2, a3, a4, a5, fun _ => ⟨o, by show (Mo_open s - 1).toInt = _; omega, ⟨hP, hE.pop, fun f hf => hL f (by omega)⟩, hl0, hl1⟩⟩
theorem WSt.turn {fu : Nat} {th sc wi ls le : Nat → Int32} {z s : S_Mo} {o : Nat} {li ne en be lf fo op wd ea pa : Nat → Int32} (hf : 12000 ≤ fu) (Ile : A_Mlengths le) (h : WSt fu th sc wi ls le z s li ne en be lf fo op wd ea pa) (hz : Mo_fault s = 0) (ho : (Mo_open s).toInt = (o : Int) + 1) (he : (en o).toInt ≤ (ne o).toInt) (hlf : ¬ (lf o).toInt ≤ 1) : WSt fu th sc wi ls le z s li (upd ne o (be o)) en be (upd lf o (lf o - 1)) fo op wd ea pa := by
  obtain ⟨w, K, a1, a2, a3, a4, a5, hst⟩ := h
  obtain ⟨o1, ho1, ⟨hC, hE, hL⟩, hl0, hl1⟩ := hst hz
  obtain rfl : o1 = o + 1 := by omega
  obtain ⟨t1, t2, t3, t4, t5, t6, t7⟩ := cs_top Ile hC
  obtain ⟨_, hops⟩ := cs_pop hf Ile hC (by omega)
  have hlt : (be o).toInt < (en o).toInt := by
    rcases hL o (by omega) with h | h
    · omega
    · exact h
  have hC2 : CS fu th sc wi ls le (Mo_used z) (o + 1) li (upd ne o (be o)) en be fo op := (hE o (by omega)).congr (fun _ _ => ⟨rfl, rfl, rfl, rfl⟩) (fun _ _ => rfl) (fun k hk => hops k hk)
  have hL2 : WL (o + 1) (upd lf o (lf o - 1)) en be := fun f hf => by
    by_cases e : f = o
    · rw [e]
      exact Or.inr hlt
    · rw [upd_ne e]
      exact hL f hf
  exact ⟨w, K, a1, a2, a3, a4, a5, fun _ => ⟨o + 1, ho1, ⟨hC2, hE.next, hL2⟩, hl0, hl1⟩⟩
theorem WSt.one {fu : Nat} {th sc rf wi ls le : Nat → Int32} {va : Nat → Int64} {bi : Nat → Int32} {z s : S_Mo} {o : Nat} {rd : Nat → Int64} {li ne en be lf tu fo op ki co wd sca lk rp : Nat → Int32} {ba : Nat → Int64} {ea pa : Nat → Int32} {q : Int32 × S_Mo} {r : A19} (hf : 12000 ≤ fu) (Iw : A_Mwidths wi) (Is : A_Mscales sc) (Ils : A_Mlists ls) (Ile : A_Mlengths le) (h : WSt fu th sc wi ls le z s li ne en be lf fo op wd ea pa) (hz : Mo_fault s = 0) (ho : (Mo_open s).toInt = (o : Int) + 1) (he : ¬ (en o).toInt ≤ (ne o).toInt) (hc : Mod_comes s = some q) (hq : q = (1, Mo_set_looked s (Mo_looked s + 1))) (hw : Mod_walkOne fu th sc rf wi ls le va bi (ls (24 * li o + (ne o + 1) - 1).toNatClampNeg) q.2 rd li (upd ne o (ne o + 1)) en be lf tu fo op ki co wd sca lk rp ba ea pa = some r) : WSt fu th sc wi ls le z r.1 r.2.2.1 r.2.2.2.1 r.2.2.2.2.1 r.2.2.2.2.2.1 r.2.2.2.2.2.2.1 r.2.2.2.2.2.2.2.2.1 r.2.2.2.2.2.2.2.2.2.1 r.2.2.2.2.2.2.2.2.2.2.2.2.1 r.2.2.2.2.2.2.2.2.2.2.2.2.2.2.2.2.2.1 r.2.2.2.2.2.2.2.2.2.2.2.2.2.2.2.2.2.2 ∧ WI q.2 ∧ ((0 ≤ (ls (24 * li o + (ne o + 1) - 1).toNatClampNeg).toInt ∧ (ls (24 * li o + (ne o + 1) - 1).toNatClampNeg).toInt ≤ 63) ∨ (100 ≤ (ls (24 * li o + (ne o + 1) - 1).toNatClampNeg).toInt ∧ (ls (24 * li o + (ne o + 1) - 1).toNatClampNeg).toInt ≤ 115) ∨ (216 ≤ (ls (24 * li o + (ne o + 1) - 1).toNatClampNeg).toInt ∧ (ls (24 * li o + (ne o + 1) - 1).toNatClampNeg).toInt ≤ 343) ∨ (400 ≤ (ls (24 * li o + (ne o + 1) - 1).toNatClampNeg).toInt ∧ (ls (24 * li o + (ne o + 1) - 1).toNatClampNeg).toInt ≤ 487) ∨ (501 ≤ (ls (24 * li o + (ne o + 1) - 1).toNatClampNeg).toInt ∧ (ls (24 * li o + (ne o + 1) - 1).toNatClampNeg).toInt ≤ 516) ∨ (ls (24 * li o + (ne o + 1) - 1).toNatClampNeg).toInt = 520) ∧ (((ls (24 * li o + (ne o + 1) - 1).toNatClampNeg).toInt - 200) % 16 = 0 → 216 ≤ (ls (24 * li o + (ne o + 1) - 1).toNatClampNeg).toInt → (ls (24 * li o + (ne o + 1) - 1).toNatClampNeg).toInt ≤ 343 → (ls (24 * li o + (ne o + 1)).toNatClampNeg).toInt ≤ 63) := by
  obtain ⟨W, K, Ifo, Iop, Aw, Ae, Ap, hst⟩ := h
  obtain ⟨o1, ho1, ⟨hC, hE, hL⟩, hl0, hl1⟩ := hst hz
  obtain rfl : o1 = o + 1 := by omega
  obtain ⟨t1, t2, t3, t4, t5, t6, t7⟩ := cs_top Ile hC
  have k1 : (1 : Int32).toInt = 1 := by decide
  have e1 := i_add (a := ne o) (b := 1) (by omega) (by omega)
  have ha : upd ne o (ne o + 1) o = ne o + 1 := upd_at _ _ _
  have hS := cs_step hf Iw Is Ils Ile hC (by omega)
  have hd := A_Mlists_at Ils (24 * li o + (ne o + 1) - 1).toNatClampNeg
  obtain ⟨w1, w2, w3, w4, w5, w6, w7⟩ := W
  obtain ⟨q', eq', hq'⟩ := t_Mod_comes w1 w5 hl0 (by omega)
  rw [hc] at eq'
  cases eq'
  obtain ⟨p1, p2, p3, p4, p5, p6, p7, p8, p9, p10, p11, p12, p13, p14, p15⟩ := hq'
  have W1 : WI q.2 := ⟨p1, by omega, by omega, by omega, p2, by omega, by omega⟩
  have K1 : WK q.2 z := WK.trans ⟨p13, p8, p9, p10, p11⟩ K
  have hq1 : q.1.toInt = 1 := by rw [hq]; show (1 : Int32).toInt = 1; decide
  refine ⟨?_, W1, hd, ?_⟩
  · obtain ⟨r', er', hr'⟩ := t_walkOne (o := o) (va := va) (bi := bi) (rf := rf) (rd := rd) (tu := tu) (ki := ki) (co := co) (sca := sca) (lk := lk) (rp := rp) (ba := ba) hf z Iw Ils Ile W1 K1 Ifo Iop Aw Ae Ap (by omega) (by omega) (by omega) (by omega) (by rw [ha]; omega) (by rw [ha]; omega) t5 t6 t7 hL hE.next hd hS
    rw [hw] at er'
    cases er'
    obtain ⟨⟨r1, r2, r3, r4, r5, r6, r7⟩, g1, g2⟩ := hr'
    refine ⟨r1, r2, r3, r4, r5, r6, r7, fun e => ?_⟩
    obtain ⟨g3, o', g4, g5, g6⟩ := g2 e
    exact ⟨o' + 1, by omega, g6, by omega, g3⟩
  · intro hm h1 h2
    rcases hS with h | h | h | h | h
    · omega
    · omega
    · obtain ⟨_, _, fr, to, x1, x2, x3, _⟩ := h
      rw [ha] at x3
      rcases x3 with x3 | x3
      · exact absurd hm x3.1
      · exact x3.2.2.1
    · omega
    · omega
theorem f_walk_L {fu : Nat} {th sc rf wi ls le : Nat → Int32} {va : Nat → Int64} {bi : Nat → Int32} : ∀ (n : Nat) (s : S_Mo) (rd : Nat → Int64) (li ne en be lf tu fo op ki co wd sca lk rp : Nat → Int32) (ba : Nat → Int64) (ea pa : Nat → Int32) (r : A19), Mod_walk_L34 fu th sc rf wi ls le va bi n s rd li ne en be lf tu fo op ki co wd sca lk rp ba ea pa = some r → Mo_fault r.1 = 0 → Mo_fault s = 0
  | 0, s, rd, li, ne, en, be, lf, tu, fo, op, ki, co, wd, sca, lk, rp, ba, ea, pa, r, h, _ => by
    rw [Mod_walk_L34] at h
    cases h
  | n + 1, s, rd, li, ne, en, be, lf, tu, fo, op, ki, co, wd, sca, lk, rp, ba, ea, pa, r, h, hr => by
    rw [Mod_walk_L34] at h
    by_cases c1 : Mo_open s ≤ 0
    · rw [if_pos c1] at h
      cases h
      exact hr
    · rw [if_neg c1] at h
      by_cases c2 : Mo_fault s = 0
      · exact c2
      · rw [if_neg c2] at h
        cases h
        exact hr
theorem d_walk_L {fu : Nat} {th sc rf wi ls le : Nat → Int32} {va : Nat → Int64} {bi bi' : Nat → Int32} (hf : 12000 ≤ fu) (Iw : A_Mwidths wi) (Is : A_Mscales sc) (Ils : A_Mlists ls) (Ile : A_Mlengths le) (z z' : S_Mo) : ∀ (n : Nat) (s s' : S_Mo) (rd rd' : Nat → Int64) (li ne en be lf tu fo op ki co wd sca lk rp : Nat → Int32) (ba : Nat → Int64) (ea pa : Nat → Int32) (li' ne' en' be' lf' tu' fo' op' ki' co' wd' sca' lk' rp' : Nat → Int32) (ba' : Nat → Int64) (ea' pa' : Nat → Int32) (r r' : A19), WSt fu th sc wi ls le z s li ne en be lf fo op wd ea pa → WSt fu th sc wi ls le z' s' li' ne' en' be' lf' fo' op' wd' ea' pa' → Mod_walk_L34 fu th sc rf wi ls le va bi n s rd li ne en be lf tu fo op ki co wd sca lk rp ba ea pa = some r → Mod_walk_L34 fu th sc rf wi ls le va bi' n s' rd' li' ne' en' be' lf' tu' fo' op' ki' co' wd' sca' lk' rp' ba' ea' pa' = some r' → Mo_fault r.1 = 0 → Mo_fault r'.1 = 0 → RX va s s' ki wd ba ki' wd' ba' → EA s ea ea' → PA s pa pa' → (∀ k, k < 4 → op k = op' k) → RG s li ne en be lf li' ne' en' be' lf' → RX va r.1 r'.1 r.2.2.2.2.2.2.2.2.2.2.1 r.2.2.2.2.2.2.2.2.2.2.2.2.1 r.2.2.2.2.2.2.2.2.2.2.2.2.2.2.2.2.1 r'.2.2.2.2.2.2.2.2.2.2.1 r'.2.2.2.2.2.2.2.2.2.2.2.2.1 r'.2.2.2.2.2.2.2.2.2.2.2.2.2.2.2.2.1
  | 0, s, s', rd, rd', li, ne, en, be, lf, tu, fo, op, ki, co, wd, sca, lk, rp, ba, ea, pa, li', ne', en', be', lf', tu', fo', op', ki', co', wd', sca', lk', rp', ba', ea', pa', r, r', _, _, h, _, _, _, _, _, _, _, _ => by
    rw [Mod_walk_L34] at h
    cases h
  | n + 1, s, s', rd, rd', li, ne, en, be, lf, tu, fo, op, ki, co, wd, sca, lk, rp, ba, ea, pa, li', ne', en', be', lf', tu', fo', op', ki', co', wd', sca', lk', rp', ba', ea', pa', r, r', S1, S2, h, h', hr, hr', R, E, P, hop, G => by
    rw [Mod_walk_L34] at h h'
    have hoo : Mo_open s = Mo_open s' := R.1.2.2.2.2.1
    have k0 : (0 : Int32).toInt = 0 := by decide
    have k1 : (1 : Int32).toInt = 1 := by decide
    by_cases c1 : Mo_open s ≤ 0
    · rw [if_pos c1] at h
      rw [if_pos (by rw [← hoo]; exact c1)] at h'
      cases h
      cases h'
      exact R
    · rw [if_neg c1, if_pos R.1.1] at h
      rw [if_neg (by rw [← hoo]; exact c1), if_pos R.1.2.1, ← hoo] at h'
      rw [i_le] at c1
      have I := S1.1.1
      have hrI := I_Mo_open I
      have eo := i_sub (a := Mo_open s) (b := 1) (by omega) (by omega)
      obtain ⟨o, ho⟩ : ∃ o : Nat, (Mo_open s).toInt = (o : Int) + 1 := ⟨((Mo_open s).toInt - 1).toNat, by omega⟩
      have ho' : (Mo_open s').toInt = (o : Int) + 1 := by rw [← hoo]; exact ho
      have i2 : (Mo_open s - 1).toNatClampNeg = o := by
        have := i_nat (a := Mo_open s - 1) (by omega)
        omega
      rw [i2] at h h'
      obtain ⟨g1, g2, g3, g4, g5⟩ := G o (by omega)
      have h := oe_gd (oe_gd h)
      have h' := oe_gd (oe_gd h')
      by_cases c3 : en o ≤ ne o
      · rw [if_pos c3] at h
        rw [if_pos (by rw [← g2, ← g3]; exact c3)] at h'
        have h := oe_gd h
        have h' := oe_gd h'
        have c3' := c3
        rw [i_le] at c3'
        by_cases c4 : lf o ≤ 1
        · rw [if_pos c4] at h
          rw [if_pos (by rw [← g5]; exact c4)] at h'
          unfold o_lt Mod_walk_j172 at h h'
          dsimp only at h h'
          have S1' := S1.pop hf Ile R.1.1 ho c3'
          have S2' := S2.pop hf Ile R.1.2.1 ho' (by rw [← g2, ← g3]; exact c3')
          rw [hoo] at h h'
          rw [← hoo] at h
          obtain ⟨⟨s1, s2, s3, s4, s5, s6, s7, s8, s9, s10, s11, s12, s13⟩, D, V⟩ := R
          refine d_walk_L hf Iw Is Ils Ile z z' n (Mo_set_open s (Mo_open s - 1)) (Mo_set_open s' (Mo_open s' - 1)) _ _ _ _ _ _ _ _ _ _ _ _ _ _ _ _ _ _ _ _ _ _ _ _ _ _ _ _ _ _ _ _ _ _ _ _ r r' S1' S2' h h' hr hr' ⟨⟨s1, s2, s3, s4, ?_, s6, s7, s8, s9, s10, s11, s12, s13⟩, D, V⟩ E P hop (fun f hf => G f ?_)
          · show Mo_open s - 1 = Mo_open s' - 1
            rw [s5]
          · have hf : (f : Int) < (Mo_open s - 1).toInt := hf
            omega
        · rw [if_neg c4] at h
          rw [if_neg (by rw [← g5]; exact c4)] at h'
          have h := oe_gd (oe_gd h)
          have h' := oe_gd (oe_gd h')
          unfold o_lt at h h'
          dsimp only at h h'
          have h := oe_gd (oe_gd h)
          have h' := oe_gd (oe_gd h')
          have h := oe_gd (oe_gd h)
          have h' := oe_gd (oe_gd h')
          unfold Mod_walk_j172 at h h'
          dsimp only at h h'
          have c4' := c4
          rw [i_le] at c4'
          have S1' := S1.turn hf Ile R.1.1 ho c3' (by omega)
          have S2' := S2.turn hf Ile R.1.2.1 ho' (by rw [← g2, ← g3]; exact c3') (by rw [← g5]; omega)
          refine d_walk_L hf Iw Is Ils Ile z z' n s s' _ _ _ _ _ _ _ _ _ _ _ _ _ _ _ _ _ _ _ _ _ _ _ _ _ _ _ _ _ _ _ _ _ _ _ _ r r' S1' S2' h h' hr hr' R E P hop (fun f hf => ?_)
          obtain ⟨v1, v2, v3, v4, v5⟩ := G f hf
          refine ⟨v1, ?_, v3, v4, ?_⟩
          · by_cases e : f = o
            · rw [e, upd_at, upd_at]
              exact g4
            · rw [upd_ne e, upd_ne e]
              exact v2
          · by_cases e : f = o
            · rw [e, upd_at, upd_at, g5]
            · rw [upd_ne e, upd_ne e]
              exact v5
      · rw [if_neg c3] at h
        rw [if_neg (by rw [← g2, ← g3]; exact c3)] at h'
        have c3' := c3
        rw [i_le] at c3'
        have h := oe_gd (oe_gd h)
        have h' := oe_gd (oe_gd h')
        unfold o_lt at h h'
        dsimp only at h h'
        obtain ⟨q, e1, h⟩ := oi_bd h
        obtain ⟨q', e1', h'⟩ := oi_bd h'
        unfold Mod_walk_j172 at h h'
        dsimp only at h h'
        have m1 := q_comes e1 R.1.q.1
        have m1' := q_comes e1' R.1.q.2
        -- no fault behind it
        have bad : q.1 = 0 → Mo_fault q.2 = 0 := fun e => by
          rw [if_pos e] at h
          exact f_walk_L n _ _ _ _ _ _ _ _ _ _ _ _ _ _ _ _ _ _ _ r h hr
        have bad' : q'.1 = 0 → Mo_fault q'.2 = 0 := fun e => by
          rw [if_pos e] at h'
          exact f_walk_L n _ _ _ _ _ _ _ _ _ _ _ _ _ _ _ _ _ _ _ r' h' hr'
        have cz : ¬ q.1 = 0 := fun e => by
          have := comes_inv e1 (bad e)
          rw [this] at e
          exact absurd (show (1 : Int32) = 0 from e) (by decide)
        have cz' : ¬ q'.1 = 0 := fun e => by
          have := comes_inv e1' (bad' e)
          rw [this] at e
          exact absurd (show (1 : Int32) = 0 from e) (by decide)
        rw [if_neg cz] at h
        rw [if_neg cz'] at h'
        have h := oe_gd (oe_gd (oe_gd h))
        have h' := oe_gd (oe_gd (oe_gd h'))
        rw [upd_at] at h h'
        obtain ⟨w, ew, h⟩ := oi_bd h
        obtain ⟨w', ew', h'⟩ := oi_bd h'
        have hzw := f_walk_L n _ _ _ _ _ _ _ _ _ _ _ _ _ _ _ _ _ _ _ r h hr
        have hzw' := f_walk_L n _ _ _ _ _ _ _ _ _ _ _ _ _ _ _ _ _ _ _ r' h' hr'
        have hq := comes_inv1 e1 cz
        have hq' := comes_inv1 e1' cz'
        obtain ⟨S1', W1, hd, hc63⟩ := S1.one hf Iw Is Ils Ile R.1.1 ho c3' e1 hq ew
        obtain ⟨S2', W2, _, _⟩ := S2.one hf Iw Is Ils Ile R.1.2.1 ho' (by rw [← g2, ← g3]; exact c3') e1' hq' ew'
        rw [← g1, ← g2] at ew'
        have Rq : RX va q.2 q'.2 ki wd ba ki' wd' ba' := by
          rw [hq, hq']
          exact R
        have Eq' : EA q.2 ea ea' := by rw [hq]; exact E
        have Pq' : PA q.2 pa pa' := by rw [hq]; exact P
        have hoq : Mo_open q.2 = Mo_open s := by rw [hq]
        have Gq : RG q.2 li (upd ne o (ne o + 1)) en be lf li' (upd ne' o (ne o + 1)) en' be' lf' := by
          have := G.next (k := o) (v := ne o + 1)
          rw [hq]
          exact this
        obtain ⟨v1, v2, v3, v4, v5⟩ := d_walkOne hf W1.1 W2.1 S1.2.2.2.2.2.2.1 Ils W1.2.2.2.2.2.2 hd (by rw [hoq]; omega) (by rw [hoq, i2, upd_at]; exact hc63) ew ew' hzw hzw' Rq Eq' Pq' hop Gq
        exact d_walk_L hf Iw Is Ils Ile z z' n _ _ _ _ _ _ _ _ _ _ _ _ _ _ _ _ _ _ _ _ _ _ _ _ _ _ _ _ _ _ _ _ _ _ _ _ _ _ r r' S1' S2' h h' hr hr' v1 v2 v3 v4 v5

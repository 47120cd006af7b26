def OneP (fu : Nat) (th sc wi ls le : Nat → Int32) (z s : S_Mo) (o : Nat) (r : A19) : Prop := WR r z ∧ (Mo_looked s).toInt ≤ (Mo_looked r.1).toInt ∧ (Mo_fault r.1 = 0 → (Mo_looked r.1).toInt ≤ 2000 ∧ W19 r (fun s' li' ne' en' be' lf' fo' op' => ∃ o' : Nat, o' ≤ o + 1 ∧ (Mo_open s').toInt = (o' : Int) + 1 ∧ FW fu th sc wi ls le (Mo_used z) (o' + 1) li' ne' en' be' lf' fo' op'))
theorem t_walkOne {fu o : Nat} {th sc rf wi ls le : Nat → Int32} {va : Nat → Int64} {bi : Nat → Int32} {d : Int32} {s : S_Mo} {rd : Nat → Int64} {li ne en be lf tu fo op ki co wd sca lk rp : Nat → Int32} {ba : Nat → Int64} {ea pa : Nat → Int32} (hf : 12000 ≤ fu) (z : S_Mo) (Iw : A_Mwidths wi) (Ils : A_Mlists ls) (Ile : A_Mlengths le) (W : WI s) (K : WK s z) (Ifo : A_MfoundOps fo) (Iop : A_Mops op) (Aw : A_Mwidth wd) (Ae : A_MelementAt ea) (Ap : A_MpointAt pa) (h90 : o + 1 < 90) (ho : (Mo_open s).toInt = (o : Int) + 1) (hl : 0 ≤ (Mo_looked s).toInt) (hl2 : (Mo_looked s).toInt ≤ 2000) (hn0 : 0 ≤ (ne o).toInt) (hn1 : (ne o).toInt ≤ (en o).toInt) (hn2 : (en o).toInt ≤ 24) (hi0 : 0 ≤ (li o).toInt) (hi1 : (li o).toInt ≤ 16) (hL : WL (o + 1) lf en be) (hE : EN fu th sc wi ls le (Mo_used z) (o + 1) li ne en be fo) (hd : (0 ≤ d.toInt ∧ d.toInt ≤ 63) ∨ (100 ≤ d.toInt ∧ d.toInt ≤ 115) ∨ (216 ≤ d.toInt ∧ d.toInt ≤ 343) ∨ (400 ≤ d.toInt ∧ d.toInt ≤ 487) ∨ (501 ≤ d.toInt ∧ d.toInt ≤ 516) ∨ d.toInt = 520) (hS : StepC fu th sc wi ls le (Mo_used z) o d li ne en be fo op) : So (Mod_walkOne fu th sc rf wi ls le va bi d s rd li ne en be lf tu fo op ki co wd sca lk rp ba ea pa) (OneP fu th sc wi ls le z s o) := by
  unfold Mod_walkOne
  have k63 : (63 : Int32).toInt = 63 := by decide
  have k115 : (115 : Int32).toInt = 115 := by decide
  have k0 : (0 : Int32).toInt = 0 := by decide
  have k1 : (1 : Int32).toInt = 1 := by decide
  have k16 : (16 : Int32).toInt = 16 := by decide
  have k24 : (24 : Int32).toInt = 24 := by decide
  have k100 : (100 : Int32).toInt = 100 := by decide
  have k200 : (200 : Int32).toInt = 200 := by decide
  have k500 : (500 : Int32).toInt = 500 := by decide
  have k516 : (516 : Int32).toInt = 516 := by decide
  have hu : Mo_used s = Mo_used z := K.1.1
  have W0 := W
  obtain ⟨w1, w2, w3, w4, w5, w6, w7⟩ := W
  refine So.ite (fun c1 => ?_) (fun c1 => ?_) <;> rw [i_lt] at c1
  · refine So.ite (fun c2 => ?_) (fun c2 => ?_) <;> rw [i_lt] at c2
    · refine So.bd t_Mod_isRepeat fun q1 h1 => ?_
      refine So.ite (fun c3 => ?_) (fun c3 => ?_) <;> rw [i_eq] at c3
      · obtain ⟨q2, eq2, hq2⟩ := t_Mod_operator (a0 := d)
        refine So.bde eq2 ?_
        refine So.ite (fun c4 => ?_) (fun c4 => ?_) <;> rw [i_lt] at c4
        · have hC : CS fu th sc wi ls le (Mo_used z) (o + 1) li ne en be fo op := by
            rcases hS with h | h | h | h | h
            · omega
            · omega
            · omega
            · omega
            · exact h.2
          refine So.ite (fun c5 => ?_) (fun c5 => ?_) <;> rw [i_lt] at c5
          · refine So.bd (t_Mod_walkMark hf Ap w1 Aw w2 w3 w4 w5 w6 w7) fun q h => ?_
            obtain ⟨p1, p2, p3, p4, p5, p6, p7, p8, p9, p10, p11, p12, p13, p14, p15, p16, p17⟩ := h
            refine So.one ⟨⟨⟨p1, p3, p4, p5, p6, p7, p8⟩, WK.trans ⟨p17, p13, p14, p15, p16⟩ K, Ifo, Iop, p2, Ae, Ap⟩, by show (Mo_looked s).toInt ≤ (Mo_looked q.1).toInt; omega, fun _ => ⟨by show (Mo_looked q.1).toInt ≤ 2000; omega, o, by omega, ?_, hC, hE, hL⟩⟩
            show (Mo_open q.1).toInt = _
            omega
          · have e1 := i_sub (a := d) (b := 500) (by omega) (by omega)
            refine So.bd (t_Mod_walkBits hf Ae w1 Aw Ap w2 w3 w4 w5 w6 (by omega) (by omega)) fun q h => ?_
            obtain ⟨p1, p2, p2', p3, p4, p5, p6, p7, p8, p9, p10, p11, p13, p14, p15, p16, p17⟩ := h
            refine So.one ⟨⟨⟨p1, p3, p4, p5, p6, p7, p8⟩, WK.trans ⟨p17, p13, p14, p15, p16⟩ K, Ifo, Iop, p2, Ae, p2'⟩, by show (Mo_looked s).toInt ≤ (Mo_looked q.1).toInt; omega, fun _ => ⟨by show (Mo_looked q.1).toInt ≤ 2000; omega, o, by omega, ?_, hC, hE, hL⟩⟩
            show (Mo_open q.1).toInt = _
            omega
        · have hr : 400 ≤ d.toInt ∧ d.toInt ≤ 487 := by omega
          refine So.bde eq2 ?_
          obtain ⟨q7, eq7, hq7⟩ := t_Mod_begins (d := d) hr.1 hr.2
          refine So.bde eq7 ?_
          refine So.gd (i_in.mpr (by omega)) (So.lt ?_)
          have hC : CS fu th sc wi ls le (Mo_used z) (o + 1) li ne en be fo (upd op q2.toNatClampNeg q7) := by
            rcases hS with h | h | h | h | h
            · omega
            · omega
            · omega
            · obtain ⟨_, _, k, b, y1, y2, hC⟩ := h
              rw [eq2] at y1
              rw [eq7] at y2
              cases y1
              cases y2
              exact hC
            · omega
          have hq2n := i_nat (a := q2) (by omega)
          have hop : A_Mops (upd op q2.toNatClampNeg q7) := A_Mops_upd Iop ⟨hq7.1, hq7.2.1, hq7.2.2.1, by omega⟩
          exact So.one ⟨⟨W0, K, Ifo, hop, Aw, Ae, Ap⟩, by show (Mo_looked s).toInt ≤ (Mo_looked s).toInt; omega, fun _ => ⟨hl2, o, by omega, ho, hC, hE, hL⟩⟩
      · have hr : 216 ≤ d.toInt ∧ d.toInt ≤ 343 := by omega
        have e1 := i_sub (a := d) (b := 200) (by omega) (by omega)
        have e2 := i_divk (d - 200) 16 16 (by decide) (by decide) (by omega)
        have e3 := i_mulr ((d - 200) / 16) 16 16 (by decide) (by omega) (by omega)
        have e4 := i_sub (a := d - 200) (b := (d - 200) / 16 * 16) (by omega) (by omega)
        have eo := i_sub (a := Mo_open s) (b := 1) (by omega) (by omega)
        have i2 : (Mo_open s - 1).toNatClampNeg = o := by
          have := i_nat (a := Mo_open s - 1) (by omega)
          omega
        obtain ⟨fr, to, x1, x2, x3, hC⟩ : ∃ fr to : Int32, to.toInt = fr.toInt + (d.toInt - 200) / 16 ∧ to.toInt ≤ (en o).toInt ∧ (((d.toInt - 200) % 16 ≠ 0 ∧ fr.toInt = (ne o).toInt) ∨ ((d.toInt - 200) % 16 = 0 ∧ fr.toInt = (ne o).toInt + 1 ∧ (ls (24 * (li o) + (ne o)).toNatClampNeg).toInt ≤ 63 ∧ 0 ≤ fv th (Mo_used z) (ls (24 * (li o) + (ne o)).toNatClampNeg))) ∧ CS fu th sc wi ls le (Mo_used z) (o + 1 + 1) (upd li (o + 1) (li o)) (upd (upd ne o to) (o + 1) fr) (upd en (o + 1) to) (upd be (o + 1) fr) (fo4 fo (o + 1) op) op := by
          rcases hS with h | h | h | h | h
          · omega
          · omega
          · exact h.2.2
          · omega
          · omega
        have fin : ∀ r : A19, ∀ s' : S_Mo, (Mo_looked s).toInt ≤ (Mo_looked s').toInt → (Mo_fault s' = 0 → (Mo_looked s').toInt ≤ 2000) → (WR r z ∧ (Mo_looked r.1).toInt = (Mo_looked s').toInt ∧ Mo_fault r.1 = Mo_fault s' ∧ (Mo_fault r.1 = 0 → W19 r (fun s' li' ne' en' be' lf' fo' op' => (Mo_open s').toInt = (o : Int) + 1 + 1 ∧ FW fu th sc wi ls le (Mo_used z) (o + 1 + 1) li' ne' en' be' lf' fo' op'))) → OneP fu th sc wi ls le z s o r := by
          intro r s' g1 g2 g3
          refine ⟨g3.1, by omega, fun e => ⟨?_, o + 1, by omega, ?_⟩⟩
          · have := g2 (g3.2.2.1 ▸ e)
            omega
          · exact g3.2.2.2 e
        refine So.ite (fun c4 => ?_) (fun c4 => ?_) <;> rw [i_eq] at c4
        · have hm : (d.toInt - 200) % 16 = 0 := by omega
          have x3' : fr.toInt = (ne o).toInt + 1 ∧ (ls (24 * (li o) + (ne o)).toNatClampNeg).toInt ≤ 63 ∧ 0 ≤ fv th (Mo_used z) (ls (24 * (li o) + (ne o)).toNatClampNeg) := by
            rcases x3 with h | h
            · exact absurd hm h.1
            · exact h.2
          refine So.bd (t_Mod_comes w1 w5 hl (by omega)) fun q11 h11 => ?_
          obtain ⟨p1, p2, p3, p4, p5, p6, p7, p8, p9, p10, p11, p12, p13, p14, p15⟩ := h11
          have W1 : WI q11.2 := ⟨p1, by omega, by omega, by omega, p2, by omega, by omega⟩
          have K1 : WK q11.2 z := WK.trans ⟨p13, p8, p9, p10, p11⟩ K
          refine So.ite (fun c5 => ?_) (fun c5 => ?_) <;> rw [i_eq] at c5
          · have hz : Mo_fault q11.2 ≠ 0 := fun e => by
              rw [e] at p15
              omega
            exact So.imp (t_walkOne_j162 (o := o) hf z W1 K1 Ifo Iop Aw Ae Ap (by omega) h90 (by omega) (by omega) (by omega) hn0 (by omega) (by omega) (by omega) hL hE (fun e => absurd e hz)) fun r hr => fin r q11.2 (by omega) (fun e => absurd e hz) hr
          · have hfa : (Mo_fault q11.2).toInt = (Mo_fault s).toInt := by omega
            have m1 := i_mull 24 (li o) 24 (by decide) (by omega) (by omega)
            have m2 := i_add (a := 24 * li o) (b := ne o) (by omega) (by omega)
            have hdl := A_Mlists_at Ils (24 * li o + ne o).toNatClampNeg
            rw [i2]
            refine So.gd (i_in.mpr (by omega)) (So.gd (i_in.mpr (by omega)) (So.gd (i_in.mpr (by omega)) ?_))
            refine So.lt ?_
            have hu1 : Mo_used q11.2 = Mo_used z := K1.1.1
            refine So.bd (t_Mod_force hf p1 (by omega) (by omega)) fun q16 h16 => ?_
            rw [hu1] at h16
            have hw := A_Mwidths_at Iw q16.toNatClampNeg
            refine So.gd (i_in.mpr (by omega)) (So.gd (i_in.mpr (by omega)) (So.gd (i_in.mpr (by omega)) ?_))
            refine So.bd (c_come hf W1 Aw (by omega) (by omega)) fun q20 h20 => ?_
            obtain ⟨r1, r2, r3, r4, r5, r6, r7, r8, r9, r10⟩ := h20
            refine So.gd (i_in.mpr (by omega)) (So.gd (i_in.mpr (by omega)) ?_)
            refine So.lt ?_
            have en1 := i_add (a := ne o) (b := 1) (by omega) (by omega)
            have ha : upd ne o (ne o + 1) o = ne o + 1 := upd_at _ _ _
            have et := i_add (a := ne o + 1) (b := (d - 200) / 16) (by omega) (by omega)
            have efr : ne o + 1 = fr := i_eq.mpr (by omega)
            have eto : ne o + 1 + (d - 200) / 16 = to := i_eq.mpr (by omega)
            refine So.imp (t_walkOne_j162 (o := o) hf z r1 (r2.trans K1) Ifo Iop r3 Ae Ap (by omega) h90 (by omega) (by omega) (Or.inr (by omega)) (by rw [ha]; omega) (by rw [ha]; omega) (by omega) (by omega) hL hE.next (fun e => ?_)) fun r hr => fin r q20.2.1 (by omega) (fun _ => by omega) hr
            · rw [ha, eto, efr]
              refine hC.congr (fun f hf => ⟨rfl, ?_, rfl, rfl⟩) (fun _ _ => rfl) (fun _ _ => rfl)
              by_cases e1 : f = o + 1
              · rw [e1, upd_at, upd_at]
              · rw [upd_ne e1, upd_ne e1]
                by_cases e2 : f = o
                · rw [e2, upd_at, upd_at]
                · rw [upd_ne e2, upd_ne e2, upd_ne e2]
        · have hm : (d.toInt - 200) % 16 ≠ 0 := by omega
          have x3' : fr.toInt = (ne o).toInt := by
            rcases x3 with h | h
            · exact h.2
            · exact absurd h.1 hm
          have et := i_add (a := ne o) (b := (d - 200) / 16) (by omega) (by omega)
          have efr : ne o = fr := i_eq.mpr (by omega)
          have eto : ne o + (d - 200) / 16 = to := i_eq.mpr (by omega)
          refine So.imp (t_walkOne_j162 (o := o) hf z W0 K Ifo Iop Aw Ae Ap (by omega) h90 (by omega) (by omega) (by omega) hn0 (by omega) (by omega) (by omega) hL hE (fun e => ?_)) fun r hr => fin r s (by omega) (fun _ => by omega) hr
          rw [eto]
          rw [← efr] at hC
          exact hC
    · have e1 := i_sub (a := d) (b := 100) (by omega) (by omega)
      have eo := i_add (a := Mo_open s) (b := 1) (by omega) (by omega)
      refine So.gd (i_in.mpr (by omega)) ?_
      refine So.bde (enter_eq (o := o + 1) hf (by omega) h90) ?_
      have hC : CS fu th sc wi ls le (Mo_used z) (o + 1 + 1) (upd li (o + 1) (d - 100)) (upd ne (o + 1) 0) (upd en (o + 1) (le (d - 100).toNatClampNeg)) (upd be (o + 1) 0) (fo4 fo (o + 1) op) op := by
        rcases hS with h | h | h | h | h
        · omega
        · exact h.2.2
        · omega
        · omega
        · omega
      refine So.one ⟨⟨⟨I_Mo_set_open w1 (by omega), w2, w3, w4, w5, w6, w7⟩, K, fo4_A Ifo Iop, Iop, Aw, Ae, Ap⟩, by show (Mo_looked s).toInt ≤ (Mo_looked s).toInt; omega, fun _ => ⟨hl2, o + 1, by omega, ?_, hC, EN.push hE hC, hL.push (Or.inl (by decide))⟩⟩
      show (Mo_open s + 1).toInt = _
      omega
  · have hC : EOK th wi (Mo_used z) d op ∧ CS fu th sc wi ls le (Mo_used z) (o + 1) li ne en be fo op := by
      rcases hS with h | h | h | h | h
      · exact h.2
      · omega
      · omega
      · omega
      · omega
    refine So.bd (t_walkElement hf Iop W0 Aw Ae (by omega) (by omega) (by rw [hu]; exact hC.1)) fun q h => ?_
    obtain ⟨p1, p2, p3, p4, p5, p6⟩ := h
    refine So.one ⟨⟨p1, p2.trans K, Ifo, Iop, p3, p4, Ap⟩, by show (Mo_looked s).toInt ≤ (Mo_looked q.1).toInt; omega, fun _ => ⟨by show (Mo_looked q.1).toInt ≤ 2000; omega, o, by omega, ?_, hC.2, hE, hL⟩⟩
    show (Mo_open q.1).toInt = _
    omega
theorem t_walk_L {fu : Nat} {th sc rf wi ls le : Nat → Int32} {va : Nat → Int64} {bi : Nat → Int32} (hf : 12000 ≤ fu) (Iw : A_Mwidths wi) (Is : A_Mscales sc) (Ils : A_Mlists ls) (Ile : A_Mlengths le) (z : S_Mo) : ∀ (n : Nat) (s : S_Mo) (rd : Nat → Int64) (li ne en be lf tu fo op ki co wd sca lk rp : Nat → Int32) (ba : Nat → Int64) (ea pa : Nat → Int32), WI s → WK s z → A_MfoundOps fo → A_Mops op → A_Mwidth wd → A_MelementAt ea → A_MpointAt pa → 0 < n → (Mo_fault s = 0 → ∃ (o : Nat) (b : Int), (Mo_open s).toInt = (o : Int) ∧ FW fu th sc wi ls le (Mo_used z) o li ne en be lf fo op ∧ 0 ≤ (Mo_looked s).toInt ∧ (Mo_looked s).toInt ≤ 2000 ∧ (b = 1 ∨ (b = 0 ∧ (ne (o - 1)).toInt < (en (o - 1)).toInt)) ∧ 4 * (2001 - (Mo_looked s).toInt) + 2 * o + b + 1 < (n : Int)) → So (Mod_walk_L34 fu th sc rf wi ls le va bi n s rd li ne en be lf tu fo op ki co wd sca lk rp ba ea pa) (fun r => WR r z)
  | 0, s, rd, li, ne, en, be, lf, tu, fo, op, ki, co, wd, sca, lk, rp, ba, ea, pa, _, _, _, _, _, _, _, h, _ => absurd h (by omega)
  | n + 1, s, rd, li, ne, en, be, lf, tu, fo, op, ki, co, wd, sca, lk, rp, ba, ea, pa, W, K, Ifo, Iop, Aw, Ae, Ap, _, hst => by
    rw [Mod_walk_L34]
    have k0 : (0 : Int32).toInt = 0 := by decide
    have k1 : (1 : Int32).toInt = 1 := by decide
    have k24 : (24 : Int32).toInt = 24 := by decide
    have out : So (some (s, rd, li, ne, en, be, lf, tu, fo, op, ki, co, wd, sca, lk, rp, ba, ea, pa)) (fun r : A19 => WR r z) := So.one ⟨W, K, Ifo, Iop, Aw, Ae, Ap⟩
    refine So.ite (fun _ => out) (fun c1 => ?_)
    rw [i_le] at c1
    refine So.ite (fun c2 => ?_) (fun _ => out)
    obtain ⟨o1, b, ho1, ⟨hC, hE, hL⟩, hl0, hl1, hb, hm⟩ := hst c2
    obtain ⟨o, rfl⟩ : ∃ o, o1 = o + 1 := ⟨o1 - 1, by omega⟩
    have ho : (Mo_open s).toInt = (o : Int) + 1 := by omega
    obtain ⟨t1, t2, t3, t4, t5, t6, t7⟩ := cs_top Ile hC
    have eo := i_sub (a := Mo_open s) (b := 1) (by omega) (by omega)
    have i2 : (Mo_open s - 1).toNatClampNeg = o := by
      have := i_nat (a := Mo_open s - 1) (by omega)
      omega
    have hb' : b = 1 ∨ (b = 0 ∧ (ne o).toInt < (en o).toInt) := hb
    rw [i2]
    refine So.gd (i_in.mpr (by omega)) (So.gd (i_in.mpr (by omega)) ?_)
    refine So.ite (fun c3 => ?_) (fun c3 => ?_) <;> rw [i_le] at c3
    · have hend : (ne o).toInt = (en o).toInt := by omega
      obtain ⟨hP, hops⟩ := cs_pop hf Ile hC hend
      refine So.gd (i_in.mpr (by omega)) ?_
      refine So.ite (fun c4 => ?_) (fun c4 => ?_) <;> rw [i_le] at c4
      · refine So.lt2 fun s2 e2 => ?_
        unfold Mod_walk_j172
        have eo2 : (Mo_open s2).toInt = (o : Int) := by rw [e2]; show (Mo_open s - 1).toInt = _; omega
        have hl2 : Mo_looked s2 = Mo_looked s := by rw [e2]
        obtain ⟨w1, w2, w3, w4, w5, w6, w7⟩ := W
        refine t_walk_L hf Iw Is Ils Ile z n s2 rd li ne en be lf tu fo op ki co wd sca lk rp ba ea pa ?_ ?_ Ifo Iop Aw Ae Ap (by omega) (fun _ => ⟨o, 1, eo2, ⟨hP, hE.pop, fun f hf => hL f (by omega)⟩, by rw [hl2]; exact hl0, by rw [hl2]; exact hl1, Or.inl rfl, by rw [hl2]; omega⟩)
        · rw [e2]
          exact ⟨I_Mo_set_open w1 (by omega), w2, w3, w4, w5, w6, w7⟩
        · rw [e2]
          exact K
      · refine So.gd (i_in.mpr (by omega)) (So.gd (i_in.mpr (by omega)) (So.lt ?_))
        refine So.gd (i_in.mpr (by omega)) (So.gd (i_in.mpr (by omega)) (So.lt ?_))
        refine So.gd (i_in.mpr (by omega)) (So.gd (i_in.mpr (by omega)) (So.lt ?_))
        unfold Mod_walk_j172
        have hlt : (be o).toInt < (en o).toInt := by
          rcases hL o (by omega) with h | h
          · omega
          · exact h
        have hC2 : CS fu th sc wi ls le (Mo_used z) (o + 1) li (upd ne o (be o)) en be fo op := (hE o (by omega)).congr (fun _ _ => ⟨rfl, rfl, rfl, rfl⟩) (fun _ _ => rfl) (fun k hk => hops k hk)
        have hL2 : WL (o + 1) (upd lf o (lf o - 1)) en be := fun f hf => by
          by_cases e : f = o
          · rw [e]
            exact Or.inr hlt
          · rw [upd_ne e]
            exact hL f hf
        refine t_walk_L hf Iw Is Ils Ile z n s rd li (upd ne o (be o)) en be (upd lf o (lf o - 1)) _ fo op ki co wd sca lk rp ba ea pa W K Ifo Iop Aw Ae Ap (by omega) (fun _ => ⟨o + 1, 0, by omega, ⟨hC2, hE.next, hL2⟩, hl0, hl1, Or.inr ⟨rfl, ?_⟩, by omega⟩)
        show (upd ne o (be o) o).toInt < (en o).toInt
        rw [upd_at]
        exact hlt
    · have e1 := i_add (a := ne o) (b := 1) (by omega) (by omega)
      refine So.gd (i_in.mpr (by omega)) (So.gd (i_in.mpr (by omega)) (So.lt ?_))
      have W0 := W
      obtain ⟨w1, w2, w3, w4, w5, w6, w7⟩ := W
      refine So.bd (t_Mod_comes w1 w5 hl0 (by omega)) fun q h => ?_
      obtain ⟨p1, p2, p3, p4, p5, p6, p7, p8, p9, p10, p11, p12, p13, p14, p15⟩ := h
      have W1 : WI q.2 := ⟨p1, by omega, by omega, by omega, p2, by omega, by omega⟩
      have K1 : WK q.2 z := WK.trans ⟨p13, p8, p9, p10, p11⟩ K
      refine So.ite (fun c4 => ?_) (fun c4 => ?_) <;> rw [i_eq] at c4
      · unfold Mod_walk_j172
        have hz : Mo_fault q.2 ≠ 0 := fun e => by
          rw [e] at p15
          omega
        exact t_walk_L hf Iw Is Ils Ile z n q.2 _ _ _ _ _ _ _ _ _ _ _ _ _ _ _ _ _ _ W1 K1 Ifo Iop Aw Ae Ap (by omega) (fun e => absurd e hz)
      · have ha : upd ne o (ne o + 1) o = ne o + 1 := upd_at _ _ _
        rw [ha]
        have m1 := i_mull 24 (li o) 24 (by decide) (by omega) (by omega)
        have m2 := i_add (a := 24 * li o) (b := ne o + 1) (by omega) (by omega)
        have m3 := i_sub (a := 24 * li o + (ne o + 1)) (b := 1) (by omega) (by omega)
        refine So.gd (i_in.mpr (by omega)) (So.gd (i_in.mpr (by omega)) (So.gd (i_in.mpr (by omega)) ?_))
        have hd := A_Mlists_at Ils (24 * li o + (ne o + 1) - 1).toNatClampNeg
        have hS := cs_step hf Iw Is Ils Ile hC (by omega)
        refine So.bd (t_walkOne (o := o) hf z Iw Ils Ile W1 K1 Ifo Iop Aw Ae Ap (by omega) (by omega) (by omega) (by omega) (by rw [ha]; omega) (by rw [ha]; omega) t5 t6 t7 hL hE.next hd hS) fun r hr => ?_
        obtain ⟨⟨r1, r2, r3, r4, r5, r6, r7⟩, g1, g2⟩ := hr
        unfold Mod_walk_j172
        refine t_walk_L hf Iw Is Ils Ile z n _ _ _ _ _ _ _ _ _ _ _ _ _ _ _ _ _ _ _ r1 r2 r3 r4 r5 r6 r7 (by omega) (fun e => ?_)
        obtain ⟨g3, o', g4, g5, g6⟩ := g2 e
        exact ⟨o' + 1, 1, by omega, g6, by omega, g3, Or.inl rfl, by omega⟩
theorem t_Mod_walk {fu : Nat} {th sc rf wi ls le : Nat → Int32} {va : Nat → Int64} {bi : Nat → Int32} {a0 a1 : Int32} {s : S_Mo} {rd : Nat → Int64} {li ne en be lf tu fo op ki co wd sca lk rp : Nat → Int32} {ba : Nat → Int64} {ea pa : Nat → Int32} (hf : 12000 ≤ fu) (Iw : A_Mwidths wi) (Is : A_Mscales sc) (Ils : A_Mlists ls) (Ile : A_Mlengths le) (I : I_Mo s) (Ifo : A_MfoundOps fo) (Iop : A_Mops op) (Aw : A_Mwidth wd) (Ae : A_MelementAt ea) (Ap : A_MpointAt pa) (hg : 0 ≤ (Mo_fault s).toInt) (h0 : 0 ≤ a0.toInt) (h1 : a0.toInt ≤ 7) (hat : 0 ≤ (Mo_at s).toInt) (hm : a1.toInt < 2 ∨ ((Mo_at s).toInt ≤ (Mo_many s).toInt ∧ (Mo_many s).toInt ≤ 40000)) (hs : a1.toInt ≠ 3 ∨ (Mo_subsets s).toInt ≤ 8) (hc : CompOK fu th sc wi ls le (Mo_used s)) : So (Mod_walk fu th sc rf wi ls le va bi a0 a1 s rd li ne en be lf tu fo op ki co wd sca lk rp ba ea pa) (fun r => WR r (Mo_set_mode (Mo_set_subset s a0) a1)) := by
  unfold Mod_walk
  refine So.lt (So.lt (So.lt (So.lt (So.lt (So.lt ?_)))))
  refine So.bde (start_eq hf) ?_
  dsimp only
  have I1 : I_Mo (Mo_set_open (s0 (Mo_set_pointer (Mo_set_pointed (Mo_set_elements (Mo_set_fields (Mo_set_mode (Mo_set_subset s a0) a1) 0) 0) 0) 0)) (0 + 1)) := I_Mo_set_open (I_Mo_set_looked (I_Mo_set_open (I_Mo_set_pointer (I_Mo_set_pointed (I_Mo_set_elements (I_Mo_set_fields (I_Mo_set_mode (I_Mo_set_subset I ⟨h0, h1⟩)) (by decide)) (by decide)) (by decide)) (by decide)) (by decide))) (by decide)
  have W1 : WI (Mo_set_open (s0 (Mo_set_pointer (Mo_set_pointed (Mo_set_elements (Mo_set_fields (Mo_set_mode (Mo_set_subset s a0) a1) 0) 0) 0) 0)) (0 + 1)) := ⟨I1, hat, hm, hs, hg, Int.le_refl _, Int.le_refl _⟩
  have K1 : WK (Mo_set_open (s0 (Mo_set_pointer (Mo_set_pointed (Mo_set_elements (Mo_set_fields (Mo_set_mode (Mo_set_subset s a0) a1) 0) 0) 0) 0)) (0 + 1)) (Mo_set_mode (Mo_set_subset s a0) a1) := ⟨KM.refl _, rfl, rfl, rfl, rfl⟩
  have hC := hc li ne en be fo op
  have hoz : (Mo_open (Mo_set_open (s0 (Mo_set_pointer (Mo_set_pointed (Mo_set_elements (Mo_set_fields (Mo_set_mode (Mo_set_subset s a0) a1) 0) 0) 0) 0)) (0 + 1))).toInt = ((1 : Nat) : Int) := by show (0 + 1 : Int32).toInt = 1; decide
  have hlz : (Mo_looked (Mo_set_open (s0 (Mo_set_pointer (Mo_set_pointed (Mo_set_elements (Mo_set_fields (Mo_set_mode (Mo_set_subset s a0) a1) 0) 0) 0) 0)) (0 + 1))).toInt = 0 := by show (0 : Int32).toInt = 0; decide
  refine t_walk_L hf Iw Is Ils Ile _ fu _ rd _ _ _ _ _ _ _ _ ki co wd sca lk rp ba ea pa W1 K1 (fo4_A Ifo (op0_A Iop)) (op0_A Iop) Aw Ae Ap (by omega) (fun _ => ⟨1, 1, hoz, ⟨hC, ?_, ?_⟩, by omega, by omega, Or.inl rfl, by omega⟩)
  · intro f hf
    have : f = 0 := by omega
    subst this
    refine hC.congr (fun g hg => ⟨rfl, ?_, rfl, rfl⟩) (fun _ _ => rfl) (fun k hk => fo4_at hk)
    have : g = 0 := by omega
    subst this
    rw [upd_at, upd_at, upd_at]
  · intro f hf
    have : f = 0 := by omega
    subst this
    rw [upd_at]
    exact Or.inl (by decide)

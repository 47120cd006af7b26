theorem t_Mod_begins {d : Int32} (h0 : 400 ≤ d.toInt) (h1 : d.toInt ≤ 487) : So (Mod_begins d) (fun r => -100 ≤ r.toInt ∧ r.toInt ≤ 31 ∧ (r.toInt = -100 ∨ -16 ≤ r.toInt) ∧ (d.toInt < 460 ∨ r.toInt = -100 ∨ 0 ≤ r.toInt)) := by
  unfold Mod_begins
  have k0 : (0 : Int32).toInt = 0 := by decide
  have k1 : (1 : Int32).toInt = 1 := by decide
  have k2 : (2 : Int32).toInt = 2 := by decide
  have k3 : (3 : Int32).toInt = 3 := by decide
  have k8 : (8 : Int32).toInt = 8 := by decide
  have k16 : (16 : Int32).toInt = 16 := by decide
  have a0 : (400 : Int32).toInt = 400 := by decide
  have a1 : (440 : Int32).toInt = 440 := by decide
  have a2 : (460 : Int32).toInt = 460 := by decide
  have a3 : (480 : Int32).toInt = 480 := by decide
  have a4 : (487 : Int32).toInt = 487 := by decide
  have hq : So (Mod_operator d) (fun q => (q.toInt = 0 ∧ d.toInt < 440) ∨ (q.toInt = 1 ∧ 440 ≤ d.toInt ∧ d.toInt < 460) ∨ (q.toInt = 2 ∧ 460 ≤ d.toInt ∧ d.toInt < 480) ∨ (q.toInt = 3 ∧ 480 ≤ d.toInt)) := by
    unfold Mod_operator
    refine So.neg (by rw [i_lt]; omega) (So.pos (by rw [i_le]; omega) ?_)
    refine So.ite (fun c => ?_) (fun c => ?_) <;> rw [i_le] at c
    · refine So.ite (fun c => ?_) (fun c => ?_) <;> rw [i_le] at c
      · refine So.ite (fun c => ?_) (fun c => ?_) <;> rw [i_le] at c
        · exact So.one (by omega)
        · exact So.one (by omega)
      · exact So.one (by omega)
    · exact So.one (by omega)
  have hj : ∀ q t : Int32, -100 ≤ d.toInt - t.toInt → (q.toInt = 0 → d.toInt - t.toInt ≤ 47) → (q.toInt = 1 → d.toInt - t.toInt ≤ 39) → (q.toInt ≠ 0 → q.toInt ≠ 1 → d.toInt - t.toInt ≤ 31) → 0 ≤ d.toInt - t.toInt → (460 ≤ d.toInt → q.toInt ≠ 0 ∧ q.toInt ≠ 1) → So (Mod_begins_j41 q d t) (fun r => -100 ≤ r.toInt ∧ r.toInt ≤ 31 ∧ (r.toInt = -100 ∨ -16 ≤ r.toInt) ∧ (d.toInt < 460 ∨ r.toInt = -100 ∨ 0 ≤ r.toInt)) := by
    intro q t b0 b1 b2 b3 b4 b5
    unfold Mod_begins_j41
    have ht := i_r1 t
    have ht2 := i_r2 t
    have e := i_sub (a := d) (b := t) (by omega) (by have := i_r2 d; omega)
    have kh : ((-100) : Int32).toInt = -100 := by decide
    refine So.ite (fun c => So.one (by omega)) (fun c => ?_)
    refine So.ite (fun c2 => ?_) (fun c2 => ?_) <;> rw [i_eq] at c2
    · have e2 := i_sub (a := d - t) (b := 16) (by omega) (by omega)
      exact So.one (by omega)
    · refine So.ite (fun c3 => ?_) (fun c3 => ?_) <;> rw [i_eq] at c3
      · have e2 := i_sub (a := d - t) (b := 8) (by omega) (by omega)
        exact So.one (by omega)
      · exact So.one (by omega)
  refine So.bd hq fun q h => ?_
  refine So.ite (fun c => ?_) (fun c => ?_) <;> rw [i_eq] at c
  · exact hj q 400 (by omega) (by omega) (by omega) (by omega) (by omega) (by omega)
  · refine So.ite (fun c2 => ?_) (fun c2 => ?_) <;> rw [i_eq] at c2
    · exact hj q 440 (by omega) (by omega) (by omega) (by omega) (by omega) (by omega)
    · refine So.ite (fun c3 => ?_) (fun c3 => ?_) <;> rw [i_eq] at c3
      · exact hj q 460 (by omega) (by omega) (by omega) (by omega) (by omega) (by omega)
      · exact hj q 480 (by omega) (by omega) (by omega) (by omega) (by omega) (by omega)
-- what looking at a descriptor comes to
def LookC (th wi ls le : Nat → Int32) (used : Int32) (o : Nat) (d : Int32) (li ne en be tu fo op li' ne' en' be' tu' fo' op' : Nat → Int32) (o' : Nat) : Prop :=
  (d.toInt ≤ 63 ∧ EOK th wi used d op ∧ o' = o ∧ li' = li ∧ ne' = ne ∧ en' = en ∧ be' = be ∧ tu' = tu ∧ fo' = fo ∧ op' = op) ∨
  (64 ≤ d.toInt ∧ d.toInt ≤ 115 ∧ cn tu o < 6 ∧ o' = o + 1 ∧ li' = upd li (o + 1) (d - 100) ∧ ne' = upd ne (o + 1) 0 ∧ en' = upd en (o + 1) (le (d - 100).toNatClampNeg) ∧ be' = upd be (o + 1) 0 ∧ tu' = upd tu (o + 1) (-1) ∧ fo' = fo4 fo (o + 1) op ∧ op' = op) ∨
  (216 ≤ d.toInt ∧ d.toInt ≤ 343 ∧ ∃ fr to : Int32, o' = o + 1 ∧ to.toInt = fr.toInt + (d.toInt - 200) / 16 ∧ to.toInt ≤ (en o).toInt ∧ (((d.toInt - 200) % 16 ≠ 0 ∧ fr.toInt = (ne o).toInt) ∨ ((d.toInt - 200) % 16 = 0 ∧ fr.toInt = (ne o).toInt + 1 ∧ (ls (24 * (li o) + (ne o)).toNatClampNeg).toInt ≤ 63 ∧ 0 ≤ fv th used (ls (24 * (li o) + (ne o)).toNatClampNeg))) ∧ li' = upd li (o + 1) (li o) ∧ ne' = upd (upd ne o to) (o + 1) fr ∧ en' = upd en (o + 1) to ∧ be' = upd be (o + 1) fr ∧ tu' = upd tu (o + 1) 0 ∧ fo' = fo4 fo (o + 1) op ∧ op' = op) ∨
  (400 ≤ d.toInt ∧ d.toInt ≤ 487 ∧ ∃ k b : Int32, Mod_operator d = some k ∧ Mod_begins d = some b ∧ o' = o ∧ li' = li ∧ ne' = ne ∧ en' = en ∧ be' = be ∧ tu' = tu ∧ fo' = fo ∧ op' = upd op k.toNatClampNeg b) ∨
  (501 ≤ d.toInt ∧ o' = o ∧ li' = li ∧ ne' = ne ∧ en' = en ∧ be' = be ∧ tu' = tu ∧ fo' = fo ∧ op' = op)
def LookR (s s' : S_Mo) (fo' op' : Nat → Int32) : Prop := I_Mo s' ∧ KM s' s ∧ KW s' s ∧ 0 ≤ (Mo_fault s').toInt ∧ (Mo_looked s).toInt ≤ (Mo_looked s').toInt ∧ (Mo_looked s').toInt ≤ (Mo_looked s).toInt + 1 ∧ A_MfoundOps fo' ∧ A_Mops op'
theorem LookR.bad {s : S_Mo} {fo op : Nat → Int32} {a w : Int32} (I : I_Mo s) (Ifo : A_MfoundOps fo) (Iop : A_Mops op) (h : 0 < a.toInt) : LookR s (wr a w s) fo op := ⟨wr_I I, wr_KM _ _ _, wr_KW _ _ _, by have := wr_fault (a1 := w) (s := s) h; omega, by rw [wr_looked]; omega, by rw [wr_looked]; omega, Ifo, Iop⟩
def RepC (o : Nat) (fr to : Int32) (li ne en be tu fo op li' ne' en' be' tu' fo' op' : Nat → Int32) : Prop := li' = upd li (o + 1) (li o) ∧ ne' = upd (upd ne o to) (o + 1) fr ∧ en' = upd en (o + 1) to ∧ be' = upd be (o + 1) fr ∧ tu' = upd tu (o + 1) 0 ∧ fo' = fo4 fo (o + 1) op ∧ op' = op
theorem t_look_j290 {fu o : Nat} {th sc wi ls le li ne en be lf tu fo op : Nat → Int32} {x2 x5 x7 : Int32} {s0 s : S_Mo} (hf : 12000 ≤ fu) (R : LookR s0 s fo op) (hx : x2.toInt = (o : Int)) (ho : (Mo_open s).toInt = (o : Int) + 1) (h90 : o + 1 < 90) : So (Mod_look_j290 fu th sc wi ls le x2 x5 x7 s li ne en be lf tu fo op) (fun r => LookR s0 r.1 r.2.2.2.2.2.2.2.1 r.2.2.2.2.2.2.2.2 ∧ (Mo_fault r.1 = 0 → Mo_fault s = 0 ∧ (Mo_open r.1).toInt = (o : Int) + 1 + 1 ∧ RepC o x7 (x7 + x5) li ne en be tu fo op r.2.1 r.2.2.1 r.2.2.2.1 r.2.2.2.2.1 r.2.2.2.2.2.2.1 r.2.2.2.2.2.2.2.1 r.2.2.2.2.2.2.2.2)) := by
  unfold Mod_look_j290
  have i2 : x2.toNatClampNeg = o := by
    have := i_nat (a := x2) (by omega)
    omega
  have k1 : (1 : Int32).toInt = 1 := by decide
  obtain ⟨I, hk, hw, hg, hl1, hl2, Ifo, Iop⟩ := R
  have eo := i_add (a := Mo_open s) (b := 1) (by omega) (by omega)
  refine So.gd (i_in.mpr (by omega)) ?_
  rw [i2]
  refine So.lt ?_
  refine So.ite (fun c => ?_) (fun c => ?_)
  · refine So.gd (i_in.mpr (by omega)) ?_
    refine So.bde (enter_eq (o := o + 1) hf (by omega) h90) ?_
    have I' : I_Mo (Mo_set_open s (Mo_open s + 1)) := I_Mo_set_open I (by omega)
    refine So.one ⟨⟨I', hk, hw, hg, hl1, hl2, fo4_A Ifo Iop, Iop⟩, fun _ => ⟨c, ?_, rfl, rfl, rfl, rfl, rfl, rfl, rfl⟩⟩
    show (Mo_open s + 1).toInt = _
    omega
  · exact So.one ⟨⟨I, hk, hw, hg, hl1, hl2, Ifo, Iop⟩, fun e => absurd e c⟩
def RepP (th ls : Nat → Int32) (used : Int32) (o : Nat) (cnt x5 : Int32) (s0 : S_Mo) (li ne en be tu fo op : Nat → Int32) (r : S_Mo × (Nat → Int32) × (Nat → Int32) × (Nat → Int32) × (Nat → Int32) × (Nat → Int32) × (Nat → Int32) × (Nat → Int32) × (Nat → Int32)) : Prop := LookR s0 r.1 r.2.2.2.2.2.2.2.1 r.2.2.2.2.2.2.2.2 ∧ (Mo_fault r.1 = 0 → Mo_fault s0 = 0 ∧ (Mo_open r.1).toInt = (o : Int) + 1 + 1 ∧ ∃ fr to : Int32, to.toInt = fr.toInt + x5.toInt ∧ to.toInt ≤ (en o).toInt ∧ ((cnt.toInt = 0 ∧ fr.toInt = (ne o).toInt) ∨ (cnt.toInt ≠ 0 ∧ fr.toInt = (ne o).toInt + 1 ∧ (ls (24 * (li o) + (ne o)).toNatClampNeg).toInt ≤ 63 ∧ 0 ≤ fv th used (ls (24 * (li o) + (ne o)).toNatClampNeg))) ∧ RepC o fr to li ne en be tu fo op r.2.1 r.2.2.1 r.2.2.2.1 r.2.2.2.2.1 r.2.2.2.2.2.2.1 r.2.2.2.2.2.2.2.1 r.2.2.2.2.2.2.2.2)
theorem t_look_j155 {fu o : Nat} {th sc wi ls le li ne en be lf tu fo op : Nat → Int32} {x2 x3 x5 x6 t1 : Int32} {s : S_Mo} (hf : 12000 ≤ fu) (Iw : A_Mwidths wi) (Is : A_Mscales sc) (Ils : A_Mlists ls) (R : LookR s s fo op) (hl0 : 0 ≤ (Mo_looked s).toInt) (hl1 : (Mo_looked s).toInt ≤ 1001) (hx : x2.toInt = (o : Int)) (ho : (Mo_open s).toInt = (o : Int) + 1) (h90 : o + 1 < 90) (hn0 : 0 ≤ (ne o).toInt) (he : (en o).toInt ≤ 24) (hli0 : 0 ≤ (li o).toInt) (hli1 : (li o).toInt ≤ 16) (hne : (ne o).toInt ≤ (en o).toInt) (h5 : 1 ≤ x5.toInt) (h58 : x5.toInt ≤ 8) (h6 : (x6.toInt = 0 ∧ t1.toInt = 0) ∨ (x6.toInt = 1 ∧ t1.toInt = 1)) : So (Mod_look_j155 fu th sc wi ls le x2 x3 x5 x6 (ne x2.toNatClampNeg) t1 s li ne en be lf tu fo op) (RepP th ls (Mo_used s) o x6 x5 s li ne en be tu fo op) := by
  unfold Mod_look_j155
  have i2 : x2.toNatClampNeg = o := by
    have := i_nat (a := x2) (by omega)
    omega
  obtain ⟨I, hk, hw, hg, _, _, Ifo, Iop⟩ := R
  have k0 : (0 : Int32).toInt = 0 := by decide
  have k24 : (24 : Int32).toInt = 24 := by decide
  have k63 : (63 : Int32).toInt = 63 := by decide
  have bad : ∀ a w : Int32, 0 < a.toInt → RepP th ls (Mo_used s) o x6 x5 s li ne en be tu fo op (wr a w s, li, ne, en, be, lf, tu, fo, op) := fun a w h => ⟨LookR.bad I Ifo Iop h, fun e => absurd e (wr_ge h)⟩
  rw [i2]
  have e1 := i_add (a := ne o) (b := t1) (by omega) (by omega)
  have e2 := i_add (a := ne o + t1) (b := x5) (by omega) (by omega)
  refine So.gd (i_in.mpr (by omega)) ?_
  refine So.ite (fun c1 => ?_) (fun c1 => ?_) <;> rw [i_lt] at c1
  · refine So.bde (wrong_eq _ _ _) ?_
    exact So.one (bad 3 x3 (by decide))
  · have pos : ∀ s' : S_Mo, LookR s s' fo op → (Mo_open s').toInt = (o : Int) + 1 → (Mo_fault s' = 0 → Mo_fault s = 0) → ((x6.toInt ≠ 0 → (ls (24 * (li o) + (ne o)).toNatClampNeg).toInt ≤ 63 ∧ (Mo_fault s' = 0 → 0 ≤ fv th (Mo_used s) (ls (24 * (li o) + (ne o)).toNatClampNeg)))) → So (Mod_look_j290 fu th sc wi ls le x2 x5 (ne o + t1) s' li ne en be lf tu fo op) (RepP th ls (Mo_used s) o x6 x5 s li ne en be tu fo op) := by
      intro s' R' ho' hfa hc
      refine So.imp (t_look_j290 hf R' hx ho' h90) fun r hr => ⟨hr.1, fun e => ?_⟩
      obtain ⟨g1, g2, g3⟩ := hr.2 e
      refine ⟨hfa g1, g2, ne o + t1, ne o + t1 + x5, by omega, by omega, ?_, g3⟩
      by_cases hz : x6.toInt = 0
      · exact Or.inl ⟨hz, by omega⟩
      · exact Or.inr ⟨hz, by omega, (hc hz).1, (hc hz).2 g1⟩
    have R0 : LookR s s fo op := ⟨I, hk, hw, hg, by omega, by omega, Ifo, Iop⟩
    refine So.ite (fun c2 => ?_) (fun c2 => ?_) <;> rw [i_eq] at c2
    · unfold Mod_look_j210
      refine So.pos (by rw [i_eq]; exact c2) ?_
      exact pos s R0 ho (fun e => e) (fun h => absurd (by omega) h)
    · have m1 := i_mull 24 (li o) 24 (by decide) (by omega) (by omega)
      have m2 := i_add (a := 24 * li o) (b := ne o) (by omega) (by omega)
      have hd := A_Mlists_at Ils (24 * li o + ne o).toNatClampNeg
      refine So.gd (i_in.mpr (by omega)) (So.gd (i_in.mpr (by omega)) (So.gd (i_in.mpr (by omega)) ?_))
      refine So.ite (fun c3 => ?_) (fun c3 => ?_) <;> rw [i_le] at c3
      · have j286 : ∀ (s' : S_Mo) (w : Int32), LookR s s' fo op → (Mo_open s').toInt = (o : Int) + 1 → Mo_fault s' = Mo_fault s → So (Mod_look_j286 fu th sc wi ls le x2 x5 (ne o + t1) (ls (24 * li o + ne o).toNatClampNeg) w s' li ne en be lf tu fo op) (RepP th ls (Mo_used s) o x6 x5 s li ne en be tu fo op) := by
          intro s' w R' ho' hf'
          unfold Mod_look_j286
          obtain ⟨I', hk', hw', hg', hq1, hq2, _, _⟩ := R'
          refine So.bd (t_Mod_lookElement hf Iw Is Iop I' hg' (by omega) (by omega)) fun q hq => ?_
          obtain ⟨⟨q1, q2, q3, q4, q5, q6⟩, q7⟩ := hq
          have hu : Mo_used s' = Mo_used s := hk'.1
          refine pos q ⟨q1, q2.trans hk', q3.trans hw', q6, by rw [q5]; exact hq1, by rw [q5]; exact hq2, Ifo, Iop⟩ (by rw [q4]; exact ho') (fun e => by rw [← hf']; exact (q7 e).1) (fun _ => ⟨by omega, fun e => ?_⟩)
          have := (q7 e).2.1
          rw [hu] at this
          exact this
        have j237 : ∀ w : Int32, So (Mod_look_j237 fu th sc wi ls le x2 x3 x5 (ne o + t1) w s li ne en be lf tu fo op) (RepP th ls (Mo_used s) o x6 x5 s li ne en be tu fo op) := by
          intro w
          unfold Mod_look_j237
          refine So.bd (t_Mod_count I hg hl0 hl1) fun q hq => ?_
          obtain ⟨q1, q2, q3, q4, q5, q6, q7⟩ := hq
          have Rq : LookR s q.2 fo op := ⟨q1, q2, q3, q6, by omega, by omega, Ifo, Iop⟩
          have hoq : (Mo_open q.2).toInt = (o : Int) + 1 := by rw [q4]; exact ho
          refine So.ite (fun c4 => ?_) (fun c4 => ?_)
          · have hz : Mo_fault q.2 ≠ 0 := by
              rcases q7 with h | h
              · exact h.2
              · rw [h.1] at c4; exact absurd c4 (by decide)
            exact pos q.2 Rq hoq (fun e => absurd e hz) (fun _ => ⟨by omega, fun e => absurd e hz⟩)
          · have hz : Mo_fault q.2 = Mo_fault s := by
              rcases q7 with h | h
              · exact absurd h.1 c4
              · exact h.2.1
            rw [i2]
            refine So.gd (i_in.mpr (by omega)) (So.gd (i_in.mpr (by omega)) (So.gd (i_in.mpr (by omega)) (So.gd (i_in.mpr (by omega)) ?_)))
            refine So.ite (fun c5 => ?_) (fun c5 => ?_)
            · refine So.gd (i_in.mpr (by omega)) ?_
              exact j286 q.2 _ Rq hoq hz
            · exact j286 q.2 _ Rq hoq hz
        unfold Mod_look_j210
        refine So.neg (by rw [i_eq]; exact c2) ?_
        rw [i2]
        refine So.gd (i_in.mpr (by omega)) ?_
        refine So.ite (fun c5 => ?_) (fun c5 => ?_)
        · refine So.gd (i_in.mpr (by omega)) ?_
          exact j237 _
        · exact j237 _
      · refine So.bde (wrong_eq _ _ _) ?_
        exact So.one (bad 3 x3 (by decide))
abbrev A9 : Type := S_Mo × (Nat → Int32) × (Nat → Int32) × (Nat → Int32) × (Nat → Int32) × (Nat → Int32) × (Nat → Int32) × (Nat → Int32) × (Nat → Int32)
def LookP (th wi ls le : Nat → Int32) (o : Nat) (d : Int32) (s : S_Mo) (li ne en be tu fo op : Nat → Int32) (r : A9) : Prop := LookR s r.1 r.2.2.2.2.2.2.2.1 r.2.2.2.2.2.2.2.2 ∧ (Mo_fault r.1 = 0 → Mo_fault s = 0 ∧ ∃ o' : Nat, (Mo_open r.1).toInt = (o' : Int) + 1 ∧ LookC th wi ls le (Mo_used s) o d li ne en be tu fo op r.2.1 r.2.2.1 r.2.2.2.1 r.2.2.2.2.1 r.2.2.2.2.2.2.1 r.2.2.2.2.2.2.2.1 r.2.2.2.2.2.2.2.2 o')
theorem t_Mod_look {fu o : Nat} {th sc wi ls le li ne en be lf tu fo op : Nat → Int32} {d : Int32} {s : S_Mo} (hf : 12000 ≤ fu) (Iw : A_Mwidths wi) (Is : A_Mscales sc) (Ils : A_Mlists ls) (Ile : A_Mlengths le) (R : LookR s s fo op) (hl0 : 0 ≤ (Mo_looked s).toInt) (hl1 : (Mo_looked s).toInt ≤ 1001) (ho : (Mo_open s).toInt = (o : Int) + 1) (F : FrOK (o + 1) le li ne en be tu) (hd : (0 ≤ d.toInt ∧ d.toInt ≤ 63) ∨ (100 ≤ d.toInt ∧ d.toInt ≤ 115) ∨ (216 ≤ d.toInt ∧ d.toInt ≤ 343) ∨ (400 ≤ d.toInt ∧ d.toInt ≤ 487) ∨ (501 ≤ d.toInt ∧ d.toInt ≤ 516) ∨ d.toInt = 520) : So (Mod_look fu th sc wi ls le d s li ne en be lf tu fo op) (LookP th wi ls le o d s li ne en be tu fo op) := by
  unfold Mod_look
  have R0 := R
  obtain ⟨I, hk, hw, hg, _, _, Ifo, Iop⟩ := R
  have q0 := F o (by omega)
  have b0 := Fq_b Ile q0
  obtain ⟨f1, f2, f3, f4, f5, f6, f7, f8⟩ := q0
  have k63 : (63 : Int32).toInt = 63 := by decide
  have k115 : (115 : Int32).toInt = 115 := by decide
  have k0 : (0 : Int32).toInt = 0 := by decide
  have k1 : (1 : Int32).toInt = 1 := by decide
  have k6 : (6 : Int32).toInt = 6 := by decide
  have k16 : (16 : Int32).toInt = 16 := by decide
  have k100 : (100 : Int32).toInt = 100 := by decide
  have k200 : (200 : Int32).toInt = 200 := by decide
  have km : ((-1) : Int32).toInt = -1 := by decide
  have kh : ((-100) : Int32).toInt = -100 := by decide
  have bad : ∀ a w : Int32, 0 < a.toInt → LookP th wi ls le o d s li ne en be tu fo op (wr a w s, li, ne, en, be, lf, tu, fo, op) := fun a w h => ⟨LookR.bad I Ifo Iop h, fun e => absurd e (wr_ge h)⟩
  refine So.bd (t_Mod_where hf ho (by omega)) fun q1 _ => ?_
  obtain ⟨q2, eq2, hq2⟩ := t_Mod_operator (a0 := d)
  refine So.bde eq2 ?_
  refine So.ite (fun c1 => ?_) (fun c1 => ?_) <;> rw [i_lt] at c1
  · refine So.ite (fun c2 => ?_) (fun c2 => ?_) <;> rw [i_lt] at c2
    · refine So.bd t_Mod_isRepeat fun q3 h3 => ?_
      refine So.ite (fun c3 => ?_) (fun c3 => ?_) <;> rw [i_eq] at c3
      · refine So.ite (fun c4 => ?_) (fun c4 => ?_) <;> rw [i_lt] at c4
        · exact So.one ⟨R0, fun e => ⟨e, o, ho, Or.inr (Or.inr (Or.inr (Or.inr ⟨by omega, rfl, rfl, rfl, rfl, rfl, rfl, rfl, rfl⟩)))⟩⟩
        · obtain ⟨q4, eq4, hq4⟩ := t_Mod_begins (d := d) (by omega) (by omega)
          refine So.bde eq4 ?_
          have hq2n := i_nat (a := q2) (by omega)
          have hop : A_Mops (upd op q2.toNatClampNeg q4) := A_Mops_upd Iop ⟨hq4.1, hq4.2.1, hq4.2.2.1, by omega⟩
          have fin : ∀ (t0 t1 : Int32), So (Mod_look_j370 fu th sc wi ls le q1 q2 q4 t0 t1 s li ne en be lf tu fo op) (LookP th wi ls le o d s li ne en be tu fo op) := by
            intro t0 t1
            unfold Mod_look_j370
            refine So.ite (fun c5 => ?_) (fun c5 => ?_)
            · refine So.bde (wrong_eq _ _ _) ?_
              refine So.gd (i_in.mpr (by omega)) (So.lt ?_)
              exact So.one ⟨LookR.bad I Ifo hop (by decide), fun e => absurd e (wr_ge (by decide))⟩
            · refine So.gd (i_in.mpr (by omega)) (So.lt ?_)
              exact So.one ⟨⟨I, hk, hw, hg, by omega, by omega, Ifo, hop⟩, fun e => ⟨e, o, ho, Or.inr (Or.inr (Or.inr (Or.inl ⟨by omega, by omega, q2, q4, eq2, eq4, rfl, rfl, rfl, rfl, rfl, rfl, rfl, rfl⟩)))⟩⟩
          have fin2 : ∀ (t0 : Int32), So (Mod_look_j353 fu th sc wi ls le q1 q2 q4 t0 s li ne en be lf tu fo op) (LookP th wi ls le o d s li ne en be tu fo op) := by
            intro t0
            unfold Mod_look_j353
            refine So.gd (i_in.mpr (by omega)) ?_
            exact So.ite (fun _ => fin _ _) (fun _ => fin _ _)
          exact So.ite (fun _ => fin2 _) (fun _ => fin2 _)
      · have hr : 216 ≤ d.toInt ∧ d.toInt ≤ 343 := by omega
        have e1 := i_sub (a := d) (b := 200) (by omega) (by omega)
        have e2 := i_divk (d - 200) 16 16 (by decide) (by decide) (by omega)
        have e3 := i_mulr ((d - 200) / 16) 16 16 (by decide) (by omega) (by omega)
        have e4 := i_sub (a := d - 200) (b := (d - 200) / 16 * 16) (by omega) (by omega)
        have eo := i_sub (a := Mo_open s) (b := 1) (by omega) (by omega)
        have fin : ∀ t0 : Int32, (t0.toInt = 0 ∧ (d.toInt - 200) % 16 ≠ 0) ∨ (t0.toInt = 1 ∧ (d.toInt - 200) % 16 = 0) → So (Mod_look_j137 fu th sc wi ls le (Mo_open s - 1) q1 ((d - 200) / 16) t0 s li ne en be lf tu fo op) (LookP th wi ls le o d s li ne en be tu fo op) := by
          intro t0 ht
          have done : ∀ r : A9, RepP th ls (Mo_used s) o t0 ((d - 200) / 16) s li ne en be tu fo op r → LookP th wi ls le o d s li ne en be tu fo op r := by
            intro r hr'
            refine ⟨hr'.1, fun e => ?_⟩
            obtain ⟨g1, g2, fr, to, g3, g4, g5, g6⟩ := hr'.2 e
            refine ⟨g1, o + 1, by omega, Or.inr (Or.inr (Or.inl ⟨hr.1, hr.2, fr, to, rfl, by omega, g4, ?_, g6⟩))⟩
            rcases g5 with g5 | g5
            · exact Or.inl ⟨by omega, g5.2⟩
            · exact Or.inr ⟨by omega, g5.2⟩
          unfold Mod_look_j137
          refine So.gd (i_in.mpr (by omega)) ?_
          refine So.ite (fun c5 => ?_) (fun c5 => ?_) <;> rw [i_eq] at c5
          · exact So.imp (t_look_j155 hf Iw Is Ils R0 hl0 hl1 (by omega) ho (by omega) (by omega) (by omega) f5 f6 f3 (by omega) (by omega) (Or.inl ⟨c5, by decide⟩)) done
          · exact So.imp (t_look_j155 hf Iw Is Ils R0 hl0 hl1 (by omega) ho (by omega) (by omega) (by omega) f5 f6 f3 (by omega) (by omega) (Or.inr ⟨by omega, by decide⟩)) done
        refine So.ite (fun c5 => ?_) (fun c5 => ?_) <;> rw [i_eq] at c5
        · exact fin 1 (Or.inr ⟨by decide, by omega⟩)
        · exact fin 0 (Or.inl ⟨by decide, by omega⟩)
    · have e1 := i_sub (a := d) (b := 100) (by omega) (by omega)
      refine So.gd (i_in.mpr (by omega)) ?_
      refine So.ite (fun c3 => ?_) (fun c3 => ?_)
      · refine So.bde (wrong_eq _ _ _) ?_
        exact So.one (bad 1 q1 (by decide))
      · refine So.bd (t_Mod_sequences hf ho (by omega)) fun q10 h10 => ?_
        refine So.ite (fun c4 => ?_) (fun c4 => ?_) <;> rw [i_lt] at c4
        · refine So.gd (i_in.mpr (by omega)) ?_
          have eo := i_add (a := Mo_open s) (b := 1) (by omega) (by omega)
          refine So.bde (enter_eq (o := o + 1) hf (by omega) (by omega)) ?_
          have I' : I_Mo (Mo_set_open s (Mo_open s + 1)) := I_Mo_set_open I (by omega)
          refine So.one ⟨⟨I', hk, hw, hg, by show (Mo_looked s).toInt ≤ (Mo_looked s).toInt; omega, by show (Mo_looked s).toInt ≤ (Mo_looked s).toInt + 1; omega, fo4_A Ifo Iop, Iop⟩, fun e => ⟨e, o + 1, ?_, Or.inr (Or.inl ⟨by omega, by omega, by omega, rfl, rfl, rfl, rfl, rfl, rfl, rfl, rfl⟩)⟩⟩
          show (Mo_open s + 1).toInt = _
          omega
        · refine So.bde (wrong_eq _ _ _) ?_
          exact So.one (bad 2 q1 (by decide))
  · refine So.bd (t_Mod_lookElement hf Iw Is Iop I hg (by omega) (by omega)) fun q hq => ?_
    obtain ⟨⟨q1', q2', q3, q4, q5, q6⟩, q7⟩ := hq
    refine So.one ⟨⟨q1', q2', q3, q6, by show (Mo_looked s).toInt ≤ (Mo_looked q).toInt; rw [q5]; omega, by show (Mo_looked q).toInt ≤ (Mo_looked s).toInt + 1; rw [q5]; omega, Ifo, Iop⟩, fun e => ?_⟩
    obtain ⟨g1, g2, g3⟩ := q7 e
    exact ⟨g1, o, by show (Mo_open q).toInt = _; rw [q4]; exact ho, Or.inl ⟨by omega, g3 (by decide), rfl, rfl, rfl, rfl, rfl, rfl, rfl, rfl⟩⟩

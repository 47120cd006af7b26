-- compiling (the reference): it ends, and what it comes to
theorem t_comp_L {fu : Nat} {th sc wi ls le : Nat → Int32} (hf : 12000 ≤ fu) (Iw : A_Mwidths wi) (Is : A_Mscales sc) (Ils : A_Mlists ls) (Ile : A_Mlengths le) (z : S_Mo) : ∀ (n : Nat) (s : S_Mo) (li ne en be lf tu fo op : Nat → Int32), I_Mo s → KM s z → 0 ≤ (Mo_fault s).toInt → A_MfoundOps fo → A_Mops op → 0 < n → (Mo_fault s = 0 → ∃ o : Nat, (Mo_open s).toInt = (o : Int) ∧ FrOK o le li ne en be tu ∧ 0 ≤ (Mo_looked s).toInt ∧ (Mo_looked s).toInt ≤ 1001 ∧ 3 * (1001 - (Mo_looked s).toInt) + 2 * o + 1 < (n : Int)) → So (Mod_compileAll_L8 fu th sc wi ls le n s li ne en be lf tu fo op) (fun r => I_Mo r.1 ∧ KM r.1 z ∧ 0 ≤ (Mo_fault r.1).toInt ∧ A_MfoundOps r.2.2.2.2.2.2.2.1 ∧ A_Mops r.2.2.2.2.2.2.2.2)
  | 0, s, li, ne, en, be, lf, tu, fo, op, _, _, _, _, _, h, _ => absurd h (by omega)
  | n + 1, s, li, ne, en, be, lf, tu, fo, op, I, hk, hg, Ifo, Iop, _, hst => by
    rw [Mod_compileAll_L8]
    have k0 : (0 : Int32).toInt = 0 := by decide
    have k1 : (1 : Int32).toInt = 1 := by decide
    have k24 : (24 : Int32).toInt = 24 := by decide
    have out : So (some (s, li, ne, en, be, lf, tu, fo, op)) (fun r : A9 => I_Mo r.1 ∧ KM r.1 z ∧ 0 ≤ (Mo_fault r.1).toInt ∧ A_MfoundOps r.2.2.2.2.2.2.2.1 ∧ A_Mops r.2.2.2.2.2.2.2.2) := So.one ⟨I, hk, hg, Ifo, Iop⟩
    refine So.ite (fun _ => out) (fun c1 => ?_)
    rw [i_le] at c1
    refine So.ite (fun c2 => ?_) (fun _ => out)
    obtain ⟨o1, ho1, F, hl0, hl1, hm⟩ := hst c2
    obtain ⟨o, rfl⟩ : ∃ o, o1 = o + 1 := ⟨o1 - 1, by omega⟩
    have ho : (Mo_open s).toInt = (o : Int) + 1 := by omega
    have hop := I_Mo_open I
    have eo := i_sub (a := Mo_open s) (b := 1) (by omega) (by omega)
    have q0 := F o (by omega)
    have b0 := Fq_b Ile q0
    obtain ⟨f1, f2, f3, f4, f5, f6, f7, f8⟩ := q0
    have i2 : (Mo_open s - 1).toNatClampNeg = o := by
      have := i_nat (a := Mo_open s - 1) (by omega)
      omega
    rw [i2]
    refine So.gd (i_in.mpr (by omega)) (So.gd (i_in.mpr (by omega)) ?_)
    -- leaving
    have leave : ∀ s' : S_Mo, I_Mo s' → KM s' z → 0 ≤ (Mo_fault s').toInt → Mo_open s' = Mo_open s → Mo_looked s' = Mo_looked s → So (Mod_compileAll_j61 fu th sc wi ls le (fun v0 v1 v2 v3 v4 v5 v6 v7 v8 => Mod_compileAll_L8 fu th sc wi ls le n v0 v1 v2 v3 v4 v5 v6 v7 v8) s' li ne en be lf tu fo op) (fun r : A9 => I_Mo r.1 ∧ KM r.1 z ∧ 0 ≤ (Mo_fault r.1).toInt ∧ A_MfoundOps r.2.2.2.2.2.2.2.1 ∧ A_Mops r.2.2.2.2.2.2.2.2) := by
      intro s' I' hk' hg' ho' hl'
      unfold Mod_compileAll_j61
      refine So.lt2 fun s2 e2 => ?_
      unfold Mod_compileAll_j122
      have eo2 : (Mo_open s2).toInt = (o : Int) := by rw [e2]; show (Mo_open s' - 1).toInt = _; rw [ho']; omega
      have hf2 : Mo_fault s2 = Mo_fault s' := by rw [e2]
      have hl2 : Mo_looked s2 = Mo_looked s := by rw [e2]; exact hl'
      refine t_comp_L hf Iw Is Ils Ile z n s2 li ne en be lf tu fo op ?_ ?_ ?_ Ifo Iop (by omega) (fun _ => ⟨o, eo2, F.pop, by rw [hl2]; exact hl0, by rw [hl2]; exact hl1, by rw [hl2]; omega⟩)
      · rw [e2]; refine I_Mo_set_open I' ?_; rw [ho']; omega
      · rw [e2]; exact hk'
      · rw [hf2]; exact hg'
    refine So.ite (fun c3 => ?_) (fun c3 => ?_)
    · refine So.bd (t_Mod_leavesOther hf (f := o) (by omega) (by omega)) fun q15 h15 => ?_
      refine So.ite (fun c4 => ?_) (fun c4 => ?_)
      · exact leave s I hk hg rfl rfl
      · refine So.bd (t_Mod_where hf ho (by omega)) fun q16 _ => ?_
        refine So.bde (wrong_eq _ _ _) ?_
        exact leave _ (wr_I I) ((wr_KM _ _ _).trans hk) (by have := wr_fault (a0 := 4) (a1 := q16) (s := s) (by decide); omega) (wr_open _ _ _) (wr_looked _ _ _)
    · have c3' : (ne o).toInt ≠ (en o).toInt := fun e => c3 (i_eq.mpr e)
      have e1 := i_add (a := ne o) (b := 1) (by omega) (by omega)
      refine So.gd (i_in.mpr (by omega)) (So.gd (i_in.mpr (by omega)) ?_)
      refine So.lt ?_
      have F1 : FrOK (o + 1) le li (upd ne o (ne o + 1)) en be tu := F.next (by omega) (by omega)
      refine So.bd (t_Mod_where hf ho (by omega)) fun q8 _ => ?_
      refine So.bd (t_Mod_count I hg hl0 hl1) fun q9 h9 => ?_
      obtain ⟨g1, g2, g3, g4, g5, g6, g7⟩ := h9
      refine So.ite (fun c4 => ?_) (fun c4 => ?_)
      · unfold Mod_compileAll_j122
        have hz : Mo_fault q9.2 ≠ 0 := by
          rcases g7 with h | h
          · exact h.2
          · rw [h.1] at c4; exact absurd c4 (by decide)
        exact t_comp_L hf Iw Is Ils Ile z n q9.2 li _ en be lf tu fo op g1 (g2.trans hk) g6 Ifo Iop (by omega) (fun e => absurd e hz)
      · have hlk : (Mo_looked q9.2).toInt ≤ 1000 := by
          rcases g7 with h | h
          · exact absurd h.1 c4
          · exact h.2.2
        have hn1 : upd ne o (ne o + 1) o = ne o + 1 := upd_at _ _ _
        rw [hn1]
        have m1 := i_mull 24 (li o) 24 (by decide) (by omega) (by omega)
        have m2 := i_add (a := 24 * li o) (b := ne o + 1) (by omega) (by omega)
        have m3 := i_sub (a := 24 * li o + (ne o + 1)) (b := 1) (by omega) (by omega)
        refine So.gd (i_in.mpr (by omega)) (So.gd (i_in.mpr (by omega)) (So.gd (i_in.mpr (by omega)) ?_))
        have hd := A_Mlists_at Ils (24 * li o + (ne o + 1) - 1).toNatClampNeg
        have R : LookR q9.2 q9.2 fo op := ⟨g1, KM.refl _, KW.refl _, g6, by omega, by omega, Ifo, Iop⟩
        refine So.bd (t_Mod_look hf Iw Is Ils Ile R (by omega) (by omega) (by rw [g4]; exact ho) F1 hd) fun q13 h13 => ?_
        obtain ⟨⟨r1, r2, r3, r4, r5, r6, r7, r8⟩, hc⟩ := h13
        unfold Mod_compileAll_j122
        refine t_comp_L hf Iw Is Ils Ile z n q13.1 _ _ _ _ _ _ _ _ r1 (r2.trans (g2.trans hk)) r4 r7 r8 (by omega) (fun e => ?_)
        obtain ⟨_, o', ho', hC⟩ := hc e
        have done : ∀ o' : Nat, o' ≤ o + 1 → (Mo_open q13.1).toInt = (o' : Int) + 1 → FrOK (o' + 1) le q13.2.1 q13.2.2.1 q13.2.2.2.1 q13.2.2.2.2.1 q13.2.2.2.2.2.2.1 → ∃ o : Nat, (Mo_open q13.1).toInt = (o : Int) ∧ FrOK o le q13.2.1 q13.2.2.1 q13.2.2.2.1 q13.2.2.2.2.1 q13.2.2.2.2.2.2.1 ∧ 0 ≤ (Mo_looked q13.1).toInt ∧ (Mo_looked q13.1).toInt ≤ 1001 ∧ 3 * (1001 - (Mo_looked q13.1).toInt) + 2 * o + 1 < (n : Int) := fun o' h1 h2 h3 => ⟨o' + 1, by omega, h3, by omega, by omega, by omega⟩
        rcases hC with h | h | h | h | h
        · obtain ⟨_, _, e0, e1', e2', e3', e4', e5', _⟩ := h
          refine done o' (by omega) ho' ?_
          rw [e0, e1', e2', e3', e4', e5']
          exact F1
        · obtain ⟨d1, d2, d3, e0, e1', e2', e3', e4', e5', _⟩ := h
          refine done o' (by omega) ho' ?_
          rw [e0, e1', e2', e3', e4', e5']
          have k100 : (100 : Int32).toInt = 100 := by decide
          have es := i_sub (a := ls (24 * li o + (ne o + 1) - 1).toNatClampNeg) (b := 100) (by omega) (by omega)
          exact F1.seq Ile d3 (by omega) (by omega) (by decide)
        · obtain ⟨d1, d2, fr, to, e0, x1, x2, x3, e1', e2', e3', e4', e5', _⟩ := h
          refine done o' (by omega) ho' ?_
          rw [e0, e1', e2', e3', e4', e5']
          rw [hn1] at x3
          exact F1.rep Ile (by omega) (by omega) (by omega) (by decide)
        · obtain ⟨_, _, _, _, _, _, e0, e1', e2', e3', e4', e5', _⟩ := h
          refine done o' (by omega) ho' ?_
          rw [e0, e1', e2', e3', e4', e5']
          exact F1
        · obtain ⟨_, e0, e1', e2', e3', e4', e5', _⟩ := h
          refine done o' (by omega) ho' ?_
          rw [e0, e1', e2', e3', e4', e5']
          exact F1
-- what a compiling without fault tells of a state of its frames
theorem oe_gd {α : Type} {b : Bool} {k : Option α} {r : α} (h : o_gd b k = some r) : k = some r := by
  unfold o_gd at h
  split at h
  · exact h
  · cases h
theorem oe_bd {α β : Type} {x : Option α} {P : α → Prop} {f : α → Option β} {r : β} (hx : So x P) (h : o_bd x f = some r) : ∃ q, x = some q ∧ P q ∧ f q = some r := by
  obtain ⟨q, e, p⟩ := hx
  rw [e] at h
  exact ⟨q, e, p, h⟩
theorem L8_fault {fu : Nat} {th sc wi ls le : Nat → Int32} : ∀ (n : Nat) (s : S_Mo) (li ne en be lf tu fo op : Nat → Int32) (r : A9), Mo_fault s ≠ 0 → Mod_compileAll_L8 fu th sc wi ls le n s li ne en be lf tu fo op = some r → Mo_fault r.1 ≠ 0
  | 0, s, li, ne, en, be, lf, tu, fo, op, r, _, h => by
    rw [Mod_compileAll_L8] at h
    cases h
  | n + 1, s, li, ne, en, be, lf, tu, fo, op, r, hs, h => by
    rw [Mod_compileAll_L8] at h
    by_cases c : Mo_open s ≤ 0
    · rw [if_pos c] at h
      cases h
      exact hs
    · rw [if_neg c, if_neg hs] at h
      cases h
      exact hs
def CS (fu : Nat) (th sc wi ls le : Nat → Int32) (used : Int32) (o : Nat) (li ne en be fo op : Nat → Int32) : Prop := ∃ (n : Nat) (s : S_Mo) (li' ne' en' be' lf' tu' fo' op' : Nat → Int32) (r : A9), (Mo_open s).toInt = (o : Int) ∧ Mo_used s = used ∧ Mo_fault s = 0 ∧ I_Mo s ∧ 0 ≤ (Mo_looked s).toInt ∧ (Mo_looked s).toInt ≤ 1001 ∧ A_MfoundOps fo' ∧ A_Mops op' ∧ FrOK o le li' ne' en' be' tu' ∧ (∀ f, f < o → li f = li' f ∧ ne f = ne' f ∧ en f = en' f ∧ be f = be' f) ∧ (∀ j, j < 4 * o → fo j = fo' j) ∧ (∀ k, k < 4 → op k = op' k) ∧ Mod_compileAll_L8 fu th sc wi ls le n s li' ne' en' be' lf' tu' fo' op' = some r ∧ Mo_fault r.1 = 0
theorem CS.congr {fu : Nat} {th sc wi ls le : Nat → Int32} {used : Int32} {o : Nat} {li ne en be fo op li' ne' en' be' fo' op' : Nat → Int32} (h : CS fu th sc wi ls le used o li ne en be fo op) (h1 : ∀ f, f < o → li' f = li f ∧ ne' f = ne f ∧ en' f = en f ∧ be' f = be f) (h2 : ∀ j, j < 4 * o → fo' j = fo j) (h3 : ∀ k, k < 4 → op' k = op k) : CS fu th sc wi ls le used o li' ne' en' be' fo' op' := by
  obtain ⟨n, s, a1, a2, a3, a4, a5, a6, a7, a8, r, c1, c2, c3, c4, c5, c6, c7, c8, c9, d1, d2, d3, d4, d5⟩ := h
  refine ⟨n, s, a1, a2, a3, a4, a5, a6, a7, a8, r, c1, c2, c3, c4, c5, c6, c7, c8, c9, fun f hf => ?_, fun j hj => (h2 j hj).trans (d2 j hj), fun k hk => (h3 k hk).trans (d3 k hk), d4, d5⟩
  obtain ⟨p1, p2, p3, p4⟩ := h1 f hf
  obtain ⟨q1, q2, q3, q4⟩ := d1 f hf
  exact ⟨p1.trans q1, p2.trans q2, p3.trans q3, p4.trans q4⟩
theorem cs_pop {fu : Nat} {th sc wi ls le : Nat → Int32} {used : Int32} {o : Nat} {li ne en be fo op : Nat → Int32} (hf : 12000 ≤ fu) (Ile : A_Mlengths le) (h : CS fu th sc wi ls le used (o + 1) li ne en be fo op) (e : (ne o).toInt = (en o).toInt) : CS fu th sc wi ls le used o li ne en be fo op ∧ ∀ k, k < 4 → op k = fo (4 * o + k) := by
  obtain ⟨n, s, a1, a2, a3, a4, a5, a6, a7, a8, r, c1, c2, c3, c4, c5, c6, c7, c8, c9, d1, d2, d3, d4, d5⟩ := h
  cases n with
  | zero => rw [Mod_compileAll_L8] at d4; cases d4
  | succ n =>
    have k0 : (0 : Int32).toInt = 0 := by decide
    have k1 : (1 : Int32).toInt = 1 := by decide
    have hop := I_Mo_open c4
    have eo := i_sub (a := Mo_open s) (b := 1) (by omega) (by omega)
    have i2 : (Mo_open s - 1).toNatClampNeg = o := by
      have := i_nat (a := Mo_open s - 1) (by omega)
      omega
    obtain ⟨p1, p2, p3, p4⟩ := d1 o (by omega)
    have b0 := Fq_b Ile (c9 o (by omega))
    rw [Mod_compileAll_L8, if_neg (by rw [i_le]; omega), if_pos c3] at d4
    have d4 := oe_gd (oe_gd d4)
    rw [i2, if_pos (by rw [← p2, ← p3]; exact i_eq.mpr e)] at d4
    obtain ⟨q, _, hq, d4⟩ := oe_bd (t_Mod_leavesOther hf (f := o) (by omega) (by omega)) d4
    by_cases cq : q = 0
    · rw [if_pos cq] at d4
      have hop2 := hq.2 (by rw [cq]; decide)
      refine ⟨⟨n, Mo_set_open s (Mo_open s - 1), a1, a2, a3, a4, a5, a6, a7, a8, r, by show (Mo_open s - 1).toInt = _; omega, c2, c3, I_Mo_set_open c4 (by omega), c5, c6, c7, c8, c9.pop, fun f hf => d1 f (by omega), fun j hj => d2 j (by omega), d3, d4, d5⟩, fun k hk => ?_⟩
      rw [d3 k hk, hop2 k hk, d2 (4 * o + k) (by omega)]
    · rw [if_neg cq] at d4
      obtain ⟨q16, _, _, d4⟩ := oe_bd (t_Mod_where hf (o := o) (by omega) (by omega)) d4
      rw [wrong_eq] at d4
      exact absurd d5 (L8_fault n (Mo_set_open (wr 4 q16 s) (Mo_open (wr 4 q16 s) - 1)) _ _ _ _ _ _ _ _ r (wr_ge (a0 := 4) (a1 := q16) (s := s) (by decide)) d4)
def DC (x : Int) : Prop := (0 ≤ x ∧ x ≤ 63) ∨ (100 ≤ x ∧ x ≤ 115) ∨ (216 ≤ x ∧ x ≤ 343) ∨ (400 ≤ x ∧ x ≤ 487) ∨ (501 ≤ x ∧ x ≤ 516) ∨ x = 520
def StepC (fu : Nat) (th sc wi ls le : Nat → Int32) (used : Int32) (o : Nat) (d : Int32) (li ne en be fo op : Nat → Int32) : Prop :=
  (d.toInt ≤ 63 ∧ EOK th wi used d op ∧ CS fu th sc wi ls le used (o + 1) li ne en be fo op) ∨
  (64 ≤ d.toInt ∧ d.toInt ≤ 115 ∧ CS fu th sc wi ls le used (o + 1 + 1) (upd li (o + 1) (d - 100)) (upd ne (o + 1) 0) (upd en (o + 1) (le (d - 100).toNatClampNeg)) (upd be (o + 1) 0) (fo4 fo (o + 1) op) op) ∨
  (216 ≤ d.toInt ∧ d.toInt ≤ 343 ∧ ∃ fr to : Int32, to.toInt = fr.toInt + (d.toInt - 200) / 16 ∧ to.toInt ≤ (en o).toInt ∧ (((d.toInt - 200) % 16 ≠ 0 ∧ fr.toInt = (ne o).toInt) ∨ ((d.toInt - 200) % 16 = 0 ∧ fr.toInt = (ne o).toInt + 1 ∧ (ls (24 * (li o) + (ne o)).toNatClampNeg).toInt ≤ 63 ∧ 0 ≤ fv th used (ls (24 * (li o) + (ne o)).toNatClampNeg))) ∧ CS fu th sc wi ls le used (o + 1 + 1) (upd li (o + 1) (li o)) (upd (upd ne o to) (o + 1) fr) (upd en (o + 1) to) (upd be (o + 1) fr) (fo4 fo (o + 1) op) op) ∨
  (400 ≤ d.toInt ∧ d.toInt ≤ 487 ∧ ∃ k b : Int32, Mod_operator d = some k ∧ Mod_begins d = some b ∧ CS fu th sc wi ls le used (o + 1) li ne en be fo (upd op k.toNatClampNeg b)) ∨
  (501 ≤ d.toInt ∧ CS fu th sc wi ls le used (o + 1) li ne en be fo op)
theorem cs_top {fu : Nat} {th sc wi ls le : Nat → Int32} {used : Int32} {o : Nat} {li ne en be fo op : Nat → Int32} (Ile : A_Mlengths le) (h : CS fu th sc wi ls le used (o + 1) li ne en be fo op) : o ≤ 78 ∧ 0 ≤ (be o).toInt ∧ (be o).toInt ≤ (ne o).toInt ∧ (ne o).toInt ≤ (en o).toInt ∧ (en o).toInt ≤ 24 ∧ 0 ≤ (li o).toInt ∧ (li o).toInt ≤ 16 := by
  obtain ⟨n, s, a1, a2, a3, a4, a5, a6, a7, a8, r, c1, c2, c3, c4, c5, c6, c7, c8, c9, d1, d2, d3, d4, d5⟩ := h
  obtain ⟨p1, p2, p3, p4⟩ := d1 o (by omega)
  have q := c9 o (by omega)
  have b0 := Fq_b Ile q
  obtain ⟨f1, f2, f3, f4, f5, f6, f7, f8⟩ := q
  rw [p1, p2, p3, p4]
  exact ⟨b0.1, f1, f2, f3, b0.2.1, f5, f6⟩
theorem cs_step {fu : Nat} {th sc wi ls le : Nat → Int32} {used : Int32} {o : Nat} {li ne en be fo op : Nat → Int32} (hf : 12000 ≤ fu) (Iw : A_Mwidths wi) (Is : A_Mscales sc) (Ils : A_Mlists ls) (Ile : A_Mlengths le) (h : CS fu th sc wi ls le used (o + 1) li ne en be fo op) (e : (ne o).toInt ≠ (en o).toInt) : StepC fu th sc wi ls le used o (ls (24 * li o + (ne o + 1) - 1).toNatClampNeg) li (upd ne o (ne o + 1)) en be fo op := by
  obtain ⟨n, s, a1, a2, a3, a4, a5, a6, a7, a8, r, c1, c2, c3, c4, c5, c6, c7, c8, c9, d1, d2, d3, d4, d5⟩ := h
  cases n with
  | zero => rw [Mod_compileAll_L8] at d4; cases d4
  | succ n =>
    have k0 : (0 : Int32).toInt = 0 := by decide
    have k1 : (1 : Int32).toInt = 1 := by decide
    have hop := I_Mo_open c4
    have eo := i_sub (a := Mo_open s) (b := 1) (by omega) (by omega)
    have i2 : (Mo_open s - 1).toNatClampNeg = o := by
      have := i_nat (a := Mo_open s - 1) (by omega)
      omega
    obtain ⟨p1, p2, p3, p4⟩ := d1 o (by omega)
    have q0 := c9 o (by omega)
    have b0 := Fq_b Ile q0
    obtain ⟨f1, f2, f3, f4, f5, f6, f7, f8⟩ := q0
    have ho : (Mo_open s).toInt = (o : Int) + 1 := by omega
    have hg : 0 ≤ (Mo_fault s).toInt := by rw [c3]; decide
    have en' : (a2 o).toInt ≠ (a3 o).toInt := by rw [← p2, ← p3]; exact e
    rw [Mod_compileAll_L8, if_neg (by rw [i_le]; omega), if_pos c3] at d4
    have d4 := oe_gd (oe_gd d4)
    rw [i2, if_neg (fun q => en' (i_eq.mp q))] at d4
    have d4 := oe_gd (oe_gd d4)
    unfold o_lt at d4
    obtain ⟨q8, _, _, d4⟩ := oe_bd (t_Mod_where hf (o := o) ho (by omega)) d4
    obtain ⟨q9, _, h9, d4⟩ := oe_bd (t_Mod_count c4 hg c5 c6) d4
    obtain ⟨g1, g2, g3, g4, g5, g6, g7⟩ := h9
    by_cases cq : q9.1 = 0
    · rw [if_pos cq] at d4
      have hz : Mo_fault q9.2 ≠ 0 := by
        rcases g7 with h | h
        · exact h.2
        · rw [h.1] at cq; exact absurd cq (by decide)
      exact absurd d5 (L8_fault n _ _ _ _ _ _ _ _ _ r hz d4)
    · rw [if_neg cq] at d4
      have hlk : (Mo_looked q9.2).toInt ≤ 1000 := by
        rcases g7 with h | h
        · exact absurd h.1 cq
        · exact h.2.2
      have d4 := oe_gd (oe_gd (oe_gd d4))
      rw [upd_at, ← p1, ← p2] at d4
      have e1 := i_add (a := a2 o) (b := 1) (by omega) (by omega)
      have F1 : FrOK (o + 1) le a1 (upd a2 o (ne o + 1)) a3 a4 a6 := c9.next (by rw [p2]; omega) (by rw [p2]; omega)
      have hd := A_Mlists_at Ils (24 * li o + (ne o + 1) - 1).toNatClampNeg
      generalize ls (24 * li o + (ne o + 1) - 1).toNatClampNeg = d at d4 hd ⊢
      have R : LookR q9.2 q9.2 a7 a8 := ⟨g1, KM.refl _, KW.refl _, g6, by omega, by omega, c7, c8⟩
      obtain ⟨q13, _, h13, d4⟩ := oe_bd (t_Mod_look hf Iw Is Ils Ile R (by omega) (by omega) (by rw [g4]; exact ho) F1 hd) d4
      obtain ⟨⟨r1, r2, r3, r4, r5, r6, r7, r8⟩, hc⟩ := h13
      by_cases hz : Mo_fault q13.1 = 0
      · obtain ⟨_, o', ho', hC⟩ := hc hz
        have hu : Mo_used q9.2 = used := g2.1.trans c2
        have hu2 : Mo_used q13.1 = used := r2.1.trans hu
        have agree : ∀ f, f < o + 1 → li f = a1 f ∧ upd ne o (ne o + 1) f = upd a2 o (ne o + 1) f ∧ en f = a3 f ∧ be f = a4 f := fun f hf => by
          obtain ⟨t1, t2, t3, t4⟩ := d1 f hf
          refine ⟨t1, ?_, t3, t4⟩
          unfold upd
          split
          · rfl
          · exact t2
        have eok : ∀ c : Int32, EOK th wi (Mo_used q9.2) c a8 → EOK th wi used c op := fun c hE => by
          rw [hu] at hE
          unfold EOK at hE ⊢
          rw [d3 0 (by omega)]
          exact hE
        have hn1 : upd a2 o (ne o + 1) o = ne o + 1 := upd_at _ _ _
        have hn2 : upd ne o (ne o + 1) o = ne o + 1 := upd_at _ _ _
        rcases hC with h | h | h | h | h
        · obtain ⟨w1, w2, e0, e1', e2', e3', e4', e5', e6', e7'⟩ := h
          rw [e1', e2', e3', e4', e5', e6', e7'] at d4
          refine Or.inl ⟨w1, eok d w2, n, q13.1, _, _, _, _, _, _, _, _, r, by omega, hu2, hz, r1, by omega, by omega, c7, c8, F1, agree, d2, d3, d4, d5⟩
        · obtain ⟨w1, w2, w3, e0, e1', e2', e3', e4', e5', e6', e7'⟩ := h
          rw [e1', e2', e3', e4', e5', e6', e7'] at d4
          have k100 : (100 : Int32).toInt = 100 := by decide
          have es := i_sub (a := d) (b := 100) (by omega) (by omega)
          refine Or.inr (Or.inl ⟨w1, w2, n, q13.1, _, _, _, _, _, _, _, _, r, by omega, hu2, hz, r1, by omega, by omega, fo4_A c7 c8, c8, F1.seq Ile w3 (by omega) (by omega) (by decide), fun f hf => ?_, fun j hj => ?_, d3, d4, d5⟩)
          · by_cases ef : f = o + 1
            · subst ef
              rw [upd_at, upd_at, upd_at, upd_at, upd_at, upd_at, upd_at, upd_at]
              exact ⟨rfl, rfl, rfl, rfl⟩
            · rw [upd_ne ef, upd_ne ef, upd_ne ef, upd_ne ef, upd_ne ef, upd_ne ef, upd_ne ef, upd_ne ef]
              exact agree f (by omega)
          · by_cases hj2 : j < 4 * (o + 1)
            · rw [fo4_ne hj2, fo4_ne hj2]
              exact d2 j hj2
            · obtain ⟨k, rfl⟩ : ∃ k, j = 4 * (o + 1) + k := ⟨j - 4 * (o + 1), by omega⟩
              rw [fo4_at (by omega), fo4_at (by omega)]
              exact d3 k (by omega)
        · obtain ⟨w1, w2, fr, to, e0, x1, x2, x3, e1', e2', e3', e4', e5', e6', e7'⟩ := h
          rw [e1', e2', e3', e4', e5', e6', e7'] at d4
          rw [hn1, ← p1, hu] at x3
          refine Or.inr (Or.inr (Or.inl ⟨w1, w2, fr, to, x1, by rw [p3]; exact x2, by rw [hn2]; exact x3, n, q13.1, _, _, _, _, _, _, _, _, r, by omega, hu2, hz, r1, by omega, by omega, fo4_A c7 c8, c8, F1.rep Ile (by rw [p2] at x3; omega) (by omega) (by omega) (by decide), fun f hf => ?_, fun j hj => ?_, d3, d4, d5⟩))
          · by_cases ef : f = o + 1
            · subst ef
              rw [upd_at, upd_at, upd_at, upd_at, upd_at, upd_at, upd_at, upd_at]
              exact ⟨p1, rfl, rfl, rfl⟩
            · rw [upd_ne ef, upd_ne ef, upd_ne ef, upd_ne ef, upd_ne ef, upd_ne ef, upd_ne ef, upd_ne ef]
              obtain ⟨t1, t2, t3, t4⟩ := agree f (by omega)
              refine ⟨t1, ?_, t3, t4⟩
              by_cases eg : f = o
              · subst eg
                rw [upd_at, upd_at]
              · exact (upd_ne eg).trans (t2.trans (upd_ne eg).symm)
          · by_cases hj2 : j < 4 * (o + 1)
            · rw [fo4_ne hj2, fo4_ne hj2]
              exact d2 j hj2
            · obtain ⟨k, rfl⟩ : ∃ k, j = 4 * (o + 1) + k := ⟨j - 4 * (o + 1), by omega⟩
              rw [fo4_at (by omega), fo4_at (by omega)]
              exact d3 k (by omega)
        · obtain ⟨w1, w2, k, b, y1, y2, e0, e1', e2', e3', e4', e5', e6', e7'⟩ := h
          have hA : A_Mops (upd a8 k.toNatClampNeg b) := by rw [← e7']; exact r8
          rw [e1', e2', e3', e4', e5', e6', e7'] at d4
          refine Or.inr (Or.inr (Or.inr (Or.inl ⟨w1, w2, k, b, y1, y2, n, q13.1, _, _, _, _, _, _, _, _, r, by omega, hu2, hz, r1, by omega, by omega, c7, hA, F1, agree, d2, fun j hj => ?_, d4, d5⟩)))
          unfold upd
          split
          · rfl
          · exact d3 j hj
        · obtain ⟨w1, e0, e1', e2', e3', e4', e5', e6', e7'⟩ := h
          rw [e1', e2', e3', e4', e5', e6', e7'] at d4
          exact Or.inr (Or.inr (Or.inr (Or.inr ⟨w1, n, q13.1, _, _, _, _, _, _, _, _, r, by omega, hu2, hz, r1, by omega, by omega, c7, c8, F1, agree, d2, d3, d4, d5⟩)))
      · exact absurd d5 (L8_fault n _ _ _ _ _ _ _ _ _ r hz d4)
-- compiling as a whole: its frames at the start are those of a walk
def CompOK (fu : Nat) (th sc wi ls le : Nat → Int32) (used : Int32) : Prop := ∀ li ne en be fo op : Nat → Int32, CS fu th sc wi ls le used 1 (upd li 0 16) (upd ne 0 0) (upd en 0 (le 16)) (upd be 0 0) (fo4 fo 0 (op0 op)) (op0 op)
theorem t_Mod_compileAll {fu : Nat} {th sc wi ls le li ne en be lf tu fo op : Nat → Int32} {s : S_Mo} (hf : 12000 ≤ fu) (Iw : A_Mwidths wi) (Is : A_Mscales sc) (Ils : A_Mlists ls) (Ile : A_Mlengths le) (I : I_Mo s) (Ifo : A_MfoundOps fo) (Iop : A_Mops op) : So (Mod_compileAll fu th sc wi ls le s li ne en be lf tu fo op) (fun r => I_Mo r.1 ∧ KM r.1 s ∧ 0 ≤ (Mo_fault r.1).toInt ∧ A_MfoundOps r.2.2.2.2.2.2.2.1 ∧ A_Mops r.2.2.2.2.2.2.2.2 ∧ (Mo_fault r.1 = 0 → CompOK fu th sc wi ls le (Mo_used s))) := by
  unfold Mod_compileAll
  have ef : Mod_fresh s = some (Mo_set_place (Mo_set_fault s 0) (-1)) := rfl
  refine So.bde ef ?_
  refine So.bde (start_eq hf) ?_
  have hl16 := A_Mlengths_at Ile 16
  have k16 : (16 : Int32).toNatClampNeg = 16 := by decide
  have F : FrOK 1 le (upd li 0 16) (upd ne 0 0) (upd en 0 (le 16)) (upd be 0 0) (upd tu 0 (-1)) := fun f hf => by
    have : f = 0 := by omega
    subst this
    unfold Fq
    rw [upd_at, upd_at, upd_at, upd_at, k16]
    exact ⟨by decide, by decide, hl16.1, by omega, by decide, by decide, Nat.zero_le _, Or.inl ⟨rfl, by decide⟩⟩
  have I1 : I_Mo (Mo_set_open (s0 (Mo_set_place (Mo_set_fault s 0) (-1))) (0 + 1)) := I_Mo_set_open (I_Mo_set_looked (I_Mo_set_open (I_Mo_set_place (I_Mo_set_fault I)) (by decide))) (by decide)
  have K1 : KM (Mo_set_open (s0 (Mo_set_place (Mo_set_fault s 0) (-1))) (0 + 1)) s := KM.refl _
  have Af : A_MfoundOps (fo4 fo 0 (op0 op)) := fo4_A Ifo (op0_A Iop)
  have k0 : (0 : Int32).toInt = 0 := by decide
  have hgz : 0 ≤ (Mo_fault (Mo_set_open (s0 (Mo_set_place (Mo_set_fault s 0) (-1))) (0 + 1))).toInt := by show 0 ≤ (0 : Int32).toInt; decide
  have hoz : (Mo_open (Mo_set_open (s0 (Mo_set_place (Mo_set_fault s 0) (-1))) (0 + 1))).toInt = ((1 : Nat) : Int) := by show (0 + 1 : Int32).toInt = 1; decide
  have hlz : (Mo_looked (Mo_set_open (s0 (Mo_set_place (Mo_set_fault s 0) (-1))) (0 + 1))).toInt = 0 := by show (0 : Int32).toInt = 0; decide
  obtain ⟨r, er, hr⟩ := t_comp_L hf Iw Is Ils Ile s fu (Mo_set_open (s0 (Mo_set_place (Mo_set_fault s 0) (-1))) (0 + 1)) (upd li 0 16) (upd ne 0 0) (upd en 0 (le 16)) (upd be 0 0) (upd lf 0 1) (upd tu 0 (-1)) (fo4 fo 0 (op0 op)) (op0 op) I1 K1 hgz Af (op0_A Iop) (by omega) (fun _ => ⟨1, hoz, F, by omega, by omega, by omega⟩)
  refine ⟨r, er, hr.1, hr.2.1, hr.2.2.1, hr.2.2.2.1, hr.2.2.2.2, fun e => ?_⟩
  intro li2 ne2 en2 be2 fo2 op2
  refine ⟨fu, _, _, _, _, _, _, _, _, _, r, hoz, rfl, rfl, I1, by omega, by omega, Af, op0_A Iop, F, fun f hf => ?_, fun j hj => ?_, fun k hk => ?_, er, e⟩
  · have : f = 0 := by omega
    subst this
    rw [upd_at, upd_at, upd_at, upd_at, upd_at, upd_at, upd_at, upd_at]
    exact ⟨rfl, rfl, rfl, rfl⟩
  · obtain ⟨k, rfl⟩ : ∃ k, j = 4 * 0 + k := ⟨j, by omega⟩
    rw [fo4_at (by omega), fo4_at (by omega), op0_at (by omega), op0_at (by omega)]
  · rw [op0_at hk, op0_at hk]

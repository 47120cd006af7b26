-- the two walks beside each other
abbrev QC : Type := Int64 × S_Mo × (Nat → Int64) × (Nat → Int32) × (Nat → Int32) × (Nat → Int32) × (Nat → Int32) × (Nat → Int32) × (Nat → Int32) × (Nat → Int64)
abbrev QE : Type := S_Mo × (Nat → Int64) × (Nat → Int32) × (Nat → Int32) × (Nat → Int32) × (Nat → Int32) × (Nat → Int32) × (Nat → Int32) × (Nat → Int64) × (Nat → Int32)
def KA (a b : S_Mo) : Prop := Mo_at a = Mo_at b ∧ Mo_many a = Mo_many b ∧ Mo_mode a = Mo_mode b ∧ Mo_subset a = Mo_subset b ∧ Mo_subsets a = Mo_subsets b
def FdE (Fl : S_Fld) (r : A19) : Prop := FdR Fl r.1 r.2.2.2.2.2.2.2.2.2.2.1 r.2.2.2.2.2.2.2.2.2.2.2.1 r.2.2.2.2.2.2.2.2.2.2.2.2.1 r.2.2.2.2.2.2.2.2.2.2.2.2.2.1 r.2.2.2.2.2.2.2.2.2.2.2.2.2.2.1 r.2.2.2.2.2.2.2.2.2.2.2.2.2.2.2.1 r.2.2.2.2.2.2.2.2.2.2.2.2.2.2.2.2.1
abbrev Cst : Type := Nat × S_Tab × S_Prog × (Nat → Int32) × (Nat → Int32) × (Nat → Int32) × (Nat → Int32) × (Nat → Int32) × (Nat → Int32) × (Nat → Int64) × (Nat → Int32) × S_Mo × A19
abbrev Cst.fu (c : Cst) : Nat := c.1
abbrev Cst.t (c : Cst) : S_Tab := c.2.1
abbrev Cst.P (c : Cst) : S_Prog := c.2.2.1
abbrev Cst.th (c : Cst) : Nat → Int32 := c.2.2.2.1
abbrev Cst.sc (c : Cst) : Nat → Int32 := c.2.2.2.2.1
abbrev Cst.rf (c : Cst) : Nat → Int32 := c.2.2.2.2.2.1
abbrev Cst.wi (c : Cst) : Nat → Int32 := c.2.2.2.2.2.2.1
abbrev Cst.ls (c : Cst) : Nat → Int32 := c.2.2.2.2.2.2.2.1
abbrev Cst.le (c : Cst) : Nat → Int32 := c.2.2.2.2.2.2.2.2.1
abbrev Cst.va (c : Cst) : Nat → Int64 := c.2.2.2.2.2.2.2.2.2.1
abbrev Cst.bi (c : Cst) : Nat → Int32 := c.2.2.2.2.2.2.2.2.2.2.1
abbrev Cst.z (c : Cst) : S_Mo := c.2.2.2.2.2.2.2.2.2.2.2.1
abbrev Cst.r (c : Cst) : A19 := c.2.2.2.2.2.2.2.2.2.2.2.2
def Cok (c : Cst) : Prop := 12000 ≤ c.fu ∧ I_Tab c.t ∧ I_Prog c.P ∧ TbR c.t (Mo_used c.z) c.th c.sc c.rf c.wi c.ls c.le ∧ A_Mwidths c.wi ∧ A_Mscales c.sc ∧ A_Mlists c.ls ∧ A_Mlengths c.le ∧ Rfb c.rf
def RunL (c : Cst) (n : Nat) (s : S_Mo) (rd : Nat → Int64) (li ne en be lf tu fo op ki co wd sca lk rp : Nat → Int32) (ba : Nat → Int64) (ea pa : Nat → Int32) : Prop := WSt c.fu c.th c.sc c.wi c.ls c.le c.z s li ne en be lf fo op wd ea pa ∧ Mod_walk_L34 c.fu c.th c.sc c.rf c.wi c.ls c.le c.va c.bi n s rd li ne en be lf tu fo op ki co wd sca lk rp ba ea pa = some c.r
-- at a turn of the loop; behind a quality field; among bits
def Pend (c : Cst) (n : Nat) (W : S_Walk) (s : S_Mo) (rd : Nat → Int64) (li ne en be lf tu fo op ki co wd sca lk rp : Nat → Int32) (ba : Nat → Int64) (ea pa : Nat → Int32) : Prop := (Walk_dueKind W = (-1) ∧ RunL c n s rd li ne en be lf tu fo op ki co wd sca lk rp ba ea pa) ∨ (Walk_dueKind W = 0 ∧ (0 ≤ (Walk_dueCode W).toInt ∧ (Walk_dueCode W).toInt ≤ 63) ∧ EOK c.th c.wi (Mo_used c.z) (Walk_dueCode W) op ∧ ∃ (q1 : Int32) (w : QE), Mod_force c.fu s c.th (Walk_dueCode W) = some q1 ∧ Mod_walkElement_j38 c.fu c.th c.sc c.rf c.wi c.va tu op c.bi (Walk_dueCode W) q1 s rd ki co wd sca lk rp ba ea = some w ∧ RunL c n w.1 w.2.1 li ne en be lf tu fo op w.2.2.1 w.2.2.2.1 w.2.2.2.2.1 w.2.2.2.2.2.1 w.2.2.2.2.2.2.1 w.2.2.2.2.2.2.2.1 w.2.2.2.2.2.2.2.2.1 w.2.2.2.2.2.2.2.2.2 pa) ∨ (Walk_dueKind W = 3 ∧ ∃ (x1 x2 : Int32) (m : Nat) (w : QE), Walk_dueBits W = x1 - x2 ∧ 0 ≤ x2.toInt ∧ x2.toInt < x1.toInt ∧ x1.toInt ≤ 16 ∧ x1.toInt ≤ (Mo_elements s).toInt ∧ (Mo_pointed s).toInt ≤ x2.toInt ∧ Mod_walkBits_L30 c.fu c.va tu ea c.bi x1 m x2 s rd ki co wd sca lk rp ba pa = some w ∧ RunL c n w.1 w.2.1 li ne en be lf tu fo op w.2.2.1 w.2.2.2.1 w.2.2.2.2.1 w.2.2.2.2.2.1 w.2.2.2.2.2.2.1 w.2.2.2.2.2.2.2.1 w.2.2.2.2.2.2.2.2.1 ea w.2.2.2.2.2.2.2.2.2)
def SY (c : Cst) (n : Nat) (W : S_Walk) (Fl : S_Fld) (L : S_Lps) (s : S_Mo) (rd : Nat → Int64) : Prop := ∃ (li ne en be lf tu fo op ki co wd sca lk rp : Nat → Int32) (ba : Nat → Int64) (ea pa : Nat → Int32) (o a : Nat), WB c.t c.P W Fl L s li ne en be lf tu op ki co wd sca lk rp ba ea pa o a ∧ Walk_countedEnd W = (-1) ∧ WI s ∧ WK s c.z ∧ A_Mwidth wd ∧ Pend c n W s rd li ne en be lf tu fo op ki co wd sca lk rp ba ea pa
-- a field has been given: the reference stands before its Mod_come
def FE (c : Cst) (n : Nat) (W : S_Walk) (Fl : S_Fld) (L : S_Lps) (s : S_Mo) (rd : Nat → Int64) : Prop := ∃ (i : Nat) (a0 a1 a2 a3 : Int32) (a4 : Int64) (a5 rep : Int32) (tu ki co wd sca lk rp : Nat → Int32) (ba : Nat → Int64) (q : QC) (Fl0 : S_Fld), (Mo_fields s).toInt = (i : Int) ∧ i < 100 ∧ Mo_fault s = 0 ∧ WI s ∧ A_Mwidth wd ∧ ((0 ≤ a2.toInt ∧ a2.toInt ≤ 32) ∧ (a0 = 3 → a4 = 0) ∧ BB a4 ∧ 1 ≤ a2.toInt) ∧ Mod_come c.fu c.va tu c.bi a0 a1 a2 a3 a4 a5 s rd ki co wd sca lk rp ba = some q ∧ FdR Fl0 s ki co wd sca lk rp ba ∧ Mod_repetition c.fu s tu = some rep ∧ Fl = gvF Fl0 i a0 a1 a2 a3 a4 a5 rep ∧ Walk_fault W = 0 ∧ (¬ Mo_fault q.2.1 = 0 → ¬ Mo_fault c.r.1 = 0 ∧ FdE Fl c.r) ∧ (Mo_fault q.2.1 = 0 → okv a0 q.1 → ∃ (W' : S_Walk) (L' : S_Lps) (s' : S_Mo), Walk_settle Fl q.1 W L = some (W', L') ∧ KA s' q.2.1 ∧ SY c n W' Fl L' s' q.2.2.1)
-- the end of a walk, with or without a fault
def EndR (c : Cst) (W : S_Walk) (Fl : S_Fld) (s : S_Mo) (rd : Nat → Int64) : Prop := FdE Fl c.r ∧ ((Walk_fault W = 0 ∧ Mo_fault c.r.1 = 0 ∧ KA c.r.1 s ∧ c.r.2.1 = rd) ∨ (¬ Walk_fault W = 0 ∧ ¬ Mo_fault c.r.1 = 0))
theorem KA.refl (a : S_Mo) : KA a a := ⟨rfl, rfl, rfl, rfl, rfl⟩
theorem KA.trans {a b d : S_Mo} (h : KA a b) (g : KA b d) : KA a d := ⟨h.1.trans g.1, h.2.1.trans g.2.1, h.2.2.1.trans g.2.2.1, h.2.2.2.1.trans g.2.2.2.1, h.2.2.2.2.trans g.2.2.2.2⟩
-- the reference's loop leaves a faulty state as it is
theorem run_f {fu n : Nat} {th sc rf wi ls le : Nat → Int32} {va : Nat → Int64} {bi : Nat → Int32} {s : S_Mo} {rd : Nat → Int64} {li ne en be lf tu fo op ki co wd sca lk rp : Nat → Int32} {ba : Nat → Int64} {ea pa : Nat → Int32} {r : A19} (hz : ¬ Mo_fault s = 0) (h : Mod_walk_L34 fu th sc rf wi ls le va bi n s rd li ne en be lf tu fo op ki co wd sca lk rp ba ea pa = some r) : r = (s, rd, li, ne, en, be, lf, tu, fo, op, ki, co, wd, sca, lk, rp, ba, ea, pa) := by
  cases n with
  | zero =>
    rw [Mod_walk_L34] at h
    cases h
  | succ n =>
    rw [Mod_walk_L34] at h
    by_cases c1 : Mo_open s ≤ 0
    · rw [if_pos c1] at h
      exact (Option.some.inj h).symm
    · rw [if_neg c1, if_neg hz] at h
      exact (Option.some.inj h).symm
theorem run_0 {fu n : Nat} {th sc rf wi ls le : Nat → Int32} {va : Nat → Int64} {bi : Nat → Int32} {s : S_Mo} {rd : Nat → Int64} {li ne en be lf tu fo op ki co wd sca lk rp : Nat → Int32} {ba : Nat → Int64} {ea pa : Nat → Int32} {r : A19} (hz : Mo_open s = 0) (h : Mod_walk_L34 fu th sc rf wi ls le va bi n s rd li ne en be lf tu fo op ki co wd sca lk rp ba ea pa = some r) : r = (s, rd, li, ne, en, be, lf, tu, fo, op, ki, co, wd, sca, lk, rp, ba, ea, pa) := by
  cases n with
  | zero =>
    rw [Mod_walk_L34] at h
    cases h
  | succ n =>
    rw [Mod_walk_L34] at h
    have c1 : Mo_open s ≤ 0 := by rw [hz]; decide
    rw [if_pos c1] at h
    exact (Option.some.inj h).symm

-- REPEAT with a count, in the reference
theorem ct_inv {fu o : Nat} {th sc rf wi ls le : Nat → Int32} {va : Nat → Int64} {bi : Nat → Int32} {s : S_Mo} {rd : Nat → Int64} {li ne en be lf tu fo op ki co wd sca lk rp : Nat → Int32} {ba : Nat → Int64} {ea pa : Nat → Int32} {d : Int32} {w : A19} (hk : 216 ≤ d.toInt ∧ d.toInt ≤ 343) (hm : (d.toInt - 200) % 16 = 0) (ho : (Mo_open s - 1).toNatClampNeg = o) (h : Mod_walkOne fu th sc rf wi ls le va bi d s rd li ne en be lf tu fo op ki co wd sca lk rp ba ea pa = some w) : ∃ (k : Int32) (s1 : S_Mo), Mod_comes s = some (k, s1) ∧ ((k = 0 ∧ Mod_walkOne_j162 fu th sc rf wi ls le va bi (Mo_open s - 1) ((d - 200) / 16) ((d - 200) - (d - 200) / 16 * 16) s1 rd li ne en be lf tu fo op ki co wd sca lk rp ba ea pa = some w) ∨ (¬ k = 0 ∧ ∃ (q16 : Int32) (q : QC), Mod_force fu s1 th (ls (24 * li o + ne o).toNatClampNeg) = some q16 ∧ Mod_come fu va tu bi 2 (ls (24 * li o + ne o).toNatClampNeg) (wi q16.toNatClampNeg) (sc q16.toNatClampNeg) (rf q16.toNatClampNeg).toInt64 (-1) s1 rd ki co wd sca lk rp ba = some q ∧ Mod_walkOne_j162 fu th sc rf wi ls le va bi (Mo_open s - 1) ((d - 200) / 16) q.1.toInt32 q.2.1 q.2.2.1 li (upd ne o (ne o + 1)) en be lf tu fo op q.2.2.2.1 q.2.2.2.2.1 q.2.2.2.2.2.1 q.2.2.2.2.2.2.1 q.2.2.2.2.2.2.2.1 q.2.2.2.2.2.2.2.2.1 q.2.2.2.2.2.2.2.2.2 ea pa = some w)) := by
  have k0 : (0 : Int32).toInt = 0 := by decide
  have k63 : (63 : Int32).toInt = 63 := by decide
  have k115 : (115 : Int32).toInt = 115 := by decide
  have lx := len_x hk.1 hk.2
  have ct : (d - 200) - (d - 200) / 16 * 16 = 0 := i_eq.mpr (by rw [lx.2, hm, k0])
  clear lx
  have c1 : (63 : Int32) < d := by rw [i_lt]; omega
  have c2 : (115 : Int32) < d := by rw [i_lt]; omega
  obtain ⟨q3, e3, h3⟩ := t_Mod_isRepeat (a0 := d)
  have n3 : ¬ q3 = 0 := by rw [i_eq]; omega
  unfold Mod_walkOne o_lt at h
  rw [if_pos c1, if_pos c2, bd_s e3, if_neg n3, if_pos ct] at h
  obtain ⟨⟨k, s1⟩, e1, h⟩ := oi_bd h
  refine ⟨k, s1, e1, ?_⟩
  dsimp only at h
  by_cases ck : k = 0
  · rw [if_pos ck] at h
    exact Or.inl ⟨ck, h⟩
  · rw [if_neg ck, ho] at h
    have h := oe_gd (oe_gd (oe_gd h))
    obtain ⟨q16, e16, h⟩ := oi_bd h
    have h := oe_gd (oe_gd (oe_gd h))
    obtain ⟨q, eq, h⟩ := oi_bd h
    have h := oe_gd (oe_gd h)
    exact Or.inr ⟨ck, q16, q, e16, eq, h⟩
-- a walk over a faulty state adds nothing
theorem j162_f {fu : Nat} {th sc rf wi ls le : Nat → Int32} {va : Nat → Int64} {bi : Nat → Int32} {s : S_Mo} {rd : Nat → Int64} {li ne en be lf tu fo op ki co wd sca lk rp : Nat → Int32} {ba : Nat → Int64} {ea pa : Nat → Int32} {x2 x3 x4 : Int32} {w : A19} (hz : ¬ Mo_fault s = 0) (h : Mod_walkOne_j162 fu th sc rf wi ls le va bi x2 x3 x4 s rd li ne en be lf tu fo op ki co wd sca lk rp ba ea pa = some w) : w = (s, rd, li, upd ne x2.toNatClampNeg (ne x2.toNatClampNeg + x3), en, be, lf, tu, fo, op, ki, co, wd, sca, lk, rp, ba, ea, pa) := by
  unfold Mod_walkOne_j162 o_lt at h
  have h := oe_gd (oe_gd h)
  dsimp only at h
  rw [if_neg hz] at h
  exact (Option.some.inj h).symm

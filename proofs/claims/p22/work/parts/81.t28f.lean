-- the grid: the law's cases
theorem RGd.keep {g : S_Grd} {s s' : S_Mo} {po pk cs : Nat → Int64} {ends : Nat → Int32} (R : RGd g s po pk cs ends) (h1 : (Mo_codes s').toInt = (Mo_codes s).toInt) (h2 : (Mo_groups s').toInt = (Mo_groups s).toInt) : RGd g s' po pk cs ends := by
  have e1 : Mo_codes s' = Mo_codes s := i_eq.mpr h1
  have e2 : Mo_groups s' = Mo_groups s := i_eq.mpr h2
  unfold RGd at *
  rw [e1, e2]
  exact R
theorem rg_init {g : S_Grd} {s : S_Mo} {po pk cs : Nat → Int64} {ends : Nat → Int32} (h : GZ g) (hm : Mo_codes s = (-1)) (hp : ∀ j, j < 64 → po j = (-9000000000000000000) ∧ pk j = (-9000000000000000000)) : RGd g s po pk cs ends := by
  obtain ⟨a, b, c, d⟩ := h
  refine ⟨fun j hj => ⟨(a j hj).1.trans (hp j hj).1.symm, Or.inl (hp j hj).1⟩, fun j hj => (a j hj).2.trans (hp j hj).2.symm, b.trans hm.symm, Or.inl ⟨by rw [hm]; decide, c, d⟩⟩
theorem c_point {sX : S_X} {g : S_Grd} {s : S_Mo} {po pk cs : Nat → Int64} {ends : Nat → Int32} {a0 : Int32} {a1 : Int64} (R : RGd g s po pk cs ends) : ∃ (q : Int32 × S_Grd) (p : S_Mo × (Nat → Int64)), X_point sX a0 a1 g = some q ∧ Mod_point a0 a1 s po = some p ∧ RGd q.2 p.1 p.2 pk cs ends := by
  have k0 : (0 : Int32).toInt = 0 := by decide
  have k63 : (63 : Int32).toInt = 63 := by decide
  have k64 : (64 : Int32).toInt = 64 := by decide
  have l1 : ((-2000000000) : Int64).toInt = -2000000000 := by decide
  have l2 : (2000000000 : Int64).toInt = 2000000000 := by decide
  have bad : ∀ t : Int32, ¬ t = 0 → Mod_point_j44 a0 a1 t s po = some (Mo_set_thrown s t, po) := by
    intro t ht
    unfold Mod_point_j44
    show (if t = 0 then _ else _) = _
    rw [if_neg ht]
  unfold X_point Mod_point
  by_cases c1 : a0 < 0
  · rw [if_pos c1, if_pos c1]
    exact ⟨_, _, rfl, bad 1 (by decide), R⟩
  rw [if_neg c1, if_neg c1]
  rw [i_lt] at c1
  by_cases c2 : a0 < 64
  · have c2' : a0 ≤ 63 := by rw [i_le]; rw [i_lt] at c2; omega
    rw [if_pos c2, if_pos c2']
    rw [i_lt] at c2
    have gi : o_in a0 64 = true := i_in.mpr (by omega)
    have okp : ∀ t : Int32, t = 0 → Mod_point_j44 a0 a1 t s po = some (Mo_set_thrown s t, vp_updL po a0.toNatClampNeg a1) := by
      intro t ht
      unfold Mod_point_j44
      show (if t = 0 then o_gd (o_in a0 64) _ else _) = _
      rw [if_pos ht, gd_t gi]
      rfl
    have good : (a1 = (-9000000000000000000) ∨ (-2000000000 ≤ a1.toInt ∧ a1.toInt ≤ 2000000000)) → ∃ (q : Int32 × S_Grd) (p : S_Mo × (Nat → Int64)), X_point_j56 sX a0 a1 g = some q ∧ Mod_point_j43 a0 a1 s po = some p ∧ RGd q.2 p.1 p.2 pk cs ends := by
      intro hr
      refine ⟨(0, Grd_put_points g a0.toNatClampNeg a1), (Mo_set_thrown s 0, vp_updL po a0.toNatClampNeg a1), ?_, ?_, ?_⟩
      · unfold X_point_j56
        rw [gd_t gi]
        rfl
      · unfold Mod_point_j43
        exact okp 0 rfl
      · obtain ⟨G, r2, r3, r4⟩ := R
        refine ⟨fun j hj => ?_, r2, r3, r4⟩
        show vp_updL (Grd_points g) a0.toNatClampNeg a1 j = vp_updL po a0.toNatClampNeg a1 j ∧ _
        by_cases ej : j = a0.toNatClampNeg
        · rw [ej]
          show _ ∧ (vp_updL po a0.toNatClampNeg a1 a0.toNatClampNeg = (-9000000000000000000) ∨ (-2000000000 ≤ (vp_updL po a0.toNatClampNeg a1 a0.toNatClampNeg).toInt ∧ (vp_updL po a0.toNatClampNeg a1 a0.toNatClampNeg).toInt ≤ 2000000000))
          rw [updL_at, updL_at]
          exact ⟨rfl, hr⟩
        · show _ ∧ (vp_updL po a0.toNatClampNeg a1 j = (-9000000000000000000) ∨ (-2000000000 ≤ (vp_updL po a0.toNatClampNeg a1 j).toInt ∧ (vp_updL po a0.toNatClampNeg a1 j).toInt ≤ 2000000000))
          rw [updL_ne ej, updL_ne ej]
          exact G j hj
    by_cases c3 : a1 = (-9000000000000000000)
    · rw [if_pos c3, if_pos c3]
      exact good (Or.inl c3)
    rw [if_neg c3, if_neg c3]
    by_cases c4 : a1 < (-2000000000)
    · rw [if_pos c4, if_pos c4]
      exact ⟨_, _, rfl, bad 2 (by decide), R⟩
    rw [if_neg c4, if_neg c4]
    by_cases c5 : a1 ≤ 2000000000
    · rw [if_pos c5, if_pos c5]
      refine good (Or.inr ?_)
      rw [i64_lt] at c4
      rw [i64_le] at c5
      omega
    · rw [if_neg c5, if_neg c5]
      exact ⟨_, _, rfl, bad 2 (by decide), R⟩
  · have c2' : ¬ a0 ≤ 63 := by rw [i_le]; rw [i_lt] at c2; omega
    rw [if_neg c2, if_neg c2']
    exact ⟨_, _, rfl, bad 1 (by decide), R⟩
theorem l_point {sX : S_X} {a1 : Int32} {a2 : Int64} {g : S_Grd} {q : Int32 × S_Grd} (h : Law_point sX a1 a2 g = some q) : ∃ p, X_point sX a1 a2 g = some p ∧ q.2 = p.2 := by
  unfold Law_point at h
  obtain ⟨p, e, h⟩ := oi_bd h
  refine ⟨p, e, ?_⟩
  split at h
  · cases h; rfl
  · split at h
    · cases h; rfl
    · split at h
      · cases h; rfl
      · cases h
theorem rg_c17 {fu L : Nat} {xs : Nat → Int32} {sX : S_X} {x4 : Int32} {g : S_Grd} {s : S_Mo} {po pk cs : Nat → Int64} {ends : Nat → Int32} {r : S_Grd × S_Mo × (Nat → Int64)} (h : La_c17 fu xs L sX x4 g s po = some r) (R : RGd g s po pk cs ends) : RGd r.1 r.2.1 r.2.2 pk cs ends := by
  unfold La_c17 at h
  have h := oe_gd (oe_gd (oe_gd h))
  obtain ⟨q, e, h⟩ := oi_bd h
  have h := oe_gd (oe_gd (oe_gd h))
  obtain ⟨p, f, h⟩ := oi_bd h
  obtain ⟨u, eu, e2⟩ := l_point e
  obtain ⟨q', p', eq', ep', R'⟩ := c_point (sX := sX) R
  rw [eu] at eq'
  rw [f] at ep'
  cases eq'
  cases ep'
  cases h
  show RGd q.2 p.1 p.2 pk cs ends
  rw [e2]
  exact R'
theorem l_pack {fu : Nat} {sX : S_X} {a : Int32} {g : S_Grd} {w : Nat → Int64} {q : Int32 × Int32 × S_Grd} (e : X_pack fu sX a g = some q) (h : q.1 = 0 ∨ q.1 = 1 ∨ q.1 = 2) : Law_pack fu 1 sX a g w = some (q.1, q.2.2, if q.1 = 0 then vp_updL w (0 : Int32).toNatClampNeg (q.2.1.toInt64) else w) := by
  unfold Law_pack
  rw [e]
  show (if q.1 = 0 then _ else _) = _
  rcases h with c | c | c
  · rw [if_pos c, if_pos c, c]
    rfl
  · have n0 : ¬ q.1 = 0 := by rw [c]; decide
    rw [if_neg n0, if_pos c, if_neg n0, c]
  · have n0 : ¬ q.1 = 0 := by rw [c]; decide
    have n1 : ¬ q.1 = 1 := by rw [c]; decide
    rw [if_neg n0, if_neg n1, if_pos c, if_neg n0, c]

theorem rg_c18 {fu L : Nat} {xs : Nat → Int32} {sX : S_X} {x4 : Int32} {g : S_Grd} {s : S_Mo} {po pk cf cs : Nat → Int64} {cut ends : Nat → Int32} {w : Nat → Int64} {r : S_Grd × S_Mo × (Nat → Int64) × (Nat → Int64) × (Nat → Int64) × (Nat → Int32) × (Nat → Int32) × (Nat → Int64)} (hf : 45000 ≤ fu) (h : La_c18 fu xs L sX po x4 g s pk cf cs cut ends w = some r) (R : RGd g s po pk cs ends) : RGd r.1 r.2.1 po r.2.2.1 r.2.2.2.2.1 r.2.2.2.2.2.2.1 := by
  unfold La_c18 at h
  obtain ⟨q, p, eq, ep, _, h012, _, R'⟩ := c_pack (fu := fu) (sX := sX) (cf := cf) (cut := cut) (a0 := xs (x4 + 1 : Int32).toNatClampNeg) (by omega) R
  have h := oe_gd h
  rw [bd_s (l_pack eq h012)] at h
  have h := oe_gd h
  rw [bd_s ep] at h
  cases h
  exact R'

theorem t_La_c20 {fu L : Nat} {xs : Nat → Int32} {sX : S_X} {x4 : Int32} {g : S_Grd} {s : S_Mo} {po pk cs : Nat → Int64} {ends : Nat → Int32} (I : I_Grd g) (Im : I_Mo s) (h0 : 0 ≤ x4.toInt) (h1 : x4.toInt + 5 < (L : Int)) (h2 : (L : Int) ≤ 3072) (R : RGd g s po pk cs ends) : So (La_c20 fu xs L sX g cs ends x4 s) (fun r => I_Mo r ∧ RGd g r po pk cs ends) := by
  unfold La_c20
  have k0 : (0 : Int32).toInt = 0 := by decide
  have k1 : (1 : Int32).toInt = 1 := by decide
  have km : ((-1) : Int32).toInt = -1 := by decide
  have e1 := i_add (a := x4) (b := 1) (by omega) (by omega)
  have g1 : o_in (x4 + 1) L = true := i_in.mpr (by omega)
  have I0 : I_Mo (Mo_set_thrown s 0) := I_Mo_set_thrown Im
  have hgr := I_Mo_groups Im
  obtain ⟨a, ha⟩ : ∃ a, a = xs (x4 + 1 : Int32).toNatClampNeg := ⟨_, rfl⟩
  rw [← ha]
  clear e1
  have both : ∃ v, X_group sX g a = some v ∧ Mod_group cs ends a s = some (v, Mo_set_thrown s 0) := by
    obtain ⟨_, _, r3, r4⟩ := R
    unfold X_group Mod_group
    show ∃ v, _ ∧ (if 0 ≤ Mo_codes s then if a = (-1) then _ else if a = (-2) then _ else if a < 0 then _ else if Mo_groups s ≤ a then _ else _ else _) = _
    rcases r4 with ⟨w1, w2, w3⟩ | ⟨w1, w2, w3, w4, w5, w6⟩
    · have n0 : ¬ (0 : Int32) ≤ Mo_codes s := by rw [i_le]; omega
      refine ⟨(-1), ?_, by rw [if_neg n0]⟩
      rw [r3, w2, w3]
      by_cases c1 : a = (-1)
      · rw [if_pos c1]
        exact congrArg some (i_eq.mpr (by rw [w1, km]))
      · rw [if_neg c1]
        by_cases c2 : a = (-2)
        · rw [if_pos c2]
        · rw [if_neg c2]
          by_cases c3 : a < 0
          · rw [if_pos c3]
          · rw [if_neg c3, if_pos (by rw [i_le]; rw [i_lt] at c3; omega)]
    · have n0 : (0 : Int32) ≤ Mo_codes s := by rw [i_le]; omega
      rw [if_pos n0, r3, w5]
      by_cases c1 : a = (-1)
      · exact ⟨Mo_codes s, by rw [if_pos c1], by rw [if_pos c1]⟩
      · rw [if_neg c1, if_neg c1]
        by_cases c2 : a = (-2)
        · rw [if_pos c2, if_pos c2]
          refine ⟨Grd_groupBits g, rfl, ?_⟩
          rw [gd_t (by decide)]
          have e0 : (cs 0).toInt32 = Grd_groupBits g := i_eq.mpr (by
            have := i_64 (cs 0)
            omega)
          show some ((cs 0).toInt32, Mo_set_thrown s 0) = _
          rw [e0]
        · rw [if_neg c2, if_neg c2]
          by_cases c3 : a < 0
          · exact ⟨(-1), by rw [if_pos c3], by rw [if_pos c3]⟩
          · rw [if_neg c3, if_neg c3]
            by_cases c4 : Mo_groups s ≤ a
            · exact ⟨(-1), by rw [if_pos c4], by rw [if_pos c4]⟩
            · rw [if_neg c4, if_neg c4]
              rw [i_lt] at c3
              rw [i_le] at c4
              have hn := i_nat (a := a) (by omega)
              have gi : o_in a 64 = true := i_in.mpr (by omega)
              refine ⟨ends a.toNatClampNeg, ?_, ?_⟩
              · rw [gd_t gi, w6 _ (by omega)]
              · rw [gd_t gi]
  obtain ⟨v, ev, em⟩ := both
  exact So.gd g1 (So.bde ev (So.gd g1 (So.bde em (So.pos rfl (So.one ⟨I0, R⟩)))))

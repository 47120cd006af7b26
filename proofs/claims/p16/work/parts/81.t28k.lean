-- the tables on both sides: append; the law's cases
theorem d_append2 {fu : Nat} {sX : S_X} {a0 a1 u : Int32} {t : S_Tab} {s : S_Mo} {th sc rf wi ls le : Nat → Int32} (hf : 12000 ≤ fu) (I : I_Tab t) (Ile : A_Mlengths le) (RR : TbR t u th sc rf wi ls le) : ∃ (q : Int32 × Int32 × S_Tab) (p : Int32 × S_Mo × (Nat → Int32) × (Nat → Int32)), X_append fu sX a0 a1 t = some q ∧ Mod_append a0 a1 s ls le = some p ∧ Mo_used p.2.1 = Mo_used s ∧ TbR q.2.2 u th sc rf wi p.2.2.1 p.2.2.2 := by
  have R : ∀ j : Nat, Tab_sizes t j = le j := RR.2.2.2.1
  have km : ((-1) : Int32).toInt = -1 := by decide
  have k0 : (0 : Int32).toInt = 0 := by decide
  have k15 : (15 : Int32).toInt = 15 := by decide
  obtain ⟨q1, e1, h1⟩ := x_listOf (a := a0)
  unfold X_append Mod_append
  rw [e1]
  rcases h1 with ⟨h1, h2⟩ | ⟨h1, h2, h3, h4, h5, h6⟩
  · refine ⟨(1, 0, t), (0, Mo_set_thrown s 1, ls, le), ?_, ?_, rfl, RR⟩
    · show (if q1 = (-1) then _ else _) = _
      rw [if_pos h1]
    · by_cases c : a0 < (-1)
      · rw [if_pos c]
        exact mo_bad
      · rw [if_neg c]
        rw [i_lt] at c
        rw [if_pos (show (15 : Int32) < a0 by rw [i_lt]; omega)]
        exact mo_bad
  · have c1 : ¬ a0 < (-1) := by rw [i_lt]; omega
    have c2 : ¬ (15 : Int32) < a0 := by rw [i_lt]; omega
    rw [if_neg c1, if_neg c2]
    obtain ⟨q2, e2, g2⟩ := t_Desc_isKnown (a0 := a1) hf
    obtain ⟨p2, f2, k2⟩ := t_Mod_isDescriptor (a0 := a1)
    rw [f2]
    by_cases c3 : q2 = 0
    · have c3' : p2 = 0 := i_eq.mpr (by rw [i_eq] at c3; omega)
      refine ⟨(1, 0, t), (0, Mo_set_thrown s 1, ls, le), ?_, ?_, rfl, RR⟩
      · show (if q1 = (-1) then _ else _) = _
        rw [if_neg h1, e2]
        show (if q2 = 0 then _ else _) = _
        rw [if_pos c3]
      · show (if p2 = 0 then _ else _) = _
        rw [if_pos c3']
        exact mo_bad
    · have c3' : ¬ p2 = 0 := fun e => by
        have : q2.toInt ≠ 0 := fun h => c3 (i_eq.mpr (by omega))
        rw [i_eq] at e
        omega
      have hsz := I_Tab_sizes I q1.toNatClampNeg
      have hn := i_nat h3
      rw [h5] at hsz
      have hRl : Tab_sizes t (lix a0) = le (lix a0) := R (lix a0)
      have hl := A_Mlengths_at Ile (lix a0)
      have hlx : (lix a0 : Int) = q1.toInt := by rw [← h5]; exact hn
      have cap : q1 = 16 ∨ q1 ≠ 16 := by by_cases e : q1 = 16; exact Or.inl e; exact Or.inr e
      have k16 : (16 : Int32).toInt = 16 := by decide
      have k24 : (24 : Int32).toInt = 24 := by decide
      have k8 : (8 : Int32).toInt = 8 := by decide
      have g17 : o_in q1 17 = true := i_in.mpr (by omega)
      -- is it full
      have full : Tab_isFull t q1 = some (if (le (lix a0)).toInt = (if a0.toInt = -1 then 24 else 8) then 1 else 0) := by
        unfold Tab_isFull Tab_isFull_j19 o_gd
        rw [if_pos g17, h5, hRl]
        by_cases e : q1 = 16
        · have ea := h6.mp e
          rw [if_pos e, if_pos ea]
          by_cases el : (le (lix a0)).toInt = 24
          · rw [if_pos el, if_neg (by rw [i_lt]; omega)]
          · rw [if_neg el, if_pos (by rw [i_lt]; omega)]
        · have ea : ¬ a0.toInt = -1 := fun h => e (h6.mpr h)
          have e' : q1.toInt ≠ 16 := fun h => e (i_eq.mpr (by omega))
          rw [if_neg e, if_neg ea]
          by_cases el : (le (lix a0)).toInt = 8
          · rw [if_pos el, if_neg (by rw [i_lt]; omega)]
          · rw [if_neg el, if_pos (by rw [i_lt]; omega)]
      have hmo := mo_good (a1 := a1) (s := s) (ls := ls) Ile h2.1 (by omega)
      by_cases cf : (le (lix a0)).toInt = (if a0.toInt = -1 then 24 else 8)
      · rw [if_pos cf] at full hmo
        refine ⟨(2, 0, t), (0, Mo_set_thrown s 2, ls, le), ?_, ?_, rfl, RR⟩
        · show (if q1 = (-1) then _ else _) = _
          rw [if_neg h1, e2]
          show (if q2 = 0 then _ else _) = _
          rw [if_neg c3, full]
          rfl
        · show (if p2 = 0 then _ else _) = _
          rw [if_neg c3']
          exact hmo
      · rw [if_neg cf] at full hmo
        have hlt : (le (lix a0)).toInt < 24 ∧ (q1.toInt < 16 → (le (lix a0)).toInt < 8) := by
          by_cases ea : a0.toInt = -1
          · rw [if_pos ea] at cf
            have := h6.mpr ea
            rw [i_eq] at this
            omega
          · rw [if_neg ea] at cf
            have : q1.toInt ≠ 16 := fun h => ea (h6.mp (i_eq.mpr (by omega)))
            omega
        obtain ⟨u', eu, hu⟩ := t_Tab_endOf (sTab := t) (a0 := q1) I h3 h4
        rw [h5, hRl] at hu
        refine ⟨(0, le (lix a0) + 1, Tab_put_sizes (Tab_put_listed t u'.toNatClampNeg a1) (lix a0) (le (lix a0) + 1)), (le (lix a0) + 1, Mo_set_thrown s 0, upd ls (24 * (if a0.toInt = -1 then 16 else a0) + le (lix a0)).toNatClampNeg a1, upd le (lix a0) (le (lix a0) + 1)), ?_, (by
          show (if p2 = 0 then _ else _) = _
          rw [if_neg c3']
          exact hmo), rfl, ?_⟩
        · show (if q1 = (-1) then _ else _) = _
          rw [if_neg h1, e2]
          show (if q2 = 0 then _ else _) = _
          rw [if_neg c3, full]
          show o_bd (Tab_extend q1 a1 t) _ = _
          have ee : Tab_extend q1 a1 t = some (le (lix a0) + 1, Tab_put_sizes (Tab_put_listed t u'.toNatClampNeg a1) (lix a0) (le (lix a0) + 1)) := by
            unfold Tab_extend
            rw [eu]
            show o_gd (o_in u' 152) _ = _
            unfold o_gd o_lt
            have gu : o_in u' 152 = true := i_in.mpr (by omega)
            simp only [gu, g17, ↓reduceIte]
            rw [h5]
            show some (upd (Tab_sizes t) (lix a0) (Tab_sizes t (lix a0) + 1) (lix a0), _) = _
            rw [upd_at, hRl]
          rw [ee]
          rfl
        · obtain ⟨T1, T2, T3, T4, T5⟩ := RR
          have k1 : (1 : Int32).toInt = 1 := by decide
          have nle := i_nat (a := le (lix a0)) (by omega)
          have nu : u'.toNatClampNeg = 8 * lix a0 + (le (lix a0)).toNatClampNeg := by
            have := i_nat (a := u') (by omega)
            omega
          have hl16 : lix a0 ≤ 16 := by omega
          obtain ⟨z, hz⟩ : ∃ z : Int32, z = (if a0.toInt = -1 then 16 else a0) := ⟨_, rfl⟩
          have zi : z.toInt = (lix a0 : Int) := by
            rw [hz]
            by_cases ea : a0.toInt = -1
            · rw [if_pos ea]
              have := h6.mpr ea
              rw [i_eq] at this
              omega
            · rw [if_neg ea]
              have e2 : lix a0 = a0.toNatClampNeg := by unfold lix; rw [if_neg (fun e => ea (by rw [e]; decide))]
              have := i_nat (a := a0) (by omega)
              omega
          have nx : (24 * z + le (lix a0)).toNatClampNeg = 24 * lix a0 + (le (lix a0)).toNatClampNeg := by
            have m1 := i_mull 24 z 24 (by decide) (by omega) (by omega)
            have m2 : (24 * z + le (lix a0)).toInt = 24 * (lix a0 : Int) + (le (lix a0)).toInt := by
              rw [i_add (a := 24 * z) (b := le (lix a0)) (by rw [m1]; clear m1; omega) (by rw [m1]; clear m1; omega), m1, zi]
            have := i_nat (a := 24 * z + le (lix a0)) (by rw [m2]; clear m1 m2; omega)
            rw [m2] at this
            clear m1 m2
            omega
          have e1 : (le (lix a0) + 1).toInt = (le (lix a0)).toInt + 1 := by
            rw [i_add (a := le (lix a0)) (b := 1) (by omega) (by omega), k1]
          have kd : KDi a1.toInt := by
            unfold KDi
            have : q2.toInt ≠ 0 := fun h => c3 (i_eq.mpr (by omega))
            clear e1
            omega
          refine ⟨T1, T2, T3, fun j => ?_, fun l i hl hi => ?_⟩
          · show upd (Tab_sizes t) (lix a0) (le (lix a0) + 1) j = upd le (lix a0) (le (lix a0) + 1) j
            by_cases ej : j = lix a0
            · rw [ej, upd_at, upd_at]
            · rw [upd_ne ej, upd_ne ej]
              exact T4 j
          · show upd (Tab_listed t) u'.toNatClampNeg a1 (8 * l + i) = upd ls (24 * (if a0.toInt = -1 then 16 else a0) + le (lix a0)).toNatClampNeg a1 (24 * l + i) ∧ KDi (upd ls (24 * (if a0.toInt = -1 then 16 else a0) + le (lix a0)).toNatClampNeg a1 (24 * l + i)).toInt
            have hi : (i : Int) < (upd le (lix a0) (le (lix a0) + 1) l).toInt := hi
            rw [← hz, nu, nx]
            by_cases el : l = lix a0
            · rw [el, upd_at, e1] at hi
              rw [el]
              by_cases ei : i = (le (lix a0)).toNatClampNeg
              · rw [ei, upd_at, upd_at]
                exact ⟨rfl, kd⟩
              · rw [upd_ne (by clear e1; omega), upd_ne (by clear e1; omega)]
                exact T5 (lix a0) i hl16 (by clear e1; omega)
            · rw [upd_ne el] at hi
              have hb := A_Mlengths_at Ile l
              rw [upd_ne (by clear e1; omega), upd_ne (by clear e1; omega)]
              exact T5 l i hl hi
theorem l_element2 {sX : S_X} {a1 a2 a3 a4 a5 : Int32} {t : S_Tab} {q : Int32 × S_Tab} (h : Law_element sX a1 a2 a3 a4 a5 t = some q) : ∃ p, X_element sX a1 a2 a3 a4 a5 t = some p ∧ q.2 = p.2 := by
  unfold Law_element at h
  obtain ⟨p, e, h⟩ := oi_bd h
  refine ⟨p, e, ?_⟩
  split at h
  · cases h; rfl
  · split at h
    · cases h; rfl
    · cases h
theorem l_version2 {sX : S_X} {a : Int32} {t : S_Tab} {q : Int32 × S_Tab} (h : Law_version sX a t = some q) : ∃ p, X_version sX a t = some p ∧ q.2 = p.2 := by
  unfold Law_version at h
  obtain ⟨p, e, h⟩ := oi_bd h
  refine ⟨p, e, ?_⟩
  split at h
  · cases h; rfl
  · split at h
    · cases h; rfl
    · cases h
theorem l_clear2 {sX : S_X} {a : Int32} {t : S_Tab} {q : Int32 × S_Tab} (h : Law_clear sX a t = some q) : ∃ p, X_clear sX a t = some p ∧ q.2 = p.2 := by
  unfold Law_clear at h
  obtain ⟨p, e, h⟩ := oi_bd h
  refine ⟨p, e, ?_⟩
  split at h
  · cases h; rfl
  · split at h
    · cases h; rfl
    · cases h
theorem l_append2 {fu n : Nat} {sX : S_X} {a b : Int32} {t : S_Tab} {w : Nat → Int64} {q : Int32 × S_Tab × (Nat → Int64)} (h : Law_append fu n sX a b t w = some q) : ∃ p, X_append fu sX a b t = some p ∧ q.2.1 = p.2.2 := by
  unfold Law_append at h
  obtain ⟨p, e, h⟩ := oi_bd h
  refine ⟨p, e, ?_⟩
  split at h
  · have h := oe_gd h
    cases h; rfl
  · split at h
    · cases h; rfl
    · split at h
      · cases h; rfl
      · cases h
theorem m_clear2 {a : Int32} {s : S_Mo} {le : Nat → Int32} {r : S_Mo × (Nat → Int32)} (h : Mod_clear a s le = some r) : Mo_used r.1 = Mo_used s ∧ ((¬ (-1 ≤ a.toInt ∧ a.toInt < 16) ∧ r.2 = le) ∨ ((-1 ≤ a.toInt ∧ a.toInt < 16) ∧ r.2 = upd le (lix a) 0)) := by
  have k0 : (0 : Int32).toInt = 0 := by decide
  have km : ((-1) : Int32).toInt = -1 := by decide
  have k15 : (15 : Int32).toInt = 15 := by decide
  have bad : Mod_clear_j12 a s le = some r → Mo_used r.1 = Mo_used s ∧ r.2 = le := by
    intro g
    unfold Mod_clear_j12 Mod_clear_j17 o_lt at g
    dsimp only at g
    rw [if_neg (show ¬ (1 : Int32) = 0 by decide)] at g
    cases g
    exact ⟨rfl, rfl⟩
  unfold Mod_clear at h
  by_cases c1 : a < (-1)
  · rw [if_pos c1] at h
    rw [i_lt] at c1
    exact ⟨(bad h).1, Or.inl ⟨by omega, (bad h).2⟩⟩
  · rw [if_neg c1] at h
    rw [i_lt] at c1
    by_cases c2 : a ≤ 15
    · rw [if_pos c2] at h
      rw [i_le] at c2
      unfold Mod_clear_j17 o_lt at h
      dsimp only at h
      rw [if_pos (show (0 : Int32) = 0 from rfl)] at h
      by_cases c3 : (0 : Int32) ≤ a
      · rw [if_pos c3] at h
        rw [i_le] at c3
        have h := oe_gd h
        cases h
        refine ⟨rfl, Or.inr ⟨by omega, ?_⟩⟩
        show upd le a.toNatClampNeg 0 = upd le (lix a) 0
        unfold lix
        rw [if_neg (fun e => by rw [i_eq] at e; omega)]
      · rw [if_neg c3] at h
        rw [i_le] at c3
        have h := oe_gd h
        cases h
        refine ⟨rfl, Or.inr ⟨by omega, ?_⟩⟩
        show upd le (16 : Int32).toNatClampNeg 0 = upd le (lix a) 0
        unfold lix
        rw [if_pos (i_eq.mpr (by omega))]
        rfl
    · rw [if_neg c2] at h
      rw [i_le] at c2
      exact ⟨(bad h).1, Or.inl ⟨by omega, (bad h).2⟩⟩
theorem tb_c0 {fu L : Nat} {xs : Nat → Int32} {sX : S_X} {x4 : Int32} {t : S_Tab} {s : S_Mo} {th sc rf wi ls le : Nat → Int32} {r : S_Tab × S_Mo × (Nat → Int32) × (Nat → Int32) × (Nat → Int32) × (Nat → Int32)} (h : La_c0 fu xs L sX x4 t s th sc rf wi = some r) (R : TbR t (Mo_used s) th sc rf wi ls le) : TbR r.1 (Mo_used r.2.1) r.2.2.1 r.2.2.2.1 r.2.2.2.2.1 r.2.2.2.2.2 ls le := by
  unfold La_c0 at h
  have h := oe_gd (oe_gd (oe_gd (oe_gd (oe_gd h))))
  obtain ⟨q, e, h⟩ := oi_bd h
  have h := oe_gd (oe_gd (oe_gd (oe_gd (oe_gd h))))
  obtain ⟨p, f, h⟩ := oi_bd h
  obtain ⟨v, ev, e2⟩ := l_element2 e
  cases h
  obtain ⟨m1, m2⟩ := m_element2 f
  show TbR q.2 (Mo_used p.1) p.2.1 p.2.2.1 p.2.2.2.1 p.2.2.2.2 ls le
  rw [e2, m1]
  exact R.element (x_element2 ev) m2
theorem tb_c1 {fu L : Nat} {xs : Nat → Int32} {sX : S_X} {x4 : Int32} {t : S_Tab} {s : S_Mo} {th sc rf wi ls le : Nat → Int32} {r : S_Tab × S_Mo × (Nat → Int32)} (h : La_c1 fu xs L sX x4 t s th = some r) (R : TbR t (Mo_used s) th sc rf wi ls le) : TbR r.1 (Mo_used r.2.1) r.2.2 sc rf wi ls le := by
  unfold La_c1 at h
  have h := oe_gd (oe_gd h)
  obtain ⟨q, e, h⟩ := oi_bd h
  have h := oe_gd (oe_gd h)
  obtain ⟨p, f, h⟩ := oi_bd h
  cases h
  obtain ⟨m1, m2⟩ := m_drop2 f
  show TbR q.2 (Mo_used p.2.1) p.2.2 sc rf wi ls le
  rw [m1]
  exact R.drop (x_drop2 e) m2
theorem tb_c2 {fu L : Nat} {xs : Nat → Int32} {sX : S_X} {x4 : Int32} {t : S_Tab} {s : S_Mo} {th sc rf wi ls le : Nat → Int32} {r : S_Tab × S_Mo} (h : La_c2 fu xs L sX x4 t s = some r) (R : TbR t (Mo_used s) th sc rf wi ls le) : TbR r.1 (Mo_used r.2) th sc rf wi ls le := by
  unfold La_c2 at h
  have h := oe_gd h
  obtain ⟨q, e, h⟩ := oi_bd h
  have h := oe_gd h
  obtain ⟨p, f, h⟩ := oi_bd h
  obtain ⟨v, ev, e2⟩ := l_version2 e
  cases h
  show TbR q.2 (Mo_used p) th sc rf wi ls le
  rw [e2]
  exact R.version (x_version2 ev) (m_version2 f)
theorem tb_c3 {fu L : Nat} {xs : Nat → Int32} {sX : S_X} {x4 : Int32} {t : S_Tab} {s : S_Mo} {th sc rf wi ls le : Nat → Int32} {w : Nat → Int64} {r : S_Tab × S_Mo × (Nat → Int32) × (Nat → Int32) × (Nat → Int64)} (hf : 45000 ≤ fu) (I : I_Tab t) (Ile : A_Mlengths le) (h : La_c3 fu xs L sX x4 t s ls le w = some r) (R : TbR t (Mo_used s) th sc rf wi ls le) : TbR r.1 (Mo_used r.2.1) th sc rf wi r.2.2.1 r.2.2.2.1 := by
  unfold La_c3 at h
  have h := oe_gd (oe_gd h)
  obtain ⟨q, e, h⟩ := oi_bd h
  have h := oe_gd (oe_gd h)
  obtain ⟨p, f, h⟩ := oi_bd h
  obtain ⟨v, ev, e2⟩ := l_append2 e
  obtain ⟨q', p', g1, g2, g3, g4⟩ := d_append2 (fu := fu) (sX := sX) (a0 := xs (x4 + 1 : Int32).toNatClampNeg) (a1 := xs (x4 + 2 : Int32).toNatClampNeg) (s := s) (by omega) I Ile R
  rw [ev] at g1
  rw [f] at g2
  cases g1
  cases g2
  cases h
  show TbR q.2.1 (Mo_used p.2.1) th sc rf wi p.2.2.1 p.2.2.2
  rw [e2, g3]
  exact g4
theorem tb_c4 {fu L : Nat} {xs : Nat → Int32} {sX : S_X} {x4 : Int32} {t : S_Tab} {s : S_Mo} {th sc rf wi ls le : Nat → Int32} {r : S_Tab × S_Mo × (Nat → Int32)} (h : La_c4 fu xs L sX x4 t s le = some r) (R : TbR t (Mo_used s) th sc rf wi ls le) : TbR r.1 (Mo_used r.2.1) th sc rf wi ls r.2.2 := by
  unfold La_c4 at h
  have h := oe_gd h
  obtain ⟨q, e, h⟩ := oi_bd h
  have h := oe_gd h
  obtain ⟨p, f, h⟩ := oi_bd h
  obtain ⟨v, ev, e2⟩ := l_clear2 e
  cases h
  obtain ⟨m1, m2⟩ := m_clear2 f
  show TbR q.2 (Mo_used p.1) th sc rf wi ls p.2
  rw [e2, m1]
  exact R.clear (x_clear2 ev) m2
theorem TbR.keep {t : S_Tab} {u u' : Int32} {th sc rf wi ls le : Nat → Int32} (R : TbR t u th sc rf wi ls le) (h : u'.toInt = u.toInt) : TbR t u' th sc rf wi ls le := by
  have e : u' = u := i_eq.mpr h
  rw [e]
  exact R
theorem tb_init {t : S_Tab} {s : S_Mo} {th sc rf wi ls le : Nat → Int32} (h1 : ∀ j, Tab_widths t j = 0) (h2 : ∀ j, th j = 0) (h3 : ∀ j, Tab_sizes t j = 0) (h4 : ∀ j, le j = 0) (h5 : Tab_versionInUse t = 3) (h6 : Mo_used s = 3) : TbR t (Mo_used s) th sc rf wi ls le := by
  refine ⟨fun j => ⟨fun _ => h2 j, fun _ => h1 j⟩, fun j hj => absurd (h2 j) hj, h5.trans h6.symm, fun j => (h3 j).trans (h4 j).symm, fun l i _ hi => ?_⟩
  rw [h4 l] at hi
  have k0 : (0 : Int32).toInt = 0 := by decide
  omega

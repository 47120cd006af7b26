-- the tables on both sides
theorem x_element2 {sX : S_X} {a0 a1 a2 a3 a4 : Int32} {t : S_Tab} {r : Int32 × S_Tab} (h : X_element sX a0 a1 a2 a3 a4 t = some r) : (¬ CEl a0 a1 a2 a3 a4 ∧ r.2 = t) ∨ (CEl a0 a1 a2 a3 a4 ∧ r.2 = Tab_put_widths (Tab_put_references (Tab_put_scales t (eix a0 a1) a2) (eix a0 a1) a3) (eix a0 a1) a4) := by
  unfold X_element at h
  obtain ⟨q1, e1, h1, h⟩ := oe_bd x_entryOf h
  by_cases c1 : q1 = (-1)
  · rw [if_pos c1] at h
    cases h
    rcases h1 with h1 | h1
    · exact Or.inl ⟨fun e => h1.2 e.1, rfl⟩
    · exact absurd c1 h1.2.1
  · rw [if_neg c1] at h
    rcases h1 with h1 | h1
    · exact absurd h1.1 c1
    · obtain ⟨q2, e2, h2, h⟩ := oe_bd t_Tab_isEntry h
      by_cases c2 : q2 = 0
      · rw [if_pos c2] at h
        cases h
        rw [i_eq] at c2
        have k0 : (0 : Int32).toInt = 0 := by decide
        exact Or.inl ⟨fun e => by obtain ⟨_, e⟩ := e; omega, rfl⟩
      · rw [if_neg c2] at h
        rw [i_eq] at c2
        have k0 : (0 : Int32).toInt = 0 := by decide
        unfold o_lt at h
        have h := oe_gd (oe_gd (oe_gd h))
        cases h
        refine Or.inr ⟨⟨h1.1, by omega⟩, ?_⟩
        show Tab_put_widths (Tab_put_references (Tab_put_scales t q1.toNatClampNeg a2) q1.toNatClampNeg a3) q1.toNatClampNeg a4 = _
        rw [h1.2.2.2.2]
theorem m_element2 {a0 a1 a2 a3 a4 : Int32} {s : S_Mo} {th sc rf wi : Nat → Int32} {r : S_Mo × (Nat → Int32) × (Nat → Int32) × (Nat → Int32) × (Nat → Int32)} (h : Mod_element a0 a1 a2 a3 a4 s th sc rf wi = some r) : Mo_used r.1 = Mo_used s ∧ ((¬ CEl a0 a1 a2 a3 a4 ∧ r.2 = (th, sc, rf, wi)) ∨ (CEl a0 a1 a2 a3 a4 ∧ r.2 = (upd th (eix a0 a1) (vp_nar .boolean 1), upd sc (eix a0 a1) a2, upd rf (eix a0 a1) a3, upd wi (eix a0 a1) a4))) := by
  unfold Mod_element at h
  have bad : Mod_element_j51 a0 a1 a2 a3 a4 s th sc rf wi = some r → Mo_used r.1 = Mo_used s ∧ r.2 = (th, sc, rf, wi) := by
    intro g
    unfold Mod_element_j51 Mod_element_j52 at g
    rw [if_pos rfl] at g
    unfold Mod_element_j65 at g
    unfold o_lt at g
    dsimp only at g
    rw [if_pos rfl] at g
    cases g
    exact ⟨rfl, rfl⟩
  have k0 : (0 : Int32).toInt = 0 := by decide
  have k8 : (8 : Int32).toInt = 8 := by decide
  have km8 : ((-8) : Int32).toInt = -8 := by decide
  have k1 : (1 : Int32).toInt = 1 := by decide
  have k32 : (32 : Int32).toInt = 32 := by decide
  have kb : (1000000000 : Int32).toInt = 1000000000 := by decide
  have kmb : ((-1000000000) : Int32).toInt = -1000000000 := by decide
  obtain ⟨q1, e1, h1, h⟩ := oe_bd t_Mod_isEntry h
  by_cases c1 : q1 = 0
  · rw [if_pos c1] at h
    rw [i_eq] at c1
    exact ⟨(bad h).1, Or.inl ⟨fun e => by obtain ⟨⟨e1, e2, e3, e4⟩, _⟩ := e; omega, (bad h).2⟩⟩
  · rw [if_neg c1] at h
    rw [i_eq] at c1
    by_cases c2 : a2 < (-8)
    · rw [if_pos c2] at h
      rw [i_lt] at c2
      exact ⟨(bad h).1, Or.inl ⟨fun e => by obtain ⟨_, e⟩ := e; omega, (bad h).2⟩⟩
    · rw [if_neg c2] at h
      rw [i_lt] at c2
      by_cases c3 : 8 < a2
      · rw [if_pos c3] at h
        rw [i_lt] at c3
        exact ⟨(bad h).1, Or.inl ⟨fun e => by obtain ⟨_, e⟩ := e; omega, (bad h).2⟩⟩
      · rw [if_neg c3] at h
        rw [i_lt] at c3
        by_cases c4 : a3 < (-1000000000)
        · rw [if_pos c4] at h
          rw [i_lt] at c4
          exact ⟨(bad h).1, Or.inl ⟨fun e => by obtain ⟨_, e⟩ := e; omega, (bad h).2⟩⟩
        · rw [if_neg c4] at h
          rw [i_lt] at c4
          by_cases c5 : 1000000000 < a3
          · rw [if_pos c5] at h
            rw [i_lt] at c5
            exact ⟨(bad h).1, Or.inl ⟨fun e => by obtain ⟨_, e⟩ := e; omega, (bad h).2⟩⟩
          · rw [if_neg c5] at h
            rw [i_lt] at c5
            by_cases c6 : a4 < 1
            · rw [if_pos c6] at h
              rw [i_lt] at c6
              exact ⟨(bad h).1, Or.inl ⟨fun e => by obtain ⟨_, e⟩ := e; omega, (bad h).2⟩⟩
            · rw [if_neg c6] at h
              rw [i_lt] at c6
              by_cases c7 : 32 < a4
              · rw [if_pos c7] at h
                rw [i_lt] at c7
                exact ⟨(bad h).1, Or.inl ⟨fun e => by obtain ⟨_, e⟩ := e; omega, (bad h).2⟩⟩
              · rw [if_neg c7] at h
                rw [i_lt] at c7
                have hE : EV a0 a1 := by unfold EV; omega
                unfold Mod_element_j52 at h
                rw [if_neg (by decide)] at h
                unfold Mod_element_j65 at h
                unfold o_lt at h
                dsimp only at h
                rw [if_neg (by decide)] at h
                obtain ⟨q11, e11, h11, h⟩ := oe_bd (m_entry hE) h
                have h := oe_gd (oe_gd (oe_gd (oe_gd h)))
                cases h
                refine ⟨rfl, Or.inr ⟨⟨hE, by omega⟩, ?_⟩⟩
                show (upd th q11.toNatClampNeg _, upd sc q11.toNatClampNeg _, upd rf q11.toNatClampNeg _, upd wi q11.toNatClampNeg _) = _
                rw [h11.2.2]
theorem TbR.element {t t' : S_Tab} {u : Int32} {th sc rf wi ls le th' sc' rf' wi' : Nat → Int32} {a0 a1 a2 a3 a4 : Int32} (R : TbR t u th sc rf wi ls le) (h : (¬ CEl a0 a1 a2 a3 a4 ∧ t' = t) ∨ (CEl a0 a1 a2 a3 a4 ∧ t' = Tab_put_widths (Tab_put_references (Tab_put_scales t (eix a0 a1) a2) (eix a0 a1) a3) (eix a0 a1) a4)) (h' : (¬ CEl a0 a1 a2 a3 a4 ∧ (th', sc', rf', wi') = (th, sc, rf, wi)) ∨ (CEl a0 a1 a2 a3 a4 ∧ (th', sc', rf', wi') = (upd th (eix a0 a1) (vp_nar .boolean 1), upd sc (eix a0 a1) a2, upd rf (eix a0 a1) a3, upd wi (eix a0 a1) a4))) : TbR t' u th' sc' rf' wi' ls le := by
  rcases h with ⟨c, e⟩ | ⟨c, e⟩
  · rcases h' with ⟨c', e'⟩ | ⟨c', e'⟩
    · cases e'
      rw [e]
      exact R
    · exact absurd c' c
  · rcases h' with ⟨c', e'⟩ | ⟨c', e'⟩
    · exact absurd c c'
    · cases e'
      subst e
      obtain ⟨T1, T2, T3, T4, T5⟩ := R
      refine ⟨fun j => ?_, fun j hj => ?_, T3, T4, T5⟩
      · show upd (Tab_widths t) (eix a0 a1) a4 j = 0 ↔ _
        rw [nar1]
        by_cases ej : j = eix a0 a1
        · rw [ej, upd_at, upd_at]
          obtain ⟨_, _, _, g, _⟩ := c
          have k0 : (0 : Int32).toInt = 0 := by decide
          constructor
          · intro e4
            rw [i_eq] at e4
            omega
          · intro e1
            exact absurd e1 (by decide)
        · rw [upd_ne ej, upd_ne ej]
          exact T1 j
      · show upd (Tab_widths t) (eix a0 a1) a4 j = _ ∧ upd (Tab_scales t) (eix a0 a1) a2 j = _ ∧ upd (Tab_references t) (eix a0 a1) a3 j = _
        by_cases ej : j = eix a0 a1
        · rw [ej, upd_at, upd_at, upd_at, upd_at, upd_at, upd_at]
          exact ⟨rfl, rfl, rfl⟩
        · rw [upd_ne ej] at hj
          rw [upd_ne ej, upd_ne ej, upd_ne ej, upd_ne ej, upd_ne ej, upd_ne ej]
          exact T2 j hj
theorem x_drop2 {sX : S_X} {a0 a1 : Int32} {t : S_Tab} {q : Int32 × S_Tab} (h : X_drop sX a0 a1 t = some q) : (¬ EV a0 a1 ∧ q.2 = t) ∨ (EV a0 a1 ∧ (q.2 = Tab_put_widths t (eix a0 a1) 0 ∨ (q.2 = t ∧ Tab_widths t (eix a0 a1) = 0))) := by
  unfold X_drop at h
  obtain ⟨q1, e1, h1, h⟩ := oe_bd x_entryOf h
  by_cases c1 : q1 = (-1)
  · rw [if_pos c1] at h
    cases h
    rcases h1 with h1 | h1
    · exact Or.inl ⟨h1.2, rfl⟩
    · exact absurd c1 h1.2.1
  · rw [if_neg c1] at h
    rcases h1 with h1 | h1
    · exact absurd h1.1 c1
    · have h := oe_gd h
      rw [h1.2.2.2.2] at h
      by_cases c2 : Tab_widths t (eix a0 a1) = 0
      · rw [if_pos c2] at h
        cases h
        exact Or.inr ⟨h1.1, Or.inr ⟨rfl, c2⟩⟩
      · rw [if_neg c2] at h
        have h := oe_gd h
        cases h
        exact Or.inr ⟨h1.1, Or.inl rfl⟩
theorem m_drop2 {a0 a1 : Int32} {s : S_Mo} {th : Nat → Int32} {p : Int32 × S_Mo × (Nat → Int32)} (h : Mod_drop a0 a1 s th = some p) : Mo_used p.2.1 = Mo_used s ∧ ((¬ EV a0 a1 ∧ p.2.2 = th) ∨ (EV a0 a1 ∧ p.2.2 = upd th (eix a0 a1) 0)) := by
  unfold Mod_drop o_lt at h
  obtain ⟨q1, e1, h1, h⟩ := oe_bd t_Mod_isEntry h
  have k0 : (0 : Int32).toInt = 0 := by decide
  by_cases c1 : q1 = 0
  · rw [if_pos c1] at h
    rw [i_eq] at c1
    cases h
    exact ⟨rfl, Or.inl ⟨fun e => by obtain ⟨e1, e2, e3, e4⟩ := e; omega, rfl⟩⟩
  · rw [if_neg c1] at h
    rw [i_eq] at c1
    have hE : EV a0 a1 := by unfold EV; omega
    obtain ⟨q3, e3, h3, h⟩ := oe_bd (m_entry hE) h
    have h := oe_gd h
    obtain ⟨q5, e5, h5, h⟩ := oe_bd (m_entry hE) h
    have h := oe_gd (oe_gd h)
    cases h
    refine ⟨rfl, Or.inr ⟨hE, ?_⟩⟩
    show upd th q5.toNatClampNeg (vp_nar .boolean 0) = _
    rw [h5.2.2, nar0]
theorem TbR.drop {t t' : S_Tab} {u : Int32} {th sc rf wi ls le th' : Nat → Int32} {a0 a1 : Int32} (R : TbR t u th sc rf wi ls le) (h : (¬ EV a0 a1 ∧ t' = t) ∨ (EV a0 a1 ∧ (t' = Tab_put_widths t (eix a0 a1) 0 ∨ (t' = t ∧ Tab_widths t (eix a0 a1) = 0)))) (h' : (¬ EV a0 a1 ∧ th' = th) ∨ (EV a0 a1 ∧ th' = upd th (eix a0 a1) 0)) : TbR t' u th' sc rf wi ls le := by
  rcases h with ⟨c, e⟩ | ⟨c, e⟩
  · rcases h' with ⟨c', e'⟩ | ⟨c', e'⟩
    · rw [e, e']
      exact R
    · exact absurd c' c
  · rcases h' with ⟨c', e'⟩ | ⟨c', e'⟩
    · exact absurd c c'
    · obtain ⟨T1, T2, T3, T4, T5⟩ := R
      rcases e with e | ⟨e, z⟩
      · subst e
        subst e'
        refine ⟨fun j => ?_, fun j hj => ?_, T3, T4, T5⟩
        · show upd (Tab_widths t) (eix a0 a1) 0 j = 0 ↔ _
          by_cases ej : j = eix a0 a1
          · rw [ej, upd_at, upd_at]
          · rw [upd_ne ej, upd_ne ej]
            exact T1 j
        · show upd (Tab_widths t) (eix a0 a1) 0 j = _ ∧ _
          by_cases ej : j = eix a0 a1
          · rw [ej, upd_at] at hj
            exact absurd rfl hj
          · rw [upd_ne ej] at hj
            rw [upd_ne ej]
            exact T2 j hj
      · subst e
        subst e'
        refine ⟨fun j => ?_, fun j hj => ?_, T3, T4, T5⟩
        · by_cases ej : j = eix a0 a1
          · rw [ej, upd_at]
            exact ⟨fun _ => rfl, fun _ => z⟩
          · rw [upd_ne ej]
            exact T1 j
        · by_cases ej : j = eix a0 a1
          · rw [ej, upd_at] at hj
            exact absurd rfl hj
          · rw [upd_ne ej] at hj
            exact T2 j hj
theorem x_version2 {sX : S_X} {a : Int32} {t : S_Tab} {q : Int32 × S_Tab} (h : X_version sX a t = some q) : (¬ (0 ≤ a.toInt ∧ a.toInt < 4) ∧ q.2 = t) ∨ ((0 ≤ a.toInt ∧ a.toInt < 4) ∧ q.2 = Tab_set_versionInUse t a) := by
  have k0 : (0 : Int32).toInt = 0 := by decide
  have k4 : (4 : Int32).toInt = 4 := by decide
  unfold X_version at h
  by_cases c1 : a < 0
  · rw [if_pos c1] at h
    rw [i_lt] at c1
    cases h
    exact Or.inl ⟨by omega, rfl⟩
  · rw [if_neg c1] at h
    rw [i_lt] at c1
    by_cases c2 : a < 4
    · rw [if_pos c2] at h
      rw [i_lt] at c2
      cases h
      exact Or.inr ⟨by omega, rfl⟩
    · rw [if_neg c2] at h
      rw [i_lt] at c2
      cases h
      exact Or.inl ⟨by omega, rfl⟩
theorem m_version2 {a : Int32} {s : S_Mo} {r : S_Mo} (h : Mod_version a s = some r) : (¬ (0 ≤ a.toInt ∧ a.toInt < 4) ∧ Mo_used r = Mo_used s) ∨ ((0 ≤ a.toInt ∧ a.toInt < 4) ∧ Mo_used r = a) := by
  have k0 : (0 : Int32).toInt = 0 := by decide
  have k3 : (3 : Int32).toInt = 3 := by decide
  have bad : ∀ t : Int32, ¬ t = 0 → Mod_version_j15 a t s = some (Mo_set_thrown s t) := by
    intro t ht
    unfold Mod_version_j15
    show (if t = 0 then _ else _) = _
    rw [if_neg ht]
  have good : ∀ t : Int32, t = 0 → Mod_version_j15 a t s = some (Mo_set_used (Mo_set_thrown s t) a) := by
    intro t ht
    unfold Mod_version_j15
    show (if t = 0 then _ else _) = _
    rw [if_pos ht]
    rfl
  unfold Mod_version Mod_version_j10 at h
  by_cases c1 : a < 0
  · rw [if_pos c1, bad 1 (by decide)] at h
    rw [i_lt] at c1
    cases h
    exact Or.inl ⟨by omega, rfl⟩
  · rw [if_neg c1] at h
    rw [i_lt] at c1
    by_cases c2 : a ≤ 3
    · rw [if_pos c2, good 0 rfl] at h
      rw [i_le] at c2
      cases h
      exact Or.inr ⟨by omega, rfl⟩
    · rw [if_neg c2, bad 1 (by decide)] at h
      rw [i_le] at c2
      cases h
      exact Or.inl ⟨by omega, rfl⟩
theorem TbR.version {t t' : S_Tab} {u u' : Int32} {th sc rf wi ls le : Nat → Int32} {a : Int32} (R : TbR t u th sc rf wi ls le) (h : (¬ (0 ≤ a.toInt ∧ a.toInt < 4) ∧ t' = t) ∨ ((0 ≤ a.toInt ∧ a.toInt < 4) ∧ t' = Tab_set_versionInUse t a)) (h' : (¬ (0 ≤ a.toInt ∧ a.toInt < 4) ∧ u' = u) ∨ ((0 ≤ a.toInt ∧ a.toInt < 4) ∧ u' = a)) : TbR t' u' th sc rf wi ls le := by
  rcases h with ⟨c, e⟩ | ⟨c, e⟩
  · rcases h' with ⟨c', e'⟩ | ⟨c', e'⟩
    · rw [e, e']
      exact R
    · exact absurd c' c
  · rcases h' with ⟨c', e'⟩ | ⟨c', e'⟩
    · exact absurd c c'
    · subst e
      subst e'
      obtain ⟨T1, T2, T3, T4, T5⟩ := R
      exact ⟨T1, T2, rfl, T4, T5⟩
theorem x_clear2 {sX : S_X} {a : Int32} {t : S_Tab} {r : Int32 × S_Tab} (h : X_clear sX a t = some r) : (¬ (-1 ≤ a.toInt ∧ a.toInt < 16) ∧ r.2 = t) ∨ ((-1 ≤ a.toInt ∧ a.toInt < 16) ∧ r.2 = Tab_put_sizes t (lix a) 0) := by
  unfold X_clear at h
  obtain ⟨q1, e1, h1, h⟩ := oe_bd x_listOf h
  by_cases c1 : q1 = (-1)
  · rw [if_pos c1] at h
    cases h
    rcases h1 with h1 | h1
    · exact Or.inl ⟨h1.2, rfl⟩
    · exact absurd c1 h1.1
  · rw [if_neg c1] at h
    rcases h1 with h1 | h1
    · exact absurd h1.1 c1
    · unfold o_lt at h
      have h := oe_gd h
      cases h
      refine Or.inr ⟨h1.2.1, ?_⟩
      show Tab_put_sizes t q1.toNatClampNeg 0 = _
      rw [h1.2.2.2.2.1]
theorem TbR.clear {t t' : S_Tab} {u : Int32} {th sc rf wi ls le le' : Nat → Int32} {a : Int32} (R : TbR t u th sc rf wi ls le) (h : (¬ (-1 ≤ a.toInt ∧ a.toInt < 16) ∧ t' = t) ∨ ((-1 ≤ a.toInt ∧ a.toInt < 16) ∧ t' = Tab_put_sizes t (lix a) 0)) (h' : (¬ (-1 ≤ a.toInt ∧ a.toInt < 16) ∧ le' = le) ∨ ((-1 ≤ a.toInt ∧ a.toInt < 16) ∧ le' = upd le (lix a) 0)) : TbR t' u th sc rf wi ls le' := by
  rcases h with ⟨c, e⟩ | ⟨c, e⟩
  · rcases h' with ⟨c', e'⟩ | ⟨c', e'⟩
    · rw [e, e']
      exact R
    · exact absurd c' c
  · rcases h' with ⟨c', e'⟩ | ⟨c', e'⟩
    · exact absurd c c'
    · subst e
      subst e'
      obtain ⟨T1, T2, T3, T4, T5⟩ := R
      refine ⟨T1, T2, T3, fun j => ?_, fun l i hl hi => ?_⟩
      · show upd (Tab_sizes t) (lix a) 0 j = _
        by_cases ej : j = lix a
        · rw [ej, upd_at, upd_at]
        · rw [upd_ne ej, upd_ne ej]
          exact T4 j
      · by_cases el : l = lix a
        · rw [el, upd_at] at hi
          have k0 : (0 : Int32).toInt = 0 := by decide
          omega
        · rw [upd_ne el] at hi
          exact T5 l i hl hi

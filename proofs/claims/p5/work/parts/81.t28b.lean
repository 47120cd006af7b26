-- common rows
theorem So.bdq {α β : Type} {x : Option α} {f : α → Option β} {Q : α → Prop} {P : β → Prop} (h : So x Q) (hf : ∀ q, x = some q → Q q → So (f q) P) : So (o_bd x f) P := by
  obtain ⟨r, e, hr⟩ := h
  rw [e]
  exact hf r e hr
theorem So.and {α : Type} {x : Option α} {P Q : α → Prop} (h : So x P) (g : So x Q) : So x (fun r => P r ∧ Q r) := by
  obtain ⟨r, e, hr⟩ := h
  obtain ⟨r', e', hr'⟩ := g
  rw [e] at e'
  cases e'
  exact ⟨r, e, hr, hr'⟩
theorem gd_t {α : Type} {b : Bool} {k : Option α} (h : b = true) : o_gd b k = k := if_pos h
theorem bd_s {α β : Type} {x : Option α} {a : α} {f : α → Option β} (e : x = some a) : o_bd x f = f a := by
  rw [e]
  rfl

-- p5: the lists are of one length
def RL (t : S_Tab) (le : Nat → Int32) : Prop := ∀ j : Nat, Tab_sizes t j = le j
theorem RL.same {t t' : S_Tab} {le : Nat → Int32} (R : RL t le) (e : Tab_sizes t' = Tab_sizes t) : RL t' le := fun j => by
  rw [e]
  exact R j
theorem s_element {sX : S_X} {a1 a2 a3 a4 a5 : Int32} {t : S_Tab} {q : Int32 × S_Tab} (h : Law_element sX a1 a2 a3 a4 a5 t = some q) : Tab_sizes q.2 = Tab_sizes t := by
  unfold Law_element at h
  obtain ⟨p, e, h⟩ := oi_bd h
  have e2 : Tab_sizes p.2 = Tab_sizes t := by
    unfold X_element at e
    obtain ⟨p1, _, e⟩ := oi_bd e
    split at e
    · cases e; rfl
    · obtain ⟨p2, _, e⟩ := oi_bd e
      split at e
      · cases e; rfl
      · unfold o_lt at e
        have e := oe_gd (oe_gd (oe_gd e))
        cases e; rfl
  split at h
  · cases h; exact e2
  · split at h
    · cases h; exact e2
    · cases h
theorem s_drop {sX : S_X} {a0 a1 : Int32} {t : S_Tab} {q : Int32 × S_Tab} (h : X_drop sX a0 a1 t = some q) : Tab_sizes q.2 = Tab_sizes t := by
  unfold X_drop at h
  obtain ⟨p1, _, h⟩ := oi_bd h
  split at h
  · cases h; rfl
  · have h := oe_gd h
    split at h
    · cases h; rfl
    · have h := oe_gd h
      cases h; rfl
theorem s_version {sX : S_X} {a : Int32} {t : S_Tab} {q : Int32 × S_Tab} (h : Law_version sX a t = some q) : Tab_sizes q.2 = Tab_sizes t := by
  unfold Law_version at h
  obtain ⟨p, e, h⟩ := oi_bd h
  have e2 : Tab_sizes p.2 = Tab_sizes t := by
    unfold X_version at e
    split at e
    · cases e; rfl
    · split at e
      · cases e; rfl
      · cases e; rfl
  split at h
  · cases h; exact e2
  · split at h
    · cases h; exact e2
    · cases h
-- where a list stands
def lix (a : Int32) : Nat := if a = (-1) then 16 else a.toNatClampNeg
theorem x_listOf {a : Int32} : So (Tab_listOf a) (fun r => (r = (-1) ∧ ¬ (-1 ≤ a.toInt ∧ a.toInt < 16)) ∨ (r ≠ (-1) ∧ (-1 ≤ a.toInt ∧ a.toInt < 16) ∧ 0 ≤ r.toInt ∧ r.toInt ≤ 16 ∧ r.toNatClampNeg = lix a ∧ (r = 16 ↔ a.toInt = -1))) := by
  unfold Tab_listOf lix
  have km : ((-1) : Int32).toInt = -1 := by decide
  have k0 : (0 : Int32).toInt = 0 := by decide
  have k16 : (16 : Int32).toInt = 16 := by decide
  refine So.ite (fun c1 => ?_) (fun c1 => ?_)
  · rw [if_pos c1]
    rw [i_eq] at c1
    exact So.one (Or.inr ⟨by decide, by omega, by decide, by decide, by decide, ⟨fun _ => by omega, fun _ => rfl⟩⟩)
  · rw [if_neg c1]
    rw [i_eq] at c1
    refine So.ite (fun c2 => ?_) (fun c2 => ?_) <;> rw [i_lt] at c2
    · exact So.one (Or.inl ⟨rfl, by omega⟩)
    · refine So.ite (fun c3 => ?_) (fun c3 => ?_) <;> rw [i_le] at c3
      · exact So.one (Or.inl ⟨rfl, by omega⟩)
      · refine So.one (Or.inr ⟨fun e => ?_, by omega, by omega, by omega, rfl, ⟨fun e => ?_, fun e => by omega⟩⟩)
        · rw [i_eq] at e; omega
        · rw [i_eq] at e; omega
theorem mo_bad {a0 a1 : Int32} {s : S_Mo} {ls le : Nat → Int32} : Mod_append_j19 a0 a1 s ls le = some (0, Mo_set_thrown s 1, ls, le) := by
  unfold Mod_append_j19 Mod_append_j24 o_lt
  dsimp only
  split
  · unfold Mod_append_j37
    rw [if_neg (show ¬ (1 : Int32) = 0 by decide)]
    unfold Mod_append_j70
    rw [if_neg (show ¬ (1 : Int32) ≤ 0 by decide)]
  · unfold Mod_append_j37
    rw [if_neg (show ¬ (1 : Int32) = 0 by decide)]
    unfold Mod_append_j70
    rw [if_neg (show ¬ (1 : Int32) ≤ 0 by decide)]
theorem mo_good {a0 a1 : Int32} {s : S_Mo} {ls le : Nat → Int32} (Ile : A_Mlengths le) (h0 : -1 ≤ a0.toInt) (h1 : a0.toInt < 16) : Mod_append_j24 a0 a1 0 s ls le = (if (le (lix a0)).toInt = (if a0.toInt = -1 then 24 else 8) then some (0, Mo_set_thrown s 2, ls, le) else some (le (lix a0) + 1, Mo_set_thrown s 0, upd ls (24 * (if a0.toInt = -1 then 16 else a0) + le (lix a0)).toNatClampNeg a1, upd le (lix a0) (le (lix a0) + 1))) := by
  have km : ((-1) : Int32).toInt = -1 := by decide
  have k0 : (0 : Int32).toInt = 0 := by decide
  have k16 : (16 : Int32).toInt = 16 := by decide
  have k24 : (24 : Int32).toInt = 24 := by decide
  have k8 : (8 : Int32).toInt = 8 := by decide
  have kn : (16 : Int32).toNatClampNeg = 16 := by decide
  have hl := A_Mlengths_at Ile (lix a0)
  -- the common end
  have j70 : ∀ (z : Int32) (d : Int32), z.toNatClampNeg = lix a0 → 0 ≤ z.toInt → z.toInt ≤ 16 → (le (lix a0)).toInt < 24 → Mod_append_j70 a1 z (Mo_set_thrown s 0) ls le = some (le (lix a0) + 1, Mo_set_thrown s 0, upd ls (24 * z + le (lix a0)).toNatClampNeg a1, upd le (lix a0) (le (lix a0) + 1)) := by
    intro z d hz hz0 hz1 hlt
    unfold Mod_append_j70
    have m1 := i_mull 24 z 24 (by decide) (by omega) (by omega)
    have m2 := i_add (a := 24 * z) (b := le (lix a0)) (by omega) (by omega)
    have g1 : o_in z 17 = true := i_in.mpr (by omega)
    have g2 : o_in (24 * z + le (lix a0)) 408 = true := i_in.mpr (by omega)
    rw [if_pos (show (0 : Int32) ≤ 0 by decide), hz]
    unfold o_gd o_lt
    simp only [g1, g2, ↓reduceIte, upd_at]
  have j62 : ∀ (z c : Int32), z.toNatClampNeg = lix a0 → 0 ≤ z.toInt → z.toInt ≤ 16 → ((le (lix a0)).toInt ≠ c.toInt → (le (lix a0)).toInt < 24) → Mod_append_j62 a1 z (le z.toNatClampNeg) c (Mo_set_thrown s 0) ls le = (if (le (lix a0)).toInt = c.toInt then some (0, Mo_set_thrown s 2, ls, le) else some (le (lix a0) + 1, Mo_set_thrown s 0, upd ls (24 * z + le (lix a0)).toNatClampNeg a1, upd le (lix a0) (le (lix a0) + 1))) := by
    intro z c hz hz0 hz1 hlt
    unfold Mod_append_j62
    rw [hz]
    by_cases e : le (lix a0) = c
    · rw [if_pos e, if_pos (by rw [e])]
      unfold o_lt Mod_append_j70
      dsimp only
      rw [if_neg (show ¬ (2 : Int32) ≤ 0 by decide)]
    · have e' : ¬ (le (lix a0)).toInt = c.toInt := fun h => e (i_eq.mpr h)
      rw [if_neg e, if_neg e']
      exact j70 z 0 hz hz0 hz1 (hlt e')
  unfold Mod_append_j24 o_lt
  dsimp only
  by_cases c : a0.toInt = -1
  · have hx : lix a0 = 16 := by unfold lix; rw [if_pos (i_eq.mpr (by omega))]
    rw [if_neg (show ¬ (0 : Int32) ≤ a0 by rw [i_le]; omega), if_pos c, if_pos c]
    unfold Mod_append_j37
    rw [if_pos (show (0 : Int32) = 0 from rfl)]
    unfold o_gd
    rw [if_pos (show o_in 16 17 = true by decide), if_neg (show ¬ (0 : Int32) ≤ a0 by rw [i_le]; omega)]
    have := j62 16 24 (by rw [hx]; decide) (by decide) (by decide) (fun h => by omega)
    rw [this, k24]
  · have hx : lix a0 = a0.toNatClampNeg := by unfold lix; rw [if_neg (fun e => c (by rw [e]; decide))]
    rw [if_pos (show (0 : Int32) ≤ a0 by rw [i_le]; omega), if_neg c, if_neg c]
    unfold Mod_append_j37
    rw [if_pos (show (0 : Int32) = 0 from rfl)]
    have hn := i_nat (a := a0) (by omega)
    unfold o_gd
    rw [if_pos (i_in.mpr (by omega) : o_in a0 17 = true), if_pos (show (0 : Int32) ≤ a0 by rw [i_le]; omega)]
    have := j62 a0 8 hx.symm (by omega) (by omega) (fun h => by omega)
    rw [this, k8]
theorem d_append {fu : Nat} {sX : S_X} {a0 a1 : Int32} {t : S_Tab} {s : S_Mo} {ls le : Nat → Int32} (hf : 12000 ≤ fu) (I : I_Tab t) (Ile : A_Mlengths le) (R : RL t le) : ∃ (q : Int32 × Int32 × S_Tab) (p : Int32 × S_Mo × (Nat → Int32) × (Nat → Int32)), X_append fu sX a0 a1 t = some q ∧ Mod_append a0 a1 s ls le = some p ∧ Mo_thrown p.2.1 = q.1 ∧ (q.1 = 0 ∨ q.1 = 1 ∨ q.1 = 2) ∧ (q.1 = 0 → q.2.1 = p.1) ∧ RL q.2.2 p.2.2.2 := by
  have km : ((-1) : Int32).toInt = -1 := by decide
  have k0 : (0 : Int32).toInt = 0 := by decide
  have k15 : (15 : Int32).toInt = 15 := by decide
  obtain ⟨q1, e1, h1⟩ := x_listOf (a := a0)
  unfold X_append Mod_append
  rw [e1]
  rcases h1 with ⟨h1, h2⟩ | ⟨h1, h2, h3, h4, h5, h6⟩
  · refine ⟨(1, 0, t), (0, Mo_set_thrown s 1, ls, le), ?_, ?_, rfl, Or.inr (Or.inl rfl), fun e => absurd (show (1 : Int32) = 0 from e) (by decide), R⟩
    · show (if q1 = (-1) then _ else _) = _
      rw [if_pos h1]
    · by_cases c : a0 < (-1)
      · rw [if_pos c]
        exact mo_bad
      · rw [if_neg c]
        rw [i_lt] at c
        rw [if_pos (show (15 : Int32) < a0 by rw [i_lt]; omega)]
        exact mo_bad
  · have c1 : ¬ a0 < (-1) := by rw [i_lt]; omega
    have c2 : ¬ (15 : Int32) < a0 := by rw [i_lt]; omega
    rw [if_neg c1, if_neg c2]
    obtain ⟨q2, e2, g2⟩ := t_Desc_isKnown (a0 := a1) hf
    obtain ⟨p2, f2, k2⟩ := t_Mod_isDescriptor (a0 := a1)
    rw [f2]
    by_cases c3 : q2 = 0
    · have c3' : p2 = 0 := i_eq.mpr (by rw [i_eq] at c3; omega)
      refine ⟨(1, 0, t), (0, Mo_set_thrown s 1, ls, le), ?_, ?_, rfl, Or.inr (Or.inl rfl), fun e => absurd (show (1 : Int32) = 0 from e) (by decide), R⟩
      · show (if q1 = (-1) then _ else _) = _
        rw [if_neg h1, e2]
        show (if q2 = 0 then _ else _) = _
        rw [if_pos c3]
      · show (if p2 = 0 then _ else _) = _
        rw [if_pos c3']
        exact mo_bad
    · have c3' : ¬ p2 = 0 := fun e => by
        have : q2.toInt ≠ 0 := fun h => c3 (i_eq.mpr (by omega))
        rw [i_eq] at e
        omega
      have hsz := I_Tab_sizes I q1.toNatClampNeg
      have hn := i_nat h3
      rw [h5] at hsz
      have hRl : Tab_sizes t (lix a0) = le (lix a0) := R (lix a0)
      have hl := A_Mlengths_at Ile (lix a0)
      have hlx : (lix a0 : Int) = q1.toInt := by rw [← h5]; exact hn
      have cap : q1 = 16 ∨ q1 ≠ 16 := by by_cases e : q1 = 16; exact Or.inl e; exact Or.inr e
      have k16 : (16 : Int32).toInt = 16 := by decide
      have k24 : (24 : Int32).toInt = 24 := by decide
      have k8 : (8 : Int32).toInt = 8 := by decide
      have g17 : o_in q1 17 = true := i_in.mpr (by omega)
      -- is it full
      have full : Tab_isFull t q1 = some (if (le (lix a0)).toInt = (if a0.toInt = -1 then 24 else 8) then 1 else 0) := by
        unfold Tab_isFull Tab_isFull_j19 o_gd
        rw [if_pos g17, h5, hRl]
        by_cases e : q1 = 16
        · have ea := h6.mp e
          rw [if_pos e, if_pos ea]
          by_cases el : (le (lix a0)).toInt = 24
          · rw [if_pos el, if_neg (by rw [i_lt]; omega)]
          · rw [if_neg el, if_pos (by rw [i_lt]; omega)]
        · have ea : ¬ a0.toInt = -1 := fun h => e (h6.mpr h)
          have e' : q1.toInt ≠ 16 := fun h => e (i_eq.mpr (by omega))
          rw [if_neg e, if_neg ea]
          by_cases el : (le (lix a0)).toInt = 8
          · rw [if_pos el, if_neg (by rw [i_lt]; omega)]
          · rw [if_neg el, if_pos (by rw [i_lt]; omega)]
      have hmo := mo_good (a1 := a1) (s := s) (ls := ls) Ile h2.1 (by omega)
      by_cases cf : (le (lix a0)).toInt = (if a0.toInt = -1 then 24 else 8)
      · rw [if_pos cf] at full hmo
        refine ⟨(2, 0, t), (0, Mo_set_thrown s 2, ls, le), ?_, ?_, rfl, Or.inr (Or.inr rfl), fun e => absurd (show (2 : Int32) = 0 from e) (by decide), R⟩
        · show (if q1 = (-1) then _ else _) = _
          rw [if_neg h1, e2]
          show (if q2 = 0 then _ else _) = _
          rw [if_neg c3, full]
          rfl
        · show (if p2 = 0 then _ else _) = _
          rw [if_neg c3']
          exact hmo
      · rw [if_neg cf] at full hmo
        have hlt : (le (lix a0)).toInt < 24 ∧ (q1.toInt < 16 → (le (lix a0)).toInt < 8) := by
          by_cases ea : a0.toInt = -1
          · rw [if_pos ea] at cf
            have := h6.mpr ea
            rw [i_eq] at this
            omega
          · rw [if_neg ea] at cf
            have : q1.toInt ≠ 16 := fun h => ea (h6.mp (i_eq.mpr (by omega)))
            omega
        obtain ⟨u, eu, hu⟩ := t_Tab_endOf (sTab := t) (a0 := q1) I h3 h4
        rw [h5, hRl] at hu
        refine ⟨(0, le (lix a0) + 1, Tab_put_sizes (Tab_put_listed t u.toNatClampNeg a1) (lix a0) (le (lix a0) + 1)), (le (lix a0) + 1, Mo_set_thrown s 0, upd ls (24 * (if a0.toInt = -1 then 16 else a0) + le (lix a0)).toNatClampNeg a1, upd le (lix a0) (le (lix a0) + 1)), ?_, (by
          show (if p2 = 0 then _ else _) = _
          rw [if_neg c3']
          exact hmo), rfl, Or.inl rfl, fun _ => rfl, fun j => ?_⟩
        · show (if q1 = (-1) then _ else _) = _
          rw [if_neg h1, e2]
          show (if q2 = 0 then _ else _) = _
          rw [if_neg c3, full]
          show o_bd (Tab_extend q1 a1 t) _ = _
          have ee : Tab_extend q1 a1 t = some (le (lix a0) + 1, Tab_put_sizes (Tab_put_listed t u.toNatClampNeg a1) (lix a0) (le (lix a0) + 1)) := by
            unfold Tab_extend
            rw [eu]
            show o_gd (o_in u 152) _ = _
            unfold o_gd o_lt
            have gu : o_in u 152 = true := i_in.mpr (by omega)
            simp only [gu, g17, ↓reduceIte]
            rw [h5]
            show some (upd (Tab_sizes t) (lix a0) (Tab_sizes t (lix a0) + 1) (lix a0), _) = _
            rw [upd_at, hRl]
          rw [ee]
          rfl
        · show upd (Tab_sizes t) (lix a0) (le (lix a0) + 1) j = upd le (lix a0) (le (lix a0) + 1) j
          by_cases ej : j = lix a0
          · rw [ej, upd_at, upd_at]
          · rw [upd_ne ej, upd_ne ej]
            exact R j

-- p5: the law's cases keep it
theorem x_clear {sX : S_X} {a : Int32} {t : S_Tab} {r : Int32 × S_Tab} (h : X_clear sX a t = some r) : (¬ (-1 ≤ a.toInt ∧ a.toInt < 16) ∧ Tab_sizes r.2 = Tab_sizes t) ∨ ((-1 ≤ a.toInt ∧ a.toInt < 16) ∧ Tab_sizes r.2 = upd (Tab_sizes t) (lix a) 0) := by
  unfold X_clear at h
  obtain ⟨q1, e1, h1, h⟩ := oe_bd x_listOf h
  by_cases c1 : q1 = (-1)
  · rw [if_pos c1] at h
    cases h
    rcases h1 with h1 | h1
    · exact Or.inl ⟨h1.2, rfl⟩
    · exact absurd c1 h1.1
  · rw [if_neg c1] at h
    rcases h1 with h1 | h1
    · exact absurd h1.1 c1
    · unfold o_lt at h
      have h := oe_gd h
      cases h
      refine Or.inr ⟨h1.2.1, ?_⟩
      show upd (Tab_sizes t) q1.toNatClampNeg 0 = _
      rw [h1.2.2.2.2.1]
theorem m_clear {a : Int32} {s : S_Mo} {le : Nat → Int32} {r : S_Mo × (Nat → Int32)} (h : Mod_clear a s le = some r) : (¬ (-1 ≤ a.toInt ∧ a.toInt < 16) ∧ r.2 = le) ∨ ((-1 ≤ a.toInt ∧ a.toInt < 16) ∧ r.2 = upd le (lix a) 0) := by
  have k0 : (0 : Int32).toInt = 0 := by decide
  have km : ((-1) : Int32).toInt = -1 := by decide
  have k15 : (15 : Int32).toInt = 15 := by decide
  have bad : Mod_clear_j12 a s le = some r → r.2 = le := by
    intro g
    unfold Mod_clear_j12 Mod_clear_j17 o_lt at g
    dsimp only at g
    rw [if_neg (show ¬ (1 : Int32) = 0 by decide)] at g
    cases g
    rfl
  unfold Mod_clear at h
  by_cases c1 : a < (-1)
  · rw [if_pos c1] at h
    rw [i_lt] at c1
    exact Or.inl ⟨by omega, bad h⟩
  · rw [if_neg c1] at h
    rw [i_lt] at c1
    by_cases c2 : a ≤ 15
    · rw [if_pos c2] at h
      rw [i_le] at c2
      refine Or.inr ⟨by omega, ?_⟩
      unfold Mod_clear_j17 o_lt at h
      dsimp only at h
      rw [if_pos (show (0 : Int32) = 0 from rfl)] at h
      by_cases c3 : (0 : Int32) ≤ a
      · rw [if_pos c3] at h
        rw [i_le] at c3
        have h := oe_gd h
        cases h
        show upd le a.toNatClampNeg 0 = upd le (lix a) 0
        unfold lix
        rw [if_neg (fun e => by rw [i_eq] at e; omega)]
      · rw [if_neg c3] at h
        rw [i_le] at c3
        have h := oe_gd h
        cases h
        show upd le (16 : Int32).toNatClampNeg 0 = upd le (lix a) 0
        unfold lix
        rw [if_pos (i_eq.mpr (by omega))]
        rfl
    · rw [if_neg c2] at h
      rw [i_le] at c2
      exact Or.inl ⟨by omega, bad h⟩
theorem l_clear {sX : S_X} {a : Int32} {t : S_Tab} {q : Int32 × S_Tab} (h : Law_clear sX a t = some q) : ∃ p, X_clear sX a t = some p ∧ q.2 = p.2 := by
  unfold Law_clear at h
  obtain ⟨p, e, h⟩ := oi_bd h
  refine ⟨p, e, ?_⟩
  split at h
  · cases h; rfl
  · split at h
    · cases h; rfl
    · cases h
theorem rl_c0 {fu L : Nat} {xs : Nat → Int32} {sX : S_X} {x4 : Int32} {t : S_Tab} {s : S_Mo} {th sc rf wi le : Nat → Int32} {r : S_Tab × S_Mo × (Nat → Int32) × (Nat → Int32) × (Nat → Int32) × (Nat → Int32)} (h : La_c0 fu xs L sX x4 t s th sc rf wi = some r) (R : RL t le) : RL r.1 le := by
  unfold La_c0 at h
  have h := oe_gd (oe_gd (oe_gd (oe_gd (oe_gd h))))
  obtain ⟨q, e, h⟩ := oi_bd h
  have h := oe_gd (oe_gd (oe_gd (oe_gd (oe_gd h))))
  obtain ⟨p, f, h⟩ := oi_bd h
  cases h
  exact R.same (s_element e)
theorem rl_c1 {fu L : Nat} {xs : Nat → Int32} {sX : S_X} {x4 : Int32} {t : S_Tab} {s : S_Mo} {th le : Nat → Int32} {r : S_Tab × S_Mo × (Nat → Int32)} (h : La_c1 fu xs L sX x4 t s th = some r) (R : RL t le) : RL r.1 le := by
  unfold La_c1 at h
  have h := oe_gd (oe_gd h)
  obtain ⟨q, e, h⟩ := oi_bd h
  have h := oe_gd (oe_gd h)
  obtain ⟨p, f, h⟩ := oi_bd h
  cases h
  exact R.same (s_drop e)
theorem rl_c2 {fu L : Nat} {xs : Nat → Int32} {sX : S_X} {x4 : Int32} {t : S_Tab} {s : S_Mo} {le : Nat → Int32} {r : S_Tab × S_Mo} (h : La_c2 fu xs L sX x4 t s = some r) (R : RL t le) : RL r.1 le := by
  unfold La_c2 at h
  have h := oe_gd h
  obtain ⟨q, e, h⟩ := oi_bd h
  have h := oe_gd h
  obtain ⟨p, f, h⟩ := oi_bd h
  cases h
  exact R.same (s_version e)
theorem rl_c4 {fu L : Nat} {xs : Nat → Int32} {sX : S_X} {x4 : Int32} {t : S_Tab} {s : S_Mo} {le : Nat → Int32} {r : S_Tab × S_Mo × (Nat → Int32)} (h : La_c4 fu xs L sX x4 t s le = some r) (R : RL t le) : RL r.1 r.2.2 := by
  unfold La_c4 at h
  have h := oe_gd h
  obtain ⟨q, e, h⟩ := oi_bd h
  have h := oe_gd h
  obtain ⟨p, f, h⟩ := oi_bd h
  obtain ⟨u, eu, e2⟩ := l_clear e
  cases h
  show RL q.2 p.2
  rw [e2]
  intro j
  rcases x_clear eu with ⟨c, hx⟩ | ⟨c, hx⟩
  · rcases m_clear f with ⟨c', hm⟩ | ⟨c', hm⟩
    · rw [hx, hm]
      exact R j
    · exact absurd c' c
  · rcases m_clear f with ⟨c', hm⟩ | ⟨c', hm⟩
    · exact absurd c c'
    · rw [hx, hm]
      by_cases ej : j = lix (xs (x4 + 1 : Int32).toNatClampNeg)
      · rw [ej, upd_at, upd_at]
      · rw [upd_ne ej, upd_ne ej]
        exact R j
theorem t_La_c3 {fu L : Nat} {xs : Nat → Int32} {sX : S_X} {x4 : Int32} {t : S_Tab} {s : S_Mo} {ls le : Nat → Int32} {w : Nat → Int64} (hf : 45000 ≤ fu) (I : I_Tab t) (Im : I_Mo s) (Ils : A_Mlists ls) (Ile : A_Mlengths le) (h0 : 0 ≤ x4.toInt) (h1 : x4.toInt + 5 < (L : Int)) (h2 : (L : Int) ≤ 3072) (R : RL t le) : So (La_c3 fu xs L sX x4 t s ls le w) (fun r => I_Tab r.1 ∧ I_Mo r.2.1 ∧ A_Mlists r.2.2.1 ∧ A_Mlengths r.2.2.2.1 ∧ RL r.1 r.2.2.2.1) := by
  unfold La_c3
  have k1 : (1 : Int32).toInt = 1 := by decide
  have k2 : (2 : Int32).toInt = 2 := by decide
  have e1 := i_add (a := x4) (b := 1) (by omega) (by omega)
  have e2 := i_add (a := x4) (b := 2) (by omega) (by omega)
  have g1 : o_in (x4 + 1) L = true := i_in.mpr (by omega)
  have g2 : o_in (x4 + 2) L = true := i_in.mpr (by omega)
  obtain ⟨q, p, eq, ep, hth, h012, hv, hR⟩ := d_append (fu := fu) (sX := sX) (a0 := xs (x4 + 1).toNatClampNeg) (a1 := xs (x4 + 2).toNatClampNeg) (s := s) (ls := ls) (by omega) I Ile R
  obtain ⟨q', eq', hq'⟩ := t_X_append (fu := fu) (sX := sX) (a0 := xs (x4 + 1).toNatClampNeg) (a1 := xs (x4 + 2).toNatClampNeg) (by omega) I
  obtain ⟨p', ep', hp'⟩ := t_Mod_append (a0 := xs (x4 + 1).toNatClampNeg) (a1 := xs (x4 + 2).toNatClampNeg) Im Ils Ile
  rw [eq] at eq'
  rw [ep] at ep'
  cases eq'
  cases ep'
  have el : Law_append fu 1 sX (xs (x4 + 1).toNatClampNeg) (xs (x4 + 2).toNatClampNeg) t w = some (q.1, q.2.2, if q.1 = 0 then vp_updL w (0 : Int32).toNatClampNeg (q.2.1.toInt64) else w) := by
    unfold Law_append
    rw [eq]
    show (if q.1 = 0 then _ else _) = _
    rcases h012 with c | c | c
    · rw [if_pos c, if_pos c, c]
      rfl
    · have n0 : ¬ q.1 = 0 := by rw [c]; decide
      rw [if_neg n0, if_pos c, if_neg n0, c]
    · have n0 : ¬ q.1 = 0 := by rw [c]; decide
      have n1 : ¬ q.1 = 1 := by rw [c]; decide
      rw [if_neg n0, if_neg n1, if_pos c, if_neg n0, c]
  have et : Mod_thrown p.2.1 = some q.1 := by
    unfold Mod_thrown
    rw [hth]
  have fin : ∀ w', So (some (q.2.2, p.2.1, p.2.2.1, p.2.2.2, w')) (fun r : S_Tab × S_Mo × (Nat → Int32) × (Nat → Int32) × (Nat → Int64) => I_Tab r.1 ∧ I_Mo r.2.1 ∧ A_Mlists r.2.2.1 ∧ A_Mlengths r.2.2.2.1 ∧ RL r.1 r.2.2.2.1) := fun w' => So.one ⟨hq'.1, hp'.1, hp'.2.1, hp'.2.2.1, hR⟩
  refine So.gd g1 (So.gd g2 (So.bde el (So.gd g1 (So.gd g2 (So.bde ep (So.bde et (So.pos rfl ?_)))))))
  by_cases c : q.1 = 0
  · refine So.pos c (So.gd (by decide) (So.pos ?_ (fin _)))
    show (if q.1 = 0 then vp_updL w (0 : Int32).toNatClampNeg (q.2.1.toInt64) else w) (0 : Int32).toNatClampNeg = p.1.toInt64
    rw [if_pos c, ← hv c]
    exact if_pos rfl
  · exact So.neg c (fin _)

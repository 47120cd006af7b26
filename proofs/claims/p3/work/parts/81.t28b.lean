-- common rows
theorem So.bdq {α β : Type} {x : Option α} {f : α → Option β} {Q : α → Prop} {P : β → Prop} (h : So x Q) (hf : ∀ q, x = some q → Q q → So (f q) P) : So (o_bd x f) P := by
  obtain ⟨r, e, hr⟩ := h
  rw [e]
  exact hf r e hr
theorem So.and {α : Type} {x : Option α} {P Q : α → Prop} (h : So x P) (g : So x Q) : So x (fun r => P r ∧ Q r) := by
  obtain ⟨r, e, hr⟩ := h
  obtain ⟨r', e', hr'⟩ := g
  rw [e] at e'
  cases e'
  exact ⟨r, e, hr, hr'⟩
theorem gd_t {α : Type} {b : Bool} {k : Option α} (h : b = true) : o_gd b k = k := if_pos h
theorem bd_s {α β : Type} {x : Option α} {a : α} {f : α → Option β} (e : x = some a) : o_bd x f = f a := by
  rw [e]
  rfl

-- p3: an entry is there where its width is not 0
def RT (t : S_Tab) (th : Nat → Int32) : Prop := ∀ j : Nat, (Tab_widths t j = 0 ↔ th j = 0)
def eix (a0 a1 : Int32) : Nat := if a0 = (-1) then 256 + a1.toNatClampNeg else 64 * a0.toNatClampNeg + a1.toNatClampNeg
def EV (a0 a1 : Int32) : Prop := -1 ≤ a0.toInt ∧ a0.toInt < 4 ∧ 0 ≤ a1.toInt ∧ a1.toInt < 64
theorem x_entryOf {a0 a1 : Int32} : So (Tab_entryOf a0 a1) (fun r => (r = (-1) ∧ ¬ EV a0 a1) ∨ (EV a0 a1 ∧ r ≠ (-1) ∧ 0 ≤ r.toInt ∧ r.toInt < 320 ∧ r.toNatClampNeg = eix a0 a1)) := by
  unfold Tab_entryOf EV
  have km : ((-1) : Int32).toInt = -1 := by decide
  have k4 : (4 : Int32).toInt = 4 := by decide
  have k0 : (0 : Int32).toInt = 0 := by decide
  refine So.ite (fun c1 => ?_) (fun c1 => ?_) <;> rw [i_lt] at c1
  · exact So.one (Or.inl ⟨rfl, by omega⟩)
  · refine So.ite (fun c2 => ?_) (fun c2 => ?_) <;> rw [i_le] at c2
    · exact So.one (Or.inl ⟨rfl, by omega⟩)
    · refine So.bd t_Desc_isElement fun q1 h1 => ?_
      refine So.ite (fun c3 => ?_) (fun c3 => ?_) <;> rw [i_eq] at c3
      · exact So.one (Or.inl ⟨rfl, by omega⟩)
      · have hn1 := i_nat (a := a1) (by omega)
        refine So.ite (fun c4 => ?_) (fun c4 => ?_)
        · have e : Tab_entryAt 4 a1 = some (4 * 64 + a1) := rfl
          refine So.bde e (So.one (Or.inr ?_))
          have k256 : (4 * 64 : Int32).toInt = 256 := by decide
          have e1 := i_add (a := 4 * 64) (b := a1) (by omega) (by omega)
          have hn := i_nat (a := 4 * 64 + a1) (by omega)
          refine ⟨by omega, fun e => ?_, by omega, by omega, ?_⟩
          · rw [e] at e1; omega
          · unfold eix
            rw [if_pos c4]
            omega
        · have c4' : a0.toInt ≠ -1 := fun e => c4 (i_eq.mpr (by omega))
          have e : Tab_entryAt a0 a1 = some (a0 * 64 + a1) := rfl
          refine So.bde e (So.one (Or.inr ?_))
          have m1 := i_mulr a0 64 64 (by decide) (by omega) (by omega)
          have e1 := i_add (a := a0 * 64) (b := a1) (by omega) (by omega)
          have hn := i_nat (a := a0 * 64 + a1) (by omega)
          have hn0 := i_nat (a := a0) (by omega)
          refine ⟨by omega, fun e => ?_, by omega, by omega, ?_⟩
          · rw [e] at e1; omega
          · unfold eix
            rw [if_neg c4]
            omega
theorem m_entry {a0 a1 : Int32} (h : EV a0 a1) : So (Mod_entry a0 a1) (fun r => 0 ≤ r.toInt ∧ r.toInt < 320 ∧ r.toNatClampNeg = eix a0 a1) := by
  obtain ⟨h1, h2, h3, h4⟩ := h
  refine So.imp (t_Mod_entry h1 h2 h3 h4) fun r hr => ?_
  have km : ((-1) : Int32).toInt = -1 := by decide
  have hn1 := i_nat h3
  have hn := i_nat (a := r) (by omega)
  refine ⟨by omega, by omega, ?_⟩
  unfold eix
  by_cases c : a0 = (-1)
  · rw [if_pos c]
    rw [i_eq] at c
    omega
  · rw [if_neg c]
    rw [i_eq] at c
    have hn0 := i_nat (a := a0) (by omega)
    omega
def CEl (a0 a1 a2 a3 a4 : Int32) : Prop := EV a0 a1 ∧ (-8 ≤ a2.toInt ∧ a2.toInt ≤ 8 ∧ 1 ≤ a4.toInt ∧ a4.toInt ≤ 32 ∧ -1000000000 ≤ a3.toInt ∧ a3.toInt ≤ 1000000000)
theorem x_element {sX : S_X} {a0 a1 a2 a3 a4 : Int32} {t : S_Tab} {r : Int32 × S_Tab} (h : X_element sX a0 a1 a2 a3 a4 t = some r) : (¬ CEl a0 a1 a2 a3 a4 ∧ Tab_widths r.2 = Tab_widths t) ∨ (CEl a0 a1 a2 a3 a4 ∧ Tab_widths r.2 = upd (Tab_widths t) (eix a0 a1) a4) := by
  unfold X_element at h
  obtain ⟨q1, e1, h1, h⟩ := oe_bd x_entryOf h
  by_cases c1 : q1 = (-1)
  · rw [if_pos c1] at h
    cases h
    rcases h1 with h1 | h1
    · exact Or.inl ⟨fun e => h1.2 e.1, rfl⟩
    · exact absurd c1 h1.2.1
  · rw [if_neg c1] at h
    rcases h1 with h1 | h1
    · exact absurd h1.1 c1
    · obtain ⟨q2, e2, h2, h⟩ := oe_bd t_Tab_isEntry h
      by_cases c2 : q2 = 0
      · rw [if_pos c2] at h
        cases h
        rw [i_eq] at c2
        have k0 : (0 : Int32).toInt = 0 := by decide
        exact Or.inl ⟨fun e => by obtain ⟨_, e⟩ := e; omega, rfl⟩
      · rw [if_neg c2] at h
        rw [i_eq] at c2
        have k0 : (0 : Int32).toInt = 0 := by decide
        unfold o_lt at h
        have h := oe_gd (oe_gd (oe_gd h))
        cases h
        refine Or.inr ⟨⟨h1.1, by omega⟩, ?_⟩
        show upd (Tab_widths t) q1.toNatClampNeg a4 = _
        rw [h1.2.2.2.2]
theorem m_element {a0 a1 a2 a3 a4 : Int32} {s : S_Mo} {th sc rf wi : Nat → Int32} {r : S_Mo × (Nat → Int32) × (Nat → Int32) × (Nat → Int32) × (Nat → Int32)} (h : Mod_element a0 a1 a2 a3 a4 s th sc rf wi = some r) : (¬ CEl a0 a1 a2 a3 a4 ∧ r.2.1 = th) ∨ (CEl a0 a1 a2 a3 a4 ∧ r.2.1 = upd th (eix a0 a1) (vp_nar .boolean 1)) := by
  unfold Mod_element at h
  have bad : Mod_element_j51 a0 a1 a2 a3 a4 s th sc rf wi = some r → r.2.1 = th := by
    intro g
    unfold Mod_element_j51 Mod_element_j52 at g
    rw [if_pos rfl] at g
    unfold Mod_element_j65 at g
    unfold o_lt at g
    dsimp only at g
    rw [if_pos rfl] at g
    cases g
    rfl
  have k0 : (0 : Int32).toInt = 0 := by decide
  have k8 : (8 : Int32).toInt = 8 := by decide
  have km8 : ((-8) : Int32).toInt = -8 := by decide
  have k1 : (1 : Int32).toInt = 1 := by decide
  have k32 : (32 : Int32).toInt = 32 := by decide
  have kb : (1000000000 : Int32).toInt = 1000000000 := by decide
  have kmb : ((-1000000000) : Int32).toInt = -1000000000 := by decide
  obtain ⟨q1, e1, h1, h⟩ := oe_bd t_Mod_isEntry h
  by_cases c1 : q1 = 0
  · rw [if_pos c1] at h
    rw [i_eq] at c1
    exact Or.inl ⟨fun e => by obtain ⟨⟨e1, e2, e3, e4⟩, _⟩ := e; omega, bad h⟩
  · rw [if_neg c1] at h
    rw [i_eq] at c1
    by_cases c2 : a2 < (-8)
    · rw [if_pos c2] at h
      rw [i_lt] at c2
      exact Or.inl ⟨fun e => by obtain ⟨_, e⟩ := e; omega, bad h⟩
    · rw [if_neg c2] at h
      rw [i_lt] at c2
      by_cases c3 : 8 < a2
      · rw [if_pos c3] at h
        rw [i_lt] at c3
        exact Or.inl ⟨fun e => by obtain ⟨_, e⟩ := e; omega, bad h⟩
      · rw [if_neg c3] at h
        rw [i_lt] at c3
        by_cases c4 : a3 < (-1000000000)
        · rw [if_pos c4] at h
          rw [i_lt] at c4
          exact Or.inl ⟨fun e => by obtain ⟨_, e⟩ := e; omega, bad h⟩
        · rw [if_neg c4] at h
          rw [i_lt] at c4
          by_cases c5 : 1000000000 < a3
          · rw [if_pos c5] at h
            rw [i_lt] at c5
            exact Or.inl ⟨fun e => by obtain ⟨_, e⟩ := e; omega, bad h⟩
          · rw [if_neg c5] at h
            rw [i_lt] at c5
            by_cases c6 : a4 < 1
            · rw [if_pos c6] at h
              rw [i_lt] at c6
              exact Or.inl ⟨fun e => by obtain ⟨_, e⟩ := e; omega, bad h⟩
            · rw [if_neg c6] at h
              rw [i_lt] at c6
              by_cases c7 : 32 < a4
              · rw [if_pos c7] at h
                rw [i_lt] at c7
                exact Or.inl ⟨fun e => by obtain ⟨_, e⟩ := e; omega, bad h⟩
              · rw [if_neg c7] at h
                rw [i_lt] at c7
                have hE : EV a0 a1 := by unfold EV; omega
                refine Or.inr ⟨⟨hE, by omega⟩, ?_⟩
                unfold Mod_element_j52 at h
                rw [if_neg (by decide)] at h
                unfold Mod_element_j65 at h
                unfold o_lt at h
                dsimp only at h
                rw [if_neg (by decide)] at h
                obtain ⟨q11, e11, h11, h⟩ := oe_bd (m_entry hE) h
                have h := oe_gd (oe_gd (oe_gd (oe_gd h)))
                cases h
                show upd th q11.toNatClampNeg _ = _
                rw [h11.2.2]
theorem nar1 : vp_nar .boolean 1 = 1 := by decide
theorem nar0 : vp_nar .boolean 0 = 0 := by decide
theorem RT.element {t t' : S_Tab} {th th' : Nat → Int32} {a0 a1 a2 a3 a4 : Int32} (R : RT t th) (h : (¬ CEl a0 a1 a2 a3 a4 ∧ Tab_widths t' = Tab_widths t) ∨ (CEl a0 a1 a2 a3 a4 ∧ Tab_widths t' = upd (Tab_widths t) (eix a0 a1) a4)) (h' : (¬ CEl a0 a1 a2 a3 a4 ∧ th' = th) ∨ (CEl a0 a1 a2 a3 a4 ∧ th' = upd th (eix a0 a1) (vp_nar .boolean 1))) : RT t' th' := fun j => by
  rcases h with ⟨c, e⟩ | ⟨c, e⟩
  · rcases h' with ⟨c', e'⟩ | ⟨c', e'⟩
    · rw [e, e']
      exact R j
    · exact absurd c' c
  · rcases h' with ⟨c', e'⟩ | ⟨c', e'⟩
    · exact absurd c c'
    · rw [e, e', nar1]
      by_cases ej : j = eix a0 a1
      · rw [ej, upd_at, upd_at]
        obtain ⟨_, _, _, g, _⟩ := c
        have k0 : (0 : Int32).toInt = 0 := by decide
        constructor
        · intro e4
          rw [i_eq] at e4
          omega
        · intro e1
          exact absurd e1 (by decide)
      · rw [upd_ne ej, upd_ne ej]
        exact R j
-- dropping
theorem d_drop {sX : S_X} {a0 a1 : Int32} {t : S_Tab} {s : S_Mo} {th : Nat → Int32} (I : I_Tab t) (Im : I_Mo s) (It : A_Mthere th) (R : RT t th) : ∃ (q : Int32 × S_Tab) (p : Int32 × S_Mo × (Nat → Int32)), X_drop sX a0 a1 t = some q ∧ Mod_drop a0 a1 s th = some p ∧ q.1 = p.1 ∧ RT q.2 p.2.2 := by
  obtain ⟨q1, e1, h1⟩ := x_entryOf (a0 := a0) (a1 := a1)
  obtain ⟨p1, f1, g1⟩ := t_Mod_isEntry (a0 := a0) (a1 := a1)
  unfold X_drop Mod_drop
  rw [e1, f1]
  have k0 : (0 : Int32).toInt = 0 := by decide
  rcases h1 with ⟨h1, h2⟩ | ⟨h1, h2, h3, h4, h5⟩
  · refine ⟨(0, t), (0, Mo_set_thrown s 0, th), ?_, ?_, rfl, R⟩
    · show (if q1 = (-1) then _ else _) = _
      rw [if_pos h1]
    · have c : p1 = 0 := i_eq.mpr (by unfold EV at h2; omega)
      show (if p1 = 0 then _ else _) = _
      rw [if_pos c]
  · have c : ¬ p1 = 0 := fun e => by rw [i_eq] at e; unfold EV at h1; omega
    obtain ⟨p3, f3, g3⟩ := m_entry h1
    have hin : o_in q1 320 = true := i_in.mpr ⟨h3, by omega⟩
    have hin3 : o_in p3 320 = true := i_in.mpr ⟨g3.1, by omega⟩
    have hb : o_bool (th (eix a0 a1)) = true := by
      have := A_Mthere_at It (eix a0 a1)
      exact i_bool (by omega)
    have hm : Mod_drop a0 a1 s th = some (th (eix a0 a1), Mo_set_thrown s 0, upd th (eix a0 a1) (vp_nar .boolean 0)) := by
      unfold Mod_drop
      rw [f1]
      show (if p1 = 0 then _ else _) = _
      rw [if_neg c, f3]
      show o_gd (o_in p3 320) _ = _
      unfold o_gd
      rw [if_pos hin3]
      show o_gd (o_in p3 320) _ = _
      unfold o_gd o_lt
      rw [if_pos hin3, g3.2.2]
      dsimp only
      rw [if_pos hb]
    have hm' : (if p1 = 0 then some (0, Mo_set_thrown s 0, th) else o_bd (Mod_entry a0 a1) fun q3 => o_gd (o_in q3 320) (o_bd (Mod_entry a0 a1) fun q5 => o_gd (o_in q5 320) (o_lt (upd th q5.toNatClampNeg (vp_nar .boolean 0)) fun sMthere_7 => o_gd (o_bool (th q3.toNatClampNeg)) (some (th q3.toNatClampNeg, Mo_set_thrown s 0, sMthere_7))))) = some (th (eix a0 a1), Mo_set_thrown s 0, upd th (eix a0 a1) (vp_nar .boolean 0)) := by
      unfold Mod_drop at hm
      rw [f1] at hm
      exact hm
    by_cases cw : Tab_widths t (eix a0 a1) = 0
    · have ct : th (eix a0 a1) = 0 := (R _).mp cw
      refine ⟨(0, t), _, ?_, hm', ct.symm, fun j => ?_⟩
      · show (if q1 = (-1) then _ else _) = _
        rw [if_neg h2]
        unfold o_gd
        rw [if_pos hin, h5, if_pos cw]
      · show Tab_widths t j = 0 ↔ upd th (eix a0 a1) (vp_nar .boolean 0) j = 0
        by_cases ej : j = eix a0 a1
        · rw [ej, upd_at, nar0]
          exact ⟨fun _ => rfl, fun _ => cw⟩
        · rw [upd_ne ej]
          exact R j
    · have ct : ¬ th (eix a0 a1) = 0 := fun e => cw ((R _).mpr e)
      have ct1 : th (eix a0 a1) = 1 := by
        have := A_Mthere_at It (eix a0 a1)
        have : (th (eix a0 a1)).toInt ≠ 0 := fun e => ct (i_eq.mpr (by omega))
        have k1 : (1 : Int32).toInt = 1 := by decide
        exact i_eq.mpr (by omega)
      refine ⟨(1, Tab_put_widths t (eix a0 a1) 0), _, ?_, hm', ct1.symm, fun j => ?_⟩
      · show (if q1 = (-1) then _ else _) = _
        rw [if_neg h2]
        unfold o_gd
        rw [if_pos hin, h5, if_neg cw, if_pos hin]
        rfl
      · show upd (Tab_widths t) (eix a0 a1) 0 j = 0 ↔ upd th (eix a0 a1) (vp_nar .boolean 0) j = 0
        by_cases ej : j = eix a0 a1
        · rw [ej, upd_at, upd_at, nar0]
        · rw [upd_ne ej, upd_ne ej]
          exact R j

-- p3: the law's cases keep it
theorem l_element {sX : S_X} {a1 a2 a3 a4 a5 : Int32} {t : S_Tab} {q : Int32 × S_Tab} (h : Law_element sX a1 a2 a3 a4 a5 t = some q) : ∃ p, X_element sX a1 a2 a3 a4 a5 t = some p ∧ q.2 = p.2 := by
  unfold Law_element at h
  obtain ⟨p, e, h⟩ := oi_bd h
  refine ⟨p, e, ?_⟩
  split at h
  · cases h; rfl
  · split at h
    · cases h; rfl
    · cases h
theorem w_version {sX : S_X} {a : Int32} {t : S_Tab} {q : Int32 × S_Tab} (h : Law_version sX a t = some q) : Tab_widths q.2 = Tab_widths t := by
  unfold Law_version at h
  obtain ⟨p, e, h⟩ := oi_bd h
  have e2 : Tab_widths p.2 = Tab_widths t := by
    unfold X_version at e
    split at e
    · cases e; rfl
    · split at e
      · cases e; rfl
      · cases e; rfl
  split at h
  · cases h; exact e2
  · split at h
    · cases h; exact e2
    · cases h
theorem w_clear {sX : S_X} {a : Int32} {t : S_Tab} {q : Int32 × S_Tab} (h : Law_clear sX a t = some q) : Tab_widths q.2 = Tab_widths t := by
  unfold Law_clear at h
  obtain ⟨p, e, h⟩ := oi_bd h
  have e2 : Tab_widths p.2 = Tab_widths t := by
    unfold X_clear at e
    obtain ⟨p1, _, e⟩ := oi_bd e
    split at e
    · cases e; rfl
    · have e := oe_gd e
      cases e; rfl
  split at h
  · cases h; exact e2
  · split at h
    · cases h; exact e2
    · cases h
theorem w_extend {a0 a1 : Int32} {t : S_Tab} {q : Int32 × S_Tab} (h : Tab_extend a0 a1 t = some q) : Tab_widths q.2 = Tab_widths t := by
  unfold Tab_extend at h
  obtain ⟨p, _, h⟩ := oi_bd h
  unfold o_lt at h
  have h := oe_gd (oe_gd (oe_gd (oe_gd h)))
  cases h
  rfl
theorem w_append {fu n : Nat} {sX : S_X} {a b : Int32} {t : S_Tab} {w : Nat → Int64} {q : Int32 × S_Tab × (Nat → Int64)} (h : Law_append fu n sX a b t w = some q) : Tab_widths q.2.1 = Tab_widths t := by
  unfold Law_append at h
  obtain ⟨p, e, h⟩ := oi_bd h
  have e2 : Tab_widths p.2.2 = Tab_widths t := by
    unfold X_append at e
    obtain ⟨p1, _, e⟩ := oi_bd e
    split at e
    · cases e; rfl
    · obtain ⟨p2, _, e⟩ := oi_bd e
      split at e
      · cases e; rfl
      · obtain ⟨p3, _, e⟩ := oi_bd e
        split at e
        · obtain ⟨p4, e4, e⟩ := oi_bd e
          cases e
          exact w_extend e4
        · cases e; rfl
  split at h
  · have h := oe_gd h
    cases h; exact e2
  · split at h
    · cases h; exact e2
    · split at h
      · cases h; exact e2
      · cases h
theorem RT.same {t t' : S_Tab} {th : Nat → Int32} (R : RT t th) (e : Tab_widths t' = Tab_widths t) : RT t' th := fun j => by
  rw [e]
  exact R j
theorem rt_c0 {fu L : Nat} {xs : Nat → Int32} {sX : S_X} {x4 : Int32} {t : S_Tab} {s : S_Mo} {th sc rf wi : Nat → Int32} {r : S_Tab × S_Mo × (Nat → Int32) × (Nat → Int32) × (Nat → Int32) × (Nat → Int32)} (h : La_c0 fu xs L sX x4 t s th sc rf wi = some r) (R : RT t th) : RT r.1 r.2.2.1 := by
  unfold La_c0 at h
  have h := oe_gd (oe_gd (oe_gd (oe_gd (oe_gd h))))
  obtain ⟨q, e, h⟩ := oi_bd h
  have h := oe_gd (oe_gd (oe_gd (oe_gd (oe_gd h))))
  obtain ⟨p, f, h⟩ := oi_bd h
  obtain ⟨u, eu, e2⟩ := l_element e
  cases h
  show RT q.2 p.2.1
  rw [e2]
  exact R.element (x_element eu) (m_element f)
theorem rt_c2 {fu L : Nat} {xs : Nat → Int32} {sX : S_X} {x4 : Int32} {t : S_Tab} {s : S_Mo} {th : Nat → Int32} {r : S_Tab × S_Mo} (h : La_c2 fu xs L sX x4 t s = some r) (R : RT t th) : RT r.1 th := by
  unfold La_c2 at h
  have h := oe_gd h
  obtain ⟨q, e, h⟩ := oi_bd h
  have h := oe_gd h
  obtain ⟨p, f, h⟩ := oi_bd h
  cases h
  exact R.same (w_version e)
theorem rt_c3 {fu L : Nat} {xs : Nat → Int32} {sX : S_X} {x4 : Int32} {t : S_Tab} {s : S_Mo} {th ls le : Nat → Int32} {w : Nat → Int64} {r : S_Tab × S_Mo × (Nat → Int32) × (Nat → Int32) × (Nat → Int64)} (h : La_c3 fu xs L sX x4 t s ls le w = some r) (R : RT t th) : RT r.1 th := by
  unfold La_c3 at h
  have h := oe_gd (oe_gd h)
  obtain ⟨q, e, h⟩ := oi_bd h
  have h := oe_gd (oe_gd h)
  obtain ⟨p, f, h⟩ := oi_bd h
  cases h
  exact R.same (w_append e)
theorem rt_c4 {fu L : Nat} {xs : Nat → Int32} {sX : S_X} {x4 : Int32} {t : S_Tab} {s : S_Mo} {th le : Nat → Int32} {r : S_Tab × S_Mo × (Nat → Int32)} (h : La_c4 fu xs L sX x4 t s le = some r) (R : RT t th) : RT r.1 th := by
  unfold La_c4 at h
  have h := oe_gd h
  obtain ⟨q, e, h⟩ := oi_bd h
  have h := oe_gd h
  obtain ⟨p, f, h⟩ := oi_bd h
  cases h
  exact R.same (w_clear e)
theorem t_La_c1 {fu L : Nat} {xs : Nat → Int32} {sX : S_X} {x4 : Int32} {t : S_Tab} {s : S_Mo} {th : Nat → Int32} (I : I_Tab t) (Im : I_Mo s) (It : A_Mthere th) (h0 : 0 ≤ x4.toInt) (h1 : x4.toInt + 5 < (L : Int)) (h2 : (L : Int) ≤ 3072) (R : RT t th) : So (La_c1 fu xs L sX x4 t s th) (fun r => I_Tab r.1 ∧ I_Mo r.2.1 ∧ A_Mthere r.2.2 ∧ RT r.1 r.2.2) := by
  unfold La_c1
  have k1 : (1 : Int32).toInt = 1 := by decide
  have k2 : (2 : Int32).toInt = 2 := by decide
  have e1 := i_add (a := x4) (b := 1) (by omega) (by omega)
  have e2 := i_add (a := x4) (b := 2) (by omega) (by omega)
  have g1 : o_in (x4 + 1) L = true := i_in.mpr (by omega)
  have g2 : o_in (x4 + 2) L = true := i_in.mpr (by omega)
  obtain ⟨q, p, eq, ep, hqp, hR⟩ := d_drop (sX := sX) (a0 := xs (x4 + 1).toNatClampNeg) (a1 := xs (x4 + 2).toNatClampNeg) I Im It R
  obtain ⟨q', eq', hq'⟩ := t_X_drop (sX := sX) (a0 := xs (x4 + 1).toNatClampNeg) (a1 := xs (x4 + 2).toNatClampNeg) I
  obtain ⟨p', ep', hp'⟩ := t_Mod_drop (a0 := xs (x4 + 1).toNatClampNeg) (a1 := xs (x4 + 2).toNatClampNeg) Im It
  rw [eq] at eq'
  rw [ep] at ep'
  cases eq'
  cases ep'
  refine So.gd g1 (So.gd g2 (So.bde eq (So.gd g1 (So.gd g2 (So.bde ep ?_)))))
  refine So.pos hqp ?_
  exact So.one ⟨hq', hp'.1, hp'.2, hR⟩

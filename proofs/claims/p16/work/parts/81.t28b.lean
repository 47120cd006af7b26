-- common rows
theorem So.bdq {α β : Type} {x : Option α} {f : α → Option β} {Q : α → Prop} {P : β → Prop} (h : So x Q) (hf : ∀ q, x = some q → Q q → So (f q) P) : So (o_bd x f) P := by
  obtain ⟨r, e, hr⟩ := h
  rw [e]
  exact hf r e hr
theorem So.and {α : Type} {x : Option α} {P Q : α → Prop} (h : So x P) (g : So x Q) : So x (fun r => P r ∧ Q r) := by
  obtain ⟨r, e, hr⟩ := h
  obtain ⟨r', e', hr'⟩ := g
  rw [e] at e'
  cases e'
  exact ⟨r, e, hr, hr'⟩
theorem gd_t {α : Type} {b : Bool} {k : Option α} (h : b = true) : o_gd b k = k := if_pos h
theorem bd_s {α β : Type} {x : Option α} {a : α} {f : α → Option β} (e : x = some a) : o_bd x f = f a := by
  rw [e]
  rfl

-- p3: an entry is there where its width is not 0
def RT (t : S_Tab) (th : Nat → Int32) : Prop := ∀ j : Nat, (Tab_widths t j = 0 ↔ th j = 0)
def eix (a0 a1 : Int32) : Nat := if a0 = (-1) then 256 + a1.toNatClampNeg else 64 * a0.toNatClampNeg + a1.toNatClampNeg
def EV (a0 a1 : Int32) : Prop := -1 ≤ a0.toInt ∧ a0.toInt < 4 ∧ 0 ≤ a1.toInt ∧ a1.toInt < 64
theorem x_entryOf {a0 a1 : Int32} : So (Tab_entryOf a0 a1) (fun r => (r = (-1) ∧ ¬ EV a0 a1) ∨ (EV a0 a1 ∧ r ≠ (-1) ∧ 0 ≤ r.toInt ∧ r.toInt < 320 ∧ r.toNatClampNeg = eix a0 a1)) := by
  unfold Tab_entryOf EV
  have km : ((-1) : Int32).toInt = -1 := by decide
  have k4 : (4 : Int32).toInt = 4 := by decide
  have k0 : (0 : Int32).toInt = 0 := by decide
  refine So.ite (fun c1 => ?_) (fun c1 => ?_) <;> rw [i_lt] at c1
  · exact So.one (Or.inl ⟨rfl, by omega⟩)
  · refine So.ite (fun c2 => ?_) (fun c2 => ?_) <;> rw [i_le] at c2
    · exact So.one (Or.inl ⟨rfl, by omega⟩)
    · refine So.bd t_Desc_isElement fun q1 h1 => ?_
      refine So.ite (fun c3 => ?_) (fun c3 => ?_) <;> rw [i_eq] at c3
      · exact So.one (Or.inl ⟨rfl, by omega⟩)
      · have hn1 := i_nat (a := a1) (by omega)
        refine So.ite (fun c4 => ?_) (fun c4 => ?_)
        · have e : Tab_entryAt 4 a1 = some (4 * 64 + a1) := rfl
          refine So.bde e (So.one (Or.inr ?_))
          have k256 : (4 * 64 : Int32).toInt = 256 := by decide
          have e1 := i_add (a := 4 * 64) (b := a1) (by omega) (by omega)
          have hn := i_nat (a := 4 * 64 + a1) (by omega)
          refine ⟨by omega, fun e => ?_, by omega, by omega, ?_⟩
          · rw [e] at e1; omega
          · unfold eix
            rw [if_pos c4]
            omega
        · have c4' : a0.toInt ≠ -1 := fun e => c4 (i_eq.mpr (by omega))
          have e : Tab_entryAt a0 a1 = some (a0 * 64 + a1) := rfl
          refine So.bde e (So.one (Or.inr ?_))
          have m1 := i_mulr a0 64 64 (by decide) (by omega) (by omega)
          have e1 := i_add (a := a0 * 64) (b := a1) (by omega) (by omega)
          have hn := i_nat (a := a0 * 64 + a1) (by omega)
          have hn0 := i_nat (a := a0) (by omega)
          refine ⟨by omega, fun e => ?_, by omega, by omega, ?_⟩
          · rw [e] at e1; omega
          · unfold eix
            rw [if_neg c4]
            omega
theorem m_entry {a0 a1 : Int32} (h : EV a0 a1) : So (Mod_entry a0 a1) (fun r => 0 ≤ r.toInt ∧ r.toInt < 320 ∧ r.toNatClampNeg = eix a0 a1) := by
  obtain ⟨h1, h2, h3, h4⟩ := h
  refine So.imp (t_Mod_entry h1 h2 h3 h4) fun r hr => ?_
  have km : ((-1) : Int32).toInt = -1 := by decide
  have hn1 := i_nat h3
  have hn := i_nat (a := r) (by omega)
  refine ⟨by omega, by omega, ?_⟩
  unfold eix
  by_cases c : a0 = (-1)
  · rw [if_pos c]
    rw [i_eq] at c
    omega
  · rw [if_neg c]
    rw [i_eq] at c
    have hn0 := i_nat (a := a0) (by omega)
    omega
def CEl (a0 a1 a2 a3 a4 : Int32) : Prop := EV a0 a1 ∧ (-8 ≤ a2.toInt ∧ a2.toInt ≤ 8 ∧ 1 ≤ a4.toInt ∧ a4.toInt ≤ 32 ∧ -1000000000 ≤ a3.toInt ∧ a3.toInt ≤ 1000000000)
theorem x_element {sX : S_X} {a0 a1 a2 a3 a4 : Int32} {t : S_Tab} {r : Int32 × S_Tab} (h : X_element sX a0 a1 a2 a3 a4 t = some r) : (¬ CEl a0 a1 a2 a3 a4 ∧ Tab_widths r.2 = Tab_widths t) ∨ (CEl a0 a1 a2 a3 a4 ∧ Tab_widths r.2 = upd (Tab_widths t) (eix a0 a1) a4) := by
  unfold X_element at h
  obtain ⟨q1, e1, h1, h⟩ := oe_bd x_entryOf h
  by_cases c1 : q1 = (-1)
  · rw [if_pos c1] at h
    cases h
    rcases h1 with h1 | h1
    · exact Or.inl ⟨fun e => h1.2 e.1, rfl⟩
    · exact absurd c1 h1.2.1
  · rw [if_neg c1] at h
    rcases h1 with h1 | h1
    · exact absurd h1.1 c1
    · obtain ⟨q2, e2, h2, h⟩ := oe_bd t_Tab_isEntry h
      by_cases c2 : q2 = 0
      · rw [if_pos c2] at h
        cases h
        rw [i_eq] at c2
        have k0 : (0 : Int32).toInt = 0 := by decide
        exact Or.inl ⟨fun e => by obtain ⟨_, e⟩ := e; omega, rfl⟩
      · rw [if_neg c2] at h
        rw [i_eq] at c2
        have k0 : (0 : Int32).toInt = 0 := by decide
        unfold o_lt at h
        have h := oe_gd (oe_gd (oe_gd h))
        cases h
        refine Or.inr ⟨⟨h1.1, by omega⟩, ?_⟩
        show upd (Tab_widths t) q1.toNatClampNeg a4 = _
        rw [h1.2.2.2.2]
theorem m_element {a0 a1 a2 a3 a4 : Int32} {s : S_Mo} {th sc rf wi : Nat → Int32} {r : S_Mo × (Nat → Int32) × (Nat → Int32) × (Nat → Int32) × (Nat → Int32)} (h : Mod_element a0 a1 a2 a3 a4 s th sc rf wi = some r) : (¬ CEl a0 a1 a2 a3 a4 ∧ r.2.1 = th) ∨ (CEl a0 a1 a2 a3 a4 ∧ r.2.1 = upd th (eix a0 a1) (vp_nar .boolean 1)) := by
  unfold Mod_element at h
  have bad : Mod_element_j51 a0 a1 a2 a3 a4 s th sc rf wi = some r → r.2.1 = th := by
    intro g
    unfold Mod_element_j51 Mod_element_j52 at g
    rw [if_pos rfl] at g
    unfold Mod_element_j65 at g
    unfold o_lt at g
    dsimp only at g
    rw [if_pos rfl] at g
    cases g
    rfl
  have k0 : (0 : Int32).toInt = 0 := by decide
  have k8 : (8 : Int32).toInt = 8 := by decide
  have km8 : ((-8) : Int32).toInt = -8 := by decide
  have k1 : (1 : Int32).toInt = 1 := by decide
  have k32 : (32 : Int32).toInt = 32 := by decide
  have kb : (1000000000 : Int32).toInt = 1000000000 := by decide
  have kmb : ((-1000000000) : Int32).toInt = -1000000000 := by decide
  obtain ⟨q1, e1, h1, h⟩ := oe_bd t_Mod_isEntry h
  by_cases c1 : q1 = 0
  · rw [if_pos c1] at h
    rw [i_eq] at c1
    exact Or.inl ⟨fun e => by obtain ⟨⟨e1, e2, e3, e4⟩, _⟩ := e; omega, bad h⟩
  · rw [if_neg c1] at h
    rw [i_eq] at c1
    by_cases c2 : a2 < (-8)
    · rw [if_pos c2] at h
      rw [i_lt] at c2
      exact Or.inl ⟨fun e => by obtain ⟨_, e⟩ := e; omega, bad h⟩
    · rw [if_neg c2] at h
      rw [i_lt] at c2
      by_cases c3 : 8 < a2
      · rw [if_pos c3] at h
        rw [i_lt] at c3
        exact Or.inl ⟨fun e => by obtain ⟨_, e⟩ := e; omega, bad h⟩
      · rw [if_neg c3] at h
        rw [i_lt] at c3
        by_cases c4 : a3 < (-1000000000)
        · rw [if_pos c4] at h
          rw [i_lt] at c4
          exact Or.inl ⟨fun e => by obtain ⟨_, e⟩ := e; omega, bad h⟩
        · rw [if_neg c4] at h
          rw [i_lt] at c4
          by_cases c5 : 1000000000 < a3
          · rw [if_pos c5] at h
            rw [i_lt] at c5
            exact Or.inl ⟨fun e => by obtain ⟨_, e⟩ := e; omega, bad h⟩
          · rw [if_neg c5] at h
            rw [i_lt] at c5
            by_cases c6 : a4 < 1
            · rw [if_pos c6] at h
              rw [i_lt] at c6
              exact Or.inl ⟨fun e => by obtain ⟨_, e⟩ := e; omega, bad h⟩
            · rw [if_neg c6] at h
              rw [i_lt] at c6
              by_cases c7 : 32 < a4
              · rw [if_pos c7] at h
                rw [i_lt] at c7
                exact Or.inl ⟨fun e => by obtain ⟨_, e⟩ := e; omega, bad h⟩
              · rw [if_neg c7] at h
                rw [i_lt] at c7
                have hE : EV a0 a1 := by unfold EV; omega
                refine Or.inr ⟨⟨hE, by omega⟩, ?_⟩
                unfold Mod_element_j52 at h
                rw [if_neg (by decide)] at h
                unfold Mod_element_j65 at h
                unfold o_lt at h
                dsimp only at h
                rw [if_neg (by decide)] at h
                obtain ⟨q11, e11, h11, h⟩ := oe_bd (m_entry hE) h
                have h := oe_gd (oe_gd (oe_gd (oe_gd h)))
                cases h
                show upd th q11.toNatClampNeg _ = _
                rw [h11.2.2]
theorem nar1 : vp_nar .boolean 1 = 1 := by decide
theorem nar0 : vp_nar .boolean 0 = 0 := by decide
theorem RT.element {t t' : S_Tab} {th th' : Nat → Int32} {a0 a1 a2 a3 a4 : Int32} (R : RT t th) (h : (¬ CEl a0 a1 a2 a3 a4 ∧ Tab_widths t' = Tab_widths t) ∨ (CEl a0 a1 a2 a3 a4 ∧ Tab_widths t' = upd (Tab_widths t) (eix a0 a1) a4)) (h' : (¬ CEl a0 a1 a2 a3 a4 ∧ th' = th) ∨ (CEl a0 a1 a2 a3 a4 ∧ th' = upd th (eix a0 a1) (vp_nar .boolean 1))) : RT t' th' := fun j => by
  rcases h with ⟨c, e⟩ | ⟨c, e⟩
  · rcases h' with ⟨c', e'⟩ | ⟨c', e'⟩
    · rw [e, e']
      exact R j
    · exact absurd c' c
  · rcases h' with ⟨c', e'⟩ | ⟨c', e'⟩
    · exact absurd c c'
    · rw [e, e', nar1]
      by_cases ej : j = eix a0 a1
      · rw [ej, upd_at, upd_at]
        obtain ⟨_, _, _, g, _⟩ := c
        have k0 : (0 : Int32).toInt = 0 := by decide
        constructor
        · intro e4
          rw [i_eq] at e4
          omega
        · intro e1
          exact absurd e1 (by decide)
      · rw [upd_ne ej, upd_ne ej]
        exact R j
-- dropping
theorem d_drop {sX : S_X} {a0 a1 : Int32} {t : S_Tab} {s : S_Mo} {th : Nat → Int32} (I : I_Tab t) (Im : I_Mo s) (It : A_Mthere th) (R : RT t th) : ∃ (q : Int32 × S_Tab) (p : Int32 × S_Mo × (Nat → Int32)), X_drop sX a0 a1 t = some q ∧ Mod_drop a0 a1 s th = some p ∧ q.1 = p.1 ∧ RT q.2 p.2.2 := by
  obtain ⟨q1, e1, h1⟩ := x_entryOf (a0 := a0) (a1 := a1)
  obtain ⟨p1, f1, g1⟩ := t_Mod_isEntry (a0 := a0) (a1 := a1)
  unfold X_drop Mod_drop
  rw [e1, f1]
  have k0 : (0 : Int32).toInt = 0 := by decide
  rcases h1 with ⟨h1, h2⟩ | ⟨h1, h2, h3, h4, h5⟩
  · refine ⟨(0, t), (0, Mo_set_thrown s 0, th), ?_, ?_, rfl, R⟩
    · show (if q1 = (-1) then _ else _) = _
      rw [if_pos h1]
    · have c : p1 = 0 := i_eq.mpr (by unfold EV at h2; omega)
      show (if p1 = 0 then _ else _) = _
      rw [if_pos c]
  · have c : ¬ p1 = 0 := fun e => by rw [i_eq] at e; unfold EV at h1; omega
    obtain ⟨p3, f3, g3⟩ := m_entry h1
    have hin : o_in q1 320 = true := i_in.mpr ⟨h3, by omega⟩
    have hin3 : o_in p3 320 = true := i_in.mpr ⟨g3.1, by omega⟩
    have hb : o_bool (th (eix a0 a1)) = true := by
      have := A_Mthere_at It (eix a0 a1)
      exact i_bool (by omega)
    have hm : Mod_drop a0 a1 s th = some (th (eix a0 a1), Mo_set_thrown s 0, upd th (eix a0 a1) (vp_nar .boolean 0)) := by
      unfold Mod_drop
      rw [f1]
      show (if p1 = 0 then _ else _) = _
      rw [if_neg c, f3]
      show o_gd (o_in p3 320) _ = _
      unfold o_gd
      rw [if_pos hin3]
      show o_gd (o_in p3 320) _ = _
      unfold o_gd o_lt
      rw [if_pos hin3, g3.2.2]
      dsimp only
      rw [if_pos hb]
    have hm' : (if p1 = 0 then some (0, Mo_set_thrown s 0, th) else o_bd (Mod_entry a0 a1) fun q3 => o_gd (o_in q3 320) (o_bd (Mod_entry a0 a1) fun q5 => o_gd (o_in q5 320) (o_lt (upd th q5.toNatClampNeg (vp_nar .boolean 0)) fun sMthere_7 => o_gd (o_bool (th q3.toNatClampNeg)) (some (th q3.toNatClampNeg, Mo_set_thrown s 0, sMthere_7))))) = some (th (eix a0 a1), Mo_set_thrown s 0, upd th (eix a0 a1) (vp_nar .boolean 0)) := by
      unfold Mod_drop at hm
      rw [f1] at hm
      exact hm
    by_cases cw : Tab_widths t (eix a0 a1) = 0
    · have ct : th (eix a0 a1) = 0 := (R _).mp cw
      refine ⟨(0, t), _, ?_, hm', ct.symm, fun j => ?_⟩
      · show (if q1 = (-1) then _ else _) = _
        rw [if_neg h2]
        unfold o_gd
        rw [if_pos hin, h5, if_pos cw]
      · show Tab_widths t j = 0 ↔ upd th (eix a0 a1) (vp_nar .boolean 0) j = 0
        by_cases ej : j = eix a0 a1
        · rw [ej, upd_at, nar0]
          exact ⟨fun _ => rfl, fun _ => cw⟩
        · rw [upd_ne ej]
          exact R j
    · have ct : ¬ th (eix a0 a1) = 0 := fun e => cw ((R _).mpr e)
      have ct1 : th (eix a0 a1) = 1 := by
        have := A_Mthere_at It (eix a0 a1)
        have : (th (eix a0 a1)).toInt ≠ 0 := fun e => ct (i_eq.mpr (by omega))
        have k1 : (1 : Int32).toInt = 1 := by decide
        exact i_eq.mpr (by omega)
      refine ⟨(1, Tab_put_widths t (eix a0 a1) 0), _, ?_, hm', ct1.symm, fun j => ?_⟩
      · show (if q1 = (-1) then _ else _) = _
        rw [if_neg h2]
        unfold o_gd
        rw [if_pos hin, h5, if_neg cw, if_pos hin]
        rfl
      · show upd (Tab_widths t) (eix a0 a1) 0 j = 0 ↔ upd th (eix a0 a1) (vp_nar .boolean 0) j = 0
        by_cases ej : j = eix a0 a1
        · rw [ej, upd_at, upd_at, nar0]
        · rw [upd_ne ej, upd_ne ej]
          exact R j

-- p5: the lists are of one length
def RL (t : S_Tab) (le : Nat → Int32) : Prop := ∀ j : Nat, Tab_sizes t j = le j
theorem RL.same {t t' : S_Tab} {le : Nat → Int32} (R : RL t le) (e : Tab_sizes t' = Tab_sizes t) : RL t' le := fun j => by
  rw [e]
  exact R j
theorem s_element {sX : S_X} {a1 a2 a3 a4 a5 : Int32} {t : S_Tab} {q : Int32 × S_Tab} (h : Law_element sX a1 a2 a3 a4 a5 t = some q) : Tab_sizes q.2 = Tab_sizes t := by
  unfold Law_element at h
  obtain ⟨p, e, h⟩ := oi_bd h
  have e2 : Tab_sizes p.2 = Tab_sizes t := by
    unfold X_element at e
    obtain ⟨p1, _, e⟩ := oi_bd e
    split at e
    · cases e; rfl
    · obtain ⟨p2, _, e⟩ := oi_bd e
      split at e
      · cases e; rfl
      · unfold o_lt at e
        have e := oe_gd (oe_gd (oe_gd e))
        cases e; rfl
  split at h
  · cases h; exact e2
  · split at h
    · cases h; exact e2
    · cases h
theorem s_drop {sX : S_X} {a0 a1 : Int32} {t : S_Tab} {q : Int32 × S_Tab} (h : X_drop sX a0 a1 t = some q) : Tab_sizes q.2 = Tab_sizes t := by
  unfold X_drop at h
  obtain ⟨p1, _, h⟩ := oi_bd h
  split at h
  · cases h; rfl
  · have h := oe_gd h
    split at h
    · cases h; rfl
    · have h := oe_gd h
      cases h; rfl
theorem s_version {sX : S_X} {a : Int32} {t : S_Tab} {q : Int32 × S_Tab} (h : Law_version sX a t = some q) : Tab_sizes q.2 = Tab_sizes t := by
  unfold Law_version at h
  obtain ⟨p, e, h⟩ := oi_bd h
  have e2 : Tab_sizes p.2 = Tab_sizes t := by
    unfold X_version at e
    split at e
    · cases e; rfl
    · split at e
      · cases e; rfl
      · cases e; rfl
  split at h
  · cases h; exact e2
  · split at h
    · cases h; exact e2
    · cases h
-- where a list stands
def lix (a : Int32) : Nat := if a = (-1) then 16 else a.toNatClampNeg
theorem x_listOf {a : Int32} : So (Tab_listOf a) (fun r => (r = (-1) ∧ ¬ (-1 ≤ a.toInt ∧ a.toInt < 16)) ∨ (r ≠ (-1) ∧ (-1 ≤ a.toInt ∧ a.toInt < 16) ∧ 0 ≤ r.toInt ∧ r.toInt ≤ 16 ∧ r.toNatClampNeg = lix a ∧ (r = 16 ↔ a.toInt = -1))) := by
  unfold Tab_listOf lix
  have km : ((-1) : Int32).toInt = -1 := by decide
  have k0 : (0 : Int32).toInt = 0 := by decide
  have k16 : (16 : Int32).toInt = 16 := by decide
  refine So.ite (fun c1 => ?_) (fun c1 => ?_)
  · rw [if_pos c1]
    rw [i_eq] at c1
    exact So.one (Or.inr ⟨by decide, by omega, by decide, by decide, by decide, ⟨fun _ => by omega, fun _ => rfl⟩⟩)
  · rw [if_neg c1]
    rw [i_eq] at c1
    refine So.ite (fun c2 => ?_) (fun c2 => ?_) <;> rw [i_lt] at c2
    · exact So.one (Or.inl ⟨rfl, by omega⟩)
    · refine So.ite (fun c3 => ?_) (fun c3 => ?_) <;> rw [i_le] at c3
      · exact So.one (Or.inl ⟨rfl, by omega⟩)
      · refine So.one (Or.inr ⟨fun e => ?_, by omega, by omega, by omega, rfl, ⟨fun e => ?_, fun e => by omega⟩⟩)
        · rw [i_eq] at e; omega
        · rw [i_eq] at e; omega
theorem mo_bad {a0 a1 : Int32} {s : S_Mo} {ls le : Nat → Int32} : Mod_append_j19 a0 a1 s ls le = some (0, Mo_set_thrown s 1, ls, le) := by
  unfold Mod_append_j19 Mod_append_j24 o_lt
  dsimp only
  split
  · unfold Mod_append_j37
    rw [if_neg (show ¬ (1 : Int32) = 0 by decide)]
    unfold Mod_append_j70
    rw [if_neg (show ¬ (1 : Int32) ≤ 0 by decide)]
  · unfold Mod_append_j37
    rw [if_neg (show ¬ (1 : Int32) = 0 by decide)]
    unfold Mod_append_j70
    rw [if_neg (show ¬ (1 : Int32) ≤ 0 by decide)]
theorem mo_good {a0 a1 : Int32} {s : S_Mo} {ls le : Nat → Int32} (Ile : A_Mlengths le) (h0 : -1 ≤ a0.toInt) (h1 : a0.toInt < 16) : Mod_append_j24 a0 a1 0 s ls le = (if (le (lix a0)).toInt = (if a0.toInt = -1 then 24 else 8) then some (0, Mo_set_thrown s 2, ls, le) else some (le (lix a0) + 1, Mo_set_thrown s 0, upd ls (24 * (if a0.toInt = -1 then 16 else a0) + le (lix a0)).toNatClampNeg a1, upd le (lix a0) (le (lix a0) + 1))) := by
  have km : ((-1) : Int32).toInt = -1 := by decide
  have k0 : (0 : Int32).toInt = 0 := by decide
  have k16 : (16 : Int32).toInt = 16 := by decide
  have k24 : (24 : Int32).toInt = 24 := by decide
  have k8 : (8 : Int32).toInt = 8 := by decide
  have kn : (16 : Int32).toNatClampNeg = 16 := by decide
  have hl := A_Mlengths_at Ile (lix a0)
  -- the common end
  have j70 : ∀ (z : Int32) (d : Int32), z.toNatClampNeg = lix a0 → 0 ≤ z.toInt → z.toInt ≤ 16 → (le (lix a0)).toInt < 24 → Mod_append_j70 a1 z (Mo_set_thrown s 0) ls le = some (le (lix a0) + 1, Mo_set_thrown s 0, upd ls (24 * z + le (lix a0)).toNatClampNeg a1, upd le (lix a0) (le (lix a0) + 1)) := by
    intro z d hz hz0 hz1 hlt
    unfold Mod_append_j70
    have m1 := i_mull 24 z 24 (by decide) (by omega) (by omega)
    have m2 := i_add (a := 24 * z) (b := le (lix a0)) (by omega) (by omega)
    have g1 : o_in z 17 = true := i_in.mpr (by omega)
    have g2 : o_in (24 * z + le (lix a0)) 408 = true := i_in.mpr (by omega)
    rw [if_pos (show (0 : Int32) ≤ 0 by decide), hz]
    unfold o_gd o_lt
    simp only [g1, g2, ↓reduceIte, upd_at]
  have j62 : ∀ (z c : Int32), z.toNatClampNeg = lix a0 → 0 ≤ z.toInt → z.toInt ≤ 16 → ((le (lix a0)).toInt ≠ c.toInt → (le (lix a0)).toInt < 24) → Mod_append_j62 a1 z (le z.toNatClampNeg) c (Mo_set_thrown s 0) ls le = (if (le (lix a0)).toInt = c.toInt then some (0, Mo_set_thrown s 2, ls, le) else some (le (lix a0) + 1, Mo_set_thrown s 0, upd ls (24 * z + le (lix a0)).toNatClampNeg a1, upd le (lix a0) (le (lix a0) + 1))) := by
    intro z c hz hz0 hz1 hlt
    unfold Mod_append_j62
    rw [hz]
    by_cases e : le (lix a0) = c
    · rw [if_pos e, if_pos (by rw [e])]
      unfold o_lt Mod_append_j70
      dsimp only
      rw [if_neg (show ¬ (2 : Int32) ≤ 0 by decide)]
    · have e' : ¬ (le (lix a0)).toInt = c.toInt := fun h => e (i_eq.mpr h)
      rw [if_neg e, if_neg e']
      exact j70 z 0 hz hz0 hz1 (hlt e')
  unfold Mod_append_j24 o_lt
  dsimp only
  by_cases c : a0.toInt = -1
  · have hx : lix a0 = 16 := by unfold lix; rw [if_pos (i_eq.mpr (by omega))]
    rw [if_neg (show ¬ (0 : Int32) ≤ a0 by rw [i_le]; omega), if_pos c, if_pos c]
    unfold Mod_append_j37
    rw [if_pos (show (0 : Int32) = 0 from rfl)]
    unfold o_gd
    rw [if_pos (show o_in 16 17 = true by decide), if_neg (show ¬ (0 : Int32) ≤ a0 by rw [i_le]; omega)]
    have := j62 16 24 (by rw [hx]; decide) (by decide) (by decide) (fun h => by omega)
    rw [this, k24]
  · have hx : lix a0 = a0.toNatClampNeg := by unfold lix; rw [if_neg (fun e => c (by rw [e]; decide))]
    rw [if_pos (show (0 : Int32) ≤ a0 by rw [i_le]; omega), if_neg c, if_neg c]
    unfold Mod_append_j37
    rw [if_pos (show (0 : Int32) = 0 from rfl)]
    have hn := i_nat (a := a0) (by omega)
    unfold o_gd
    rw [if_pos (i_in.mpr (by omega) : o_in a0 17 = true), if_pos (show (0 : Int32) ≤ a0 by rw [i_le]; omega)]
    have := j62 a0 8 hx.symm (by omega) (by omega) (fun h => by omega)
    rw [this, k8]
theorem d_append {fu : Nat} {sX : S_X} {a0 a1 : Int32} {t : S_Tab} {s : S_Mo} {ls le : Nat → Int32} (hf : 12000 ≤ fu) (I : I_Tab t) (Ile : A_Mlengths le) (R : RL t le) : ∃ (q : Int32 × Int32 × S_Tab) (p : Int32 × S_Mo × (Nat → Int32) × (Nat → Int32)), X_append fu sX a0 a1 t = some q ∧ Mod_append a0 a1 s ls le = some p ∧ Mo_thrown p.2.1 = q.1 ∧ (q.1 = 0 ∨ q.1 = 1 ∨ q.1 = 2) ∧ (q.1 = 0 → q.2.1 = p.1) ∧ RL q.2.2 p.2.2.2 := by
  have km : ((-1) : Int32).toInt = -1 := by decide
  have k0 : (0 : Int32).toInt = 0 := by decide
  have k15 : (15 : Int32).toInt = 15 := by decide
  obtain ⟨q1, e1, h1⟩ := x_listOf (a := a0)
  unfold X_append Mod_append
  rw [e1]
  rcases h1 with ⟨h1, h2⟩ | ⟨h1, h2, h3, h4, h5, h6⟩
  · refine ⟨(1, 0, t), (0, Mo_set_thrown s 1, ls, le), ?_, ?_, rfl, Or.inr (Or.inl rfl), fun e => absurd (show (1 : Int32) = 0 from e) (by decide), R⟩
    · show (if q1 = (-1) then _ else _) = _
      rw [if_pos h1]
    · by_cases c : a0 < (-1)
      · rw [if_pos c]
        exact mo_bad
      · rw [if_neg c]
        rw [i_lt] at c
        rw [if_pos (show (15 : Int32) < a0 by rw [i_lt]; omega)]
        exact mo_bad
  · have c1 : ¬ a0 < (-1) := by rw [i_lt]; omega
    have c2 : ¬ (15 : Int32) < a0 := by rw [i_lt]; omega
    rw [if_neg c1, if_neg c2]
    obtain ⟨q2, e2, g2⟩ := t_Desc_isKnown (a0 := a1) hf
    obtain ⟨p2, f2, k2⟩ := t_Mod_isDescriptor (a0 := a1)
    rw [f2]
    by_cases c3 : q2 = 0
    · have c3' : p2 = 0 := i_eq.mpr (by rw [i_eq] at c3; omega)
      refine ⟨(1, 0, t), (0, Mo_set_thrown s 1, ls, le), ?_, ?_, rfl, Or.inr (Or.inl rfl), fun e => absurd (show (1 : Int32) = 0 from e) (by decide), R⟩
      · show (if q1 = (-1) then _ else _) = _
        rw [if_neg h1, e2]
        show (if q2 = 0 then _ else _) = _
        rw [if_pos c3]
      · show (if p2 = 0 then _ else _) = _
        rw [if_pos c3']
        exact mo_bad
    · have c3' : ¬ p2 = 0 := fun e => by
        have : q2.toInt ≠ 0 := fun h => c3 (i_eq.mpr (by omega))
        rw [i_eq] at e
        omega
      have hsz := I_Tab_sizes I q1.toNatClampNeg
      have hn := i_nat h3
      rw [h5] at hsz
      have hRl : Tab_sizes t (lix a0) = le (lix a0) := R (lix a0)
      have hl := A_Mlengths_at Ile (lix a0)
      have hlx : (lix a0 : Int) = q1.toInt := by rw [← h5]; exact hn
      have cap : q1 = 16 ∨ q1 ≠ 16 := by by_cases e : q1 = 16; exact Or.inl e; exact Or.inr e
      have k16 : (16 : Int32).toInt = 16 := by decide
      have k24 : (24 : Int32).toInt = 24 := by decide
      have k8 : (8 : Int32).toInt = 8 := by decide
      have g17 : o_in q1 17 = true := i_in.mpr (by omega)
      -- is it full
      have full : Tab_isFull t q1 = some (if (le (lix a0)).toInt = (if a0.toInt = -1 then 24 else 8) then 1 else 0) := by
        unfold Tab_isFull Tab_isFull_j19 o_gd
        rw [if_pos g17, h5, hRl]
        by_cases e : q1 = 16
        · have ea := h6.mp e
          rw [if_pos e, if_pos ea]
          by_cases el : (le (lix a0)).toInt = 24
          · rw [if_pos el, if_neg (by rw [i_lt]; omega)]
          · rw [if_neg el, if_pos (by rw [i_lt]; omega)]
        · have ea : ¬ a0.toInt = -1 := fun h => e (h6.mpr h)
          have e' : q1.toInt ≠ 16 := fun h => e (i_eq.mpr (by omega))
          rw [if_neg e, if_neg ea]
          by_cases el : (le (lix a0)).toInt = 8
          · rw [if_pos el, if_neg (by rw [i_lt]; omega)]
          · rw [if_neg el, if_pos (by rw [i_lt]; omega)]
      have hmo := mo_good (a1 := a1) (s := s) (ls := ls) Ile h2.1 (by omega)
      by_cases cf : (le (lix a0)).toInt = (if a0.toInt = -1 then 24 else 8)
      · rw [if_pos cf] at full hmo
        refine ⟨(2, 0, t), (0, Mo_set_thrown s 2, ls, le), ?_, ?_, rfl, Or.inr (Or.inr rfl), fun e => absurd (show (2 : Int32) = 0 from e) (by decide), R⟩
        · show (if q1 = (-1) then _ else _) = _
          rw [if_neg h1, e2]
          show (if q2 = 0 then _ else _) = _
          rw [if_neg c3, full]
          rfl
        · show (if p2 = 0 then _ else _) = _
          rw [if_neg c3']
          exact hmo
      · rw [if_neg cf] at full hmo
        have hlt : (le (lix a0)).toInt < 24 ∧ (q1.toInt < 16 → (le (lix a0)).toInt < 8) := by
          by_cases ea : a0.toInt = -1
          · rw [if_pos ea] at cf
            have := h6.mpr ea
            rw [i_eq] at this
            omega
          · rw [if_neg ea] at cf
            have : q1.toInt ≠ 16 := fun h => ea (h6.mp (i_eq.mpr (by omega)))
            omega
        obtain ⟨u, eu, hu⟩ := t_Tab_endOf (sTab := t) (a0 := q1) I h3 h4
        rw [h5, hRl] at hu
        refine ⟨(0, le (lix a0) + 1, Tab_put_sizes (Tab_put_listed t u.toNatClampNeg a1) (lix a0) (le (lix a0) + 1)), (le (lix a0) + 1, Mo_set_thrown s 0, upd ls (24 * (if a0.toInt = -1 then 16 else a0) + le (lix a0)).toNatClampNeg a1, upd le (lix a0) (le (lix a0) + 1)), ?_, (by
          show (if p2 = 0 then _ else _) = _
          rw [if_neg c3']
          exact hmo), rfl, Or.inl rfl, fun _ => rfl, fun j => ?_⟩
        · show (if q1 = (-1) then _ else _) = _
          rw [if_neg h1, e2]
          show (if q2 = 0 then _ else _) = _
          rw [if_neg c3, full]
          show o_bd (Tab_extend q1 a1 t) _ = _
          have ee : Tab_extend q1 a1 t = some (le (lix a0) + 1, Tab_put_sizes (Tab_put_listed t u.toNatClampNeg a1) (lix a0) (le (lix a0) + 1)) := by
            unfold Tab_extend
            rw [eu]
            show o_gd (o_in u 152) _ = _
            unfold o_gd o_lt
            have gu : o_in u 152 = true := i_in.mpr (by omega)
            simp only [gu, g17, ↓reduceIte]
            rw [h5]
            show some (upd (Tab_sizes t) (lix a0) (Tab_sizes t (lix a0) + 1) (lix a0), _) = _
            rw [upd_at, hRl]
          rw [ee]
          rfl
        · show upd (Tab_sizes t) (lix a0) (le (lix a0) + 1) j = upd le (lix a0) (le (lix a0) + 1) j
          by_cases ej : j = lix a0
          · rw [ej, upd_at, upd_at]
          · rw [upd_ne ej, upd_ne ej]
            exact R j

-- compiling on both sides: one state beside the other
abbrev B9 : Type := S_Mo × (Nat → Int32) × (Nat → Int32) × (Nat → Int32) × (Nat → Int32) × (Nat → Int32) × (Nat → Int32) × (Nat → Int32) × (Nat → Int32)
def FrX (f : Nat) (P : S_Prog) (li ne en tu fo : Nat → Int32) : Prop := FrR f P li ne en tu fo ∧ -1 ≤ (Prog_openRepeats P f).toInt ∧ (Prog_openRepeats P f).toInt ≤ 999
def CSt (u : Int32) (le : Nat → Int32) (P : S_Prog) (s : S_Mo) (li ne en be tu fo op : Nat → Int32) (o : Nat) : Prop := I_Mo s ∧ Mo_used s = u ∧ (Mo_open s).toInt = (o : Int) ∧ Prog_open P = Mo_open s ∧ Prog_size P = Mo_looked s ∧ 0 ≤ (Mo_looked s).toInt ∧ (Mo_looked s).toInt ≤ 1000 ∧ Prog_fault P = 0 ∧ Mo_fault s = 0 ∧ (∀ k, k < 4 → om k (Prog_settings P k) (op k)) ∧ (∀ f, f < o → FrX f P li ne en tu fo ∧ FrB f le li ne en be tu)
def SP (a b : S_Prog) : Prop := Prog_open a = Prog_open b ∧ Prog_fault a = Prog_fault b ∧ Prog_settings a = Prog_settings b ∧ Prog_openAts a = Prog_openAts b ∧ Prog_openEnds a = Prog_openEnds b ∧ Prog_openSequences a = Prog_openSequences b ∧ Prog_openRepeats a = Prog_openRepeats b ∧ Prog_foundSettings a = Prog_foundSettings b
theorem FrX_SP {f : Nat} {P P' : S_Prog} {li ne en tu fo : Nat → Int32} (h : SP P' P) (H : FrX f P li ne en tu fo) : FrX f P' li ne en tu fo := by
  obtain ⟨h1, h2, h3, h4, h5, h6, h7, h8⟩ := h
  unfold FrX FrR Fsq at *
  rw [h4, h5, h6, h7, h8]
  exact H
theorem CS_open {u : Int32} {le : Nat → Int32} {P : S_Prog} {s : S_Mo} {li ne en be tu fo op : Nat → Int32} {o : Nat} (C : CSt u le P s li ne en be tu fo op (o + 1)) : o ≤ 56 := (C.2.2.2.2.2.2.2.2.2.2 o (by omega)).2.le56
theorem CS_at {u : Int32} {le : Nat → Int32} {P : S_Prog} {s : S_Mo} {li ne en be tu fo op : Nat → Int32} {o : Nat} {v w : Int32} (C : CSt u le P s li ne en be tu fo op (o + 1)) (hv : v.toInt = 8 * (li o).toInt + w.toInt) (hb : (be o).toInt ≤ w.toInt) (he : w.toInt ≤ (en o).toInt) : CSt u le (Prog_put_openAts P o v) s li (upd ne o w) en be tu fo op (o + 1) := by
  obtain ⟨c1, c2, c3, c4, c5, c6, c7, c8, c9, c10, c11⟩ := C
  refine ⟨c1, c2, c3, c4, c5, c6, c7, c8, c9, c10, fun f hf => ?_⟩
  obtain ⟨⟨⟨a1, a2, a3, a4⟩, a5⟩, b1, b2, b3, b4⟩ := c11 f hf
  by_cases ef : f = o
  · refine ⟨⟨⟨?_, a2, a3, a4⟩, a5⟩, b1, ?_, ?_, b4⟩
    · show (upd (Prog_openAts P) o v f).toInt = _
      rw [ef, upd_at, upd_at]
      exact hv
    · rw [ef, upd_at]
      exact hb
    · rw [ef, upd_at]
      exact he
  · refine ⟨⟨⟨?_, a2, a3, a4⟩, a5⟩, b1, ?_, ?_, b4⟩
    · show (upd (Prog_openAts P) o v f).toInt = _
      rw [upd_ne ef, upd_ne ef]
      exact a1
    · rw [upd_ne ef]
      exact b2
    · rw [upd_ne ef]
      exact b3
theorem CS_size {u : Int32} {le : Nat → Int32} {P P' : S_Prog} {s : S_Mo} {li ne en be tu fo op : Nat → Int32} {o : Nat} (C : CSt u le P s li ne en be tu fo op o) (h : SP P' P) (hz : Prog_size P' = Prog_size P + 1) (hl : (Mo_looked s).toInt < 1000) : CSt u le P' (Mo_set_looked s (Mo_looked s + 1)) li ne en be tu fo op o ∧ (Mo_looked s + 1).toInt = (Mo_looked s).toInt + 1 := by
  obtain ⟨c1, c2, c3, c4, c5, c6, c7, c8, c9, c10, c11⟩ := C
  have k1 : (1 : Int32).toInt = 1 := by decide
  have e1 : (Mo_looked s + 1).toInt = (Mo_looked s).toInt + 1 := by
    rw [i_add (a := Mo_looked s) (b := 1) (by omega) (by omega), k1]
  have h' := h
  obtain ⟨h1, h2, h3, h4, h5, h6, h7, h8⟩ := h
  refine ⟨⟨I_Mo_set_looked c1, c2, c3, h1.trans c4, ?_, ?_, ?_, h2.trans c8, c9, fun k hk => ?_, fun f hf => ⟨FrX_SP h' (c11 f hf).1, (c11 f hf).2⟩⟩, e1⟩
  · show Prog_size P' = Mo_looked s + 1
    rw [hz, c5]
  · show 0 ≤ (Mo_looked s + 1).toInt
    rw [e1]
    clear e1
    omega
  · show (Mo_looked s + 1).toInt ≤ 1000
    rw [e1]
    clear e1
    omega
  · rw [h3]
    exact c10 k hk
def oL (a0 a1 a2 a3 : Int32) (P : S_Prog) : S_Prog := Prog_set_open (Prog_set_foundSettings (Prog_put_openRepeats (Prog_put_openSequences (Prog_put_openEnds (Prog_put_openAts P (Prog_open P).toNatClampNeg a0) (Prog_open P).toNatClampNeg a1) (Prog_open P).toNatClampNeg a2) (Prog_open P).toNatClampNeg a3) (va_cpy (Prog_settings P) (Prog_foundSettings P) (0 : Int32).toNatClampNeg (Prog_open P * 4).toNatClampNeg (4 : Int32).toNatClampNeg)) (Prog_open P + 1)
theorem openList_eq {a0 a1 a2 a3 : Int32} {P : S_Prog} (h : Prog_open P < 64) (g : o_in (Prog_open P) 64 = true) (gc : o_cp 0 (Prog_open P * 4) 4 4 256 = true) : Prog_openList a0 a1 a2 a3 P = some (oL a0 a1 a2 a3 P) := by
  unfold Prog_openList
  rw [if_pos h, gd_t g]
  show o_gd (o_in (Prog_open P) 64) _ = _
  rw [gd_t g]
  show o_gd (o_in (Prog_open P) 64) _ = _
  rw [gd_t g]
  show o_gd (o_in (Prog_open P) 64) _ = _
  rw [gd_t g]
  show o_gd (o_cp 0 (Prog_open P * 4) 4 4 256) _ = _
  rw [gd_t gc]
  rfl
theorem openList_x {a0 a1 a2 a3 : Int32} {P : S_Prog} {o : Nat} (ho : (Prog_open P).toInt = (o : Int)) (h64 : o < 64) : Prog_openList a0 a1 a2 a3 P = some (oL a0 a1 a2 a3 P) := by
  have k64 : (64 : Int32).toInt = 64 := by decide
  have k0 : (0 : Int32).toInt = 0 := by decide
  have k4 : (4 : Int32).toInt = 4 := by decide
  have m1 := i_mulr (Prog_open P) 4 4 (by decide) (by omega) (by omega)
  refine openList_eq (by rw [i_lt]; clear m1; omega) (i_in.mpr (by clear m1; omega)) (i_cp (by omega) (by rw [m1]; clear m1; omega) (by omega) (by omega) (by rw [m1]; clear m1; omega))
theorem CS_enter {u : Int32} {le : Nat → Int32} {P : S_Prog} {s : S_Mo} {li ne en be tu fo op : Nat → Int32} {o : Nat} {a0 a1 a2 a3 l fr to w : Int32} (C : CSt u le P s li ne en be tu fo op (o + 1)) (h0 : a0.toInt = 8 * l.toInt + fr.toInt) (h1 : a1.toInt = 8 * l.toInt + to.toInt) (h2 : (w.toInt < 0 ∧ a2 = l ∧ 0 ≤ l.toInt ∧ l.toInt < 16) ∨ (0 ≤ w.toInt ∧ a2 = (-1))) (h3 : -1 ≤ a3.toInt) (h3' : a3.toInt ≤ 999) (B : FrB (o + 1) le (upd li (o + 1) l) (upd ne (o + 1) fr) (upd en (o + 1) to) (upd be (o + 1) fr) (upd tu (o + 1) w)) : CSt u le (oL a0 a1 a2 a3 P) (Mo_set_open s (Mo_open s + 1)) (upd li (o + 1) l) (upd ne (o + 1) fr) (upd en (o + 1) to) (upd be (o + 1) fr) (upd tu (o + 1) w) (fo4 fo (o + 1) op) op (o + 1 + 1) := by
  have h56 := CS_open C
  obtain ⟨c1, c2, c3, c4, c5, c6, c7, c8, c9, c10, c11⟩ := C
  have k1 : (1 : Int32).toInt = 1 := by decide
  have ho : (Prog_open P).toInt = ((o + 1 : Nat) : Int) := by rw [c4]; exact c3
  have nk : (Prog_open P).toNatClampNeg = o + 1 := by have := i_nat (a := Prog_open P) (by omega); omega
  have nk4 : (Prog_open P * 4).toNatClampNeg = 4 * (o + 1) := by
    have m1 := i_mulr (Prog_open P) 4 4 (by decide) (by omega) (by omega)
    have := i_nat (a := Prog_open P * 4) (by rw [m1]; clear m1; omega)
    rw [m1] at this
    clear m1
    omega
  have n0 : (0 : Int32).toNatClampNeg = 0 := by decide
  have n4 : (4 : Int32).toNatClampNeg = 4 := by decide
  have e1 : (Mo_open s + 1).toInt = ((o + 1 + 1 : Nat) : Int) := by
    rw [i_add (a := Mo_open s) (b := 1) (by omega) (by omega), k1, c3]
    omega
  refine ⟨I_Mo_set_open c1 (by rw [e1]; clear e1; omega), c2, e1, ?_, c5, c6, c7, c8, c9, c10, fun f hf => ?_⟩
  · show Prog_open P + 1 = Mo_open s + 1
    rw [c4]
  · have f1 : Prog_openAts (oL a0 a1 a2 a3 P) f = upd (Prog_openAts P) (o + 1) a0 f := by rw [← nk]; rfl
    have f2 : Prog_openEnds (oL a0 a1 a2 a3 P) f = upd (Prog_openEnds P) (o + 1) a1 f := by rw [← nk]; rfl
    have f3 : Prog_openSequences (oL a0 a1 a2 a3 P) f = upd (Prog_openSequences P) (o + 1) a2 f := by rw [← nk]; rfl
    have f4 : Prog_openRepeats (oL a0 a1 a2 a3 P) f = upd (Prog_openRepeats P) (o + 1) a3 f := by rw [← nk]; rfl
    have f5 : ∀ j, Prog_foundSettings (oL a0 a1 a2 a3 P) j = (if 4 * (o + 1) ≤ j ∧ j < 4 * (o + 1) + 4 then Prog_settings P (0 + (j - 4 * (o + 1))) else Prog_foundSettings P j) := by
      intro j
      rw [← nk4]
      rfl
    clear e1
    by_cases ef : f = o + 1
    · subst ef
      refine ⟨⟨⟨?_, ?_, ?_, fun k hk => ?_⟩, ?_, ?_⟩, B⟩
      · rw [f1, upd_at, upd_at, upd_at]
        exact h0
      · rw [f2, upd_at, upd_at, upd_at]
        exact h1
      · unfold Fsq
        rw [f3, upd_at, upd_at, upd_at]
        rcases h2 with ⟨a, b, c, d⟩ | ⟨a, b⟩
        · exact Or.inr (Or.inl ⟨by omega, a, b, c, d⟩)
        · exact Or.inr (Or.inr ⟨by omega, a, b⟩)
      · rw [f5, if_pos ⟨by omega, by omega⟩, fo4_at hk]
        have : 0 + (4 * (o + 1) + k - 4 * (o + 1)) = k := by omega
        rw [this]
        exact c10 k hk
      · rw [f4, upd_at]
        exact h3
      · rw [f4, upd_at]
        exact h3'
    · have hf' : f < o + 1 := by omega
      obtain ⟨⟨⟨a1', a2', a3', a4'⟩, a5, a6⟩, b1, b2, b3, b4, b5, b6, b7, b8⟩ := c11 f hf'
      refine ⟨⟨⟨?_, ?_, ?_, fun k hk => ?_⟩, ?_, ?_⟩, ?_⟩
      · rw [f1, upd_ne ef, upd_ne ef, upd_ne ef]
        exact a1'
      · rw [f2, upd_ne ef, upd_ne ef, upd_ne ef]
        exact a2'
      · unfold Fsq
        rw [f3, upd_ne ef, upd_ne ef, upd_ne ef]
        exact a3'
      · rw [f5, if_neg (by omega), fo4_ne (by omega)]
        exact a4' k hk
      · rw [f4, upd_ne ef]
        exact a5
      · rw [f4, upd_ne ef]
        exact a6
      · unfold FrB
        rw [upd_ne ef, upd_ne ef, upd_ne ef, upd_ne ef, cn_upd f hf']
        exact ⟨b1, b2, b3, b4, b5, b6, b7, b8⟩
theorem CS_pop {u : Int32} {le : Nat → Int32} {P P' : S_Prog} {s : S_Mo} {li ne en be tu fo op : Nat → Int32} {o : Nat} {v : Int32} (C : CSt u le P s li ne en be tu fo op (o + 1)) (hv : v.toInt = (o : Int)) (h : SP P' (Prog_set_open P v)) (hz : Prog_size P' = Prog_size P) : CSt u le P' (Mo_set_open s v) li ne en be tu fo op o := by
  have h56 := CS_open C
  obtain ⟨c1, c2, c3, c4, c5, c6, c7, c8, c9, c10, c11⟩ := C
  have h' := h
  obtain ⟨h1, h2, h3, h4, h5, h6, h7, h8⟩ := h
  refine ⟨I_Mo_set_open c1 (by omega), c2, hv, h1, hz.trans c5, c6, c7, h2.trans c8, c9, fun k hk => ?_, fun f hf => ⟨FrX_SP h' (c11 f (by omega)).1, (c11 f (by omega)).2⟩⟩
  rw [h3]
  exact c10 k hk
theorem takeUp_x {a0 d : Int32} {P : S_Prog} (h0 : 0 ≤ (Prog_size P).toInt) (h1 : (Prog_size P).toInt < 1000) : ∃ P' : S_Prog, Prog_takeUp a0 d P = some (1, P') ∧ SP P' P ∧ Prog_size P' = Prog_size P + 1 := by
  have k : (1000 : Int32).toInt = 1000 := by decide
  have gi : o_in (Prog_size P) 1000 = true := i_in.mpr (by omega)
  have j : ∀ Q : S_Prog, Prog_size Q = Prog_size P → SP Q P → ∃ P' : S_Prog, Prog_takeUp_j16 d Q = some (1, P') ∧ SP P' P ∧ Prog_size P' = Prog_size P + 1 := by
    intro Q e S
    refine ⟨Prog_set_size (Prog_put_descriptors Q (Prog_size Q).toNatClampNeg d) (Prog_size Q + 1), ?_, S, ?_⟩
    · unfold Prog_takeUp_j16
      rw [if_pos (by rw [i_lt, e]; omega), gd_t (by rw [e]; exact gi)]
      rfl
    · show Prog_size Q + 1 = _
      rw [e]
  unfold Prog_takeUp
  by_cases c : a0 < 128
  · rw [if_pos c]
    exact j P rfl ⟨rfl, rfl, rfl, rfl, rfl, rfl, rfl, rfl⟩
  · rw [if_neg c]
    exact j (Prog_set_templatePlace P (a0 - 128)) rfl ⟨rfl, rfl, rfl, rfl, rfl, rfl, rfl, rfl⟩
theorem fail_x (a : Int32) (P : S_Prog) : ∃ P' : S_Prog, Prog_fail a P = some P' ∧ Prog_fault P' = a := ⟨_, rfl, rfl⟩
theorem takeUp_f {a0 d : Int32} {P : S_Prog} (h1 : 1000 ≤ (Prog_size P).toInt) : ∃ P' : S_Prog, Prog_takeUp a0 d P = some (0, P') ∧ ¬ Prog_fault P' = 0 := by
  have k : (1000 : Int32).toInt = 1000 := by decide
  have j : ∀ Q : S_Prog, Prog_size Q = Prog_size P → ∃ P' : S_Prog, Prog_takeUp_j16 d Q = some (0, P') ∧ ¬ Prog_fault P' = 0 := by
    intro Q e
    obtain ⟨P', e', h'⟩ := fail_x 2 Q
    refine ⟨P', ?_, by rw [h']; decide⟩
    unfold Prog_takeUp_j16
    rw [if_neg (by rw [i_lt, e]; omega), bd_s e']
  unfold Prog_takeUp
  by_cases c : a0 < 128
  · rw [if_pos c]
    exact j P rfl
  · rw [if_neg c]
    exact j (Prog_set_templatePlace P (a0 - 128)) rfl
theorem wr_new {a w : Int32} {s : S_Mo} (h : Mo_fault s = 0) (ha : 0 < a.toInt) : ¬ Mo_fault (wr a w s) = 0 := wr_ge ha
theorem count_x {w : Int32} {s : S_Mo} (h0 : 0 ≤ (Mo_looked s).toInt) (h1 : (Mo_looked s).toInt < 1000) : Mod_count w s = some (1, Mo_set_looked s (Mo_looked s + 1)) := by
  have k1 : (1 : Int32).toInt = 1 := by decide
  have k : (1000 : Int32).toInt = 1000 := by decide
  have e1 : (Mo_looked s + 1).toInt = (Mo_looked s).toInt + 1 := by
    rw [i_add (a := Mo_looked s) (b := 1) (by omega) (by omega), k1]
  have j : ∀ q : S_Mo, (Mo_looked q).toInt ≤ 1000 → Mod_count_j26 q = some (1, q) := by
    intro q hq
    unfold Mod_count_j26
    rw [if_neg (by rw [i_lt]; omega)]
  unfold Mod_count
  show (if Mo_looked s + 1 ≤ 1000 then _ else _) = _
  rw [if_pos (by rw [i_le, e1]; clear e1; omega)]
  exact j _ (by show (Mo_looked s + 1).toInt ≤ 1000; rw [e1]; clear e1; omega)
theorem count_f {w : Int32} {s : S_Mo} (h1 : (Mo_looked s).toInt = 1000) : ∃ s' : S_Mo, Mod_count w s = some (0, s') ∧ ¬ Mo_fault s' = 0 ∧ Mo_open s' = Mo_open s := by
  have k1 : (1 : Int32).toInt = 1 := by decide
  have k : (1000 : Int32).toInt = 1000 := by decide
  have e1 : (Mo_looked s + 1).toInt = 1001 := by
    rw [i_add (a := Mo_looked s) (b := 1) (by omega) (by omega), k1, h1]
    rfl
  refine ⟨wr 2 w (Mo_set_looked s (Mo_looked s + 1)), ?_, wr_ge (by decide), ?_⟩
  · unfold Mod_count
    show (if Mo_looked s + 1 ≤ 1000 then _ else _) = _
    rw [if_neg (by rw [i_le, e1]; clear e1; omega), bd_s (wrong_eq _ _ _)]
    unfold Mod_count_j26
    rw [if_pos]
    rw [wr_looked, i_lt]
    show _ < (Mo_looked s + 1).toInt
    rw [e1]
    clear e1
    omega
  · rw [wr_open]

-- reading PACKED: the value of a field
theorem tA_j47 {fu i : Nat} {ki wd : Nat → Int32} {ba : Nat → Int64} {bi : Nat → Int32} {x sp t0 : Int32} {v0 : Int64} {s : S_Mo} {rd : Nat → Int64} {r : S_Mo × (Nat → Int64)} (hx : x.toInt = (i : Int)) (hi : i < 100) (hz : Mo_fault s = 0) (h : Mod_takeAll_j47 fu ki wd ba bi x v0 sp t0 s rd = some r) : (¬ Mo_fault r.1 = 0 ∧ (33 < sp ∨ (¬ t0 = 0 ∧ 0 < sp) ∨ (ki i = 2 ∧ v0 = (1 <<< ((wd i).toInt64 &&& 63)) - 1))) ∨ (¬ 33 < sp ∧ (t0 = 0 ∨ ¬ 0 < sp) ∧ ¬ (ki i = 2 ∧ v0 = (1 <<< ((wd i).toInt64 &&& 63)) - 1) ∧ Mod_takeAll_L107 fu ki wd ba bi x v0 sp fu 0 s rd = some r) := by
  have n1 : x.toNatClampNeg = i := by
    have := i_nat (a := x) (by omega)
    omega
  have em : Mod_most (wd i) = some ((1 <<< ((wd i).toInt64 &&& 63)) - 1) := rfl
  have j97 : Mod_takeAll_j97 fu ki wd ba bi x v0 sp s rd = some r → ¬ Mo_fault r.1 = 0 := by
    intro g
    unfold Mod_takeAll_j97 at g
    obtain ⟨s7, e7, g⟩ := oi_bd g
    have x7 := wrong_x (by decide) e7
    unfold Mod_takeAll_j104 at g
    rw [ta_f x7.1 g]
    exact x7.1
  have j73 : ¬ 33 < sp → (t0 = 0 ∨ ¬ 0 < sp) → Mod_takeAll_j73 fu ki wd ba bi x v0 sp s rd = some r → (¬ Mo_fault r.1 = 0 ∧ (33 < sp ∨ (¬ t0 = 0 ∧ 0 < sp) ∨ (ki i = 2 ∧ v0 = (1 <<< ((wd i).toInt64 &&& 63)) - 1))) ∨ (¬ 33 < sp ∧ (t0 = 0 ∨ ¬ 0 < sp) ∧ ¬ (ki i = 2 ∧ v0 = (1 <<< ((wd i).toInt64 &&& 63)) - 1) ∧ Mod_takeAll_L107 fu ki wd ba bi x v0 sp fu 0 s rd = some r) := by
    intro c1 c2 g
    unfold Mod_takeAll_j73 at g
    have g := oe_gd g
    rw [n1] at g
    by_cases c3 : ki i = 2
    · rw [if_pos c3] at g
      have g := oe_gd g
      rw [bd_s em] at g
      by_cases c4 : v0 = (1 <<< ((wd i).toInt64 &&& 63)) - 1
      · rw [if_pos c4] at g
        exact Or.inl ⟨j97 g, Or.inr (Or.inr ⟨c3, c4⟩)⟩
      · rw [if_neg c4] at g
        exact Or.inr ⟨c1, c2, fun e => c4 e.2, g⟩
    · rw [if_neg c3] at g
      exact Or.inr ⟨c1, c2, fun e => c3 e.1, g⟩
  unfold Mod_takeAll_j47 at h
  rw [if_pos hz] at h
  by_cases c1 : 33 < sp
  · rw [if_pos c1] at h
    exact Or.inl ⟨j97 h, Or.inl c1⟩
  · rw [if_neg c1] at h
    by_cases c2 : t0 = 0
    · rw [if_pos c2] at h
      exact j73 c1 (Or.inl c2) h
    · rw [if_neg c2] at h
      by_cases c3 : 0 < sp
      · rw [if_pos c3] at h
        exact Or.inl ⟨j97 h, Or.inr (Or.inl ⟨c2, c3⟩)⟩
      · rw [if_neg c3] at h
        exact j73 c1 (Or.inr c3) h
theorem tA_inv {fu i : Nat} {ki wd : Nat → Int32} {ba : Nat → Int64} {bi : Nat → Int32} {x : Int32} {s : S_Mo} {rd : Nat → Int64} {r : S_Mo × (Nat → Int64)} (hx : x.toInt = (i : Int)) (hi : i < 100) (h : Mod_takeAll fu ki wd ba bi x s rd = some r) : ∃ (v0 v6 : Int64) (sa sb : S_Mo) (t0 : Int32), Mod_take fu bi (wd i) x s = some (v0, sa) ∧ Mod_take fu bi 6 x sa = some (v6, sb) ∧ (t0 = 0 ↔ ¬ (ki i = 2 ∨ ki i = 3)) ∧ Mod_takeAll_j47 fu ki wd ba bi x v0 v6.toInt32 t0 sb rd = some r := by
  have n1 : x.toNatClampNeg = i := by
    have := i_nat (a := x) (by omega)
    omega
  unfold Mod_takeAll at h
  have h := oe_gd h
  rw [n1] at h
  obtain ⟨⟨v0, sa⟩, ea, h⟩ := oi_bd h
  dsimp only at h
  obtain ⟨⟨v6, sb⟩, eb, h⟩ := oi_bd h
  dsimp only at h
  have h := oe_gd h
  by_cases c2 : ki i = 2
  · rw [if_pos c2] at h
    exact ⟨v0, v6, sa, sb, 1, ea, eb, ⟨fun e => absurd e (by decide), fun e => absurd (Or.inl c2) e⟩, h⟩
  · rw [if_neg c2] at h
    have h := oe_gd h
    by_cases c3 : ki i = 3
    · rw [if_pos c3] at h
      exact ⟨v0, v6, sa, sb, 1, ea, eb, ⟨fun e => absurd e (by decide), fun e => absurd (Or.inr c3) e⟩, h⟩
    · rw [if_neg c3] at h
      exact ⟨v0, v6, sa, sb, 0, ea, eb, ⟨fun _ e => e.elim c2 c3, fun _ => rfl⟩, h⟩
theorem j47_f {fu : Nat} {ki wd : Nat → Int32} {ba : Nat → Int64} {bi : Nat → Int32} {x sp t0 : Int32} {v0 : Int64} {s : S_Mo} {rd : Nat → Int64} {r : S_Mo × (Nat → Int64)} (hz : ¬ Mo_fault s = 0) (h : Mod_takeAll_j47 fu ki wd ba bi x v0 sp t0 s rd = some r) : ¬ Mo_fault r.1 = 0 := by
  unfold Mod_takeAll_j47 at h
  rw [if_neg hz] at h
  unfold Mod_takeAll_j104 at h
  rw [ta_f hz h]
  exact hz
-- the class's side, behind its two numbers
def PkT (fu : Nat) (Fl : S_Fld) (tp : S_Bits) (x : Int32) (v0 : Int64) (sp : Int32) (Re : S_Rea) (RR : Nat → Nat → Int64) : Option (Int32 × S_Rea × (Nat → Nat → Int64)) := if 33 < sp then some ((0, Re, RR)) else if ((Rea_subsets Re) * sp) ≤ ((Rea_end Re) - (Rea_at Re)) then if sp = 0 then o_bd (Rea_takeOneForAll fu Fl Re x v0 RR) fun q8 => (o_gd (o_bool q8.1) (some ((q8.1, Re, q8.2)))) else o_bd (Fld_isCountOrBit Fl x) fun q4 => (if q4 = 0 then o_bd (Rea_takeDifferences fu Fl tp x v0 sp Re RR) fun q5 => (if q5.1 = 0 then some ((0, q5.2.1, q5.2.2)) else some ((1, q5.2.1, q5.2.2))) else some ((0, Re, RR))) else some ((0, Re, RR))
theorem pk_T {fu i sub : Nat} {tp : S_Bits} {bi : Nat → Int32} {Re : S_Rea} {s : S_Mo} {RR : Nat → Nat → Int64} {rd : Nat → Int64} {Fl : S_Fld} {ki wd : Nat → Int32} {ba : Nat → Int64} {x sp t0 : Int32} {v0 : Int64} {r : S_Mo × (Nat → Int64)} (hf : 12000 ≤ fu) (hz : Mo_fault s = 0) (hs : (Mo_subsets s).toInt = (sub : Int)) (h1 : 1 ≤ sub) (h8 : sub ≤ 8) (R : RdR tp bi Re s RR rd) (hx : x.toInt = (i : Int)) (hi : i < 100) (K1 : Fld_kinds Fl i = ki i) (K2 : Fld_widths Fl i = wd i) (K3 : Fld_references Fl i = ba i) (K4 : ki i = 3 → ba i = 0) (hw : 0 ≤ (wd i).toInt ∧ (wd i).toInt ≤ 32) (hsp : 0 ≤ sp.toInt ∧ sp.toInt ≤ 63) (ht : t0 = 0 ↔ ¬ (ki i = 2 ∨ ki i = 3)) (h : Mod_takeAll_j47 fu ki wd ba bi x v0 sp t0 s rd = some r) : ∃ (b : Int32) (Re' : S_Rea) (RR' : Nat → Nat → Int64), PkT fu Fl tp x v0 sp Re RR = some (b, Re', RR') ∧ Rea_fault Re' = Rea_fault Re ∧ Rea_subsets Re' = Rea_subsets Re ∧ ((¬ b = 0 ∧ (∃ z, r.1 = Mo_set_at s z) ∧ RdR tp bi Re' r.1 RR' r.2) ∨ (b = 0 ∧ ¬ Mo_fault r.1 = 0)) := by
  have k0 : (0 : Int32).toInt = 0 := by decide
  have k33 : (33 : Int32).toInt = 33 := by decide
  have g : o_in x 100 = true := i_in.mpr (by omega)
  have nx : x.toNatClampNeg = i := by
    have := i_nat (a := x) (by omega)
    omega
  have R' := R
  obtain ⟨q1, q2, q3, q4, q5, q6, q7, q8⟩ := R'
  have hr : (Rea_subsets Re).toInt = (sub : Int) := q7.trans hs
  have ed : (Rea_end Re - Rea_at Re).toInt = (Mo_many s).toInt - (Mo_at s).toInt := by
    rw [i_sub (a := Rea_end Re) (b := Rea_at Re) (by omega) (by omega), q1, q2]
    omega
  have ec : Fld_isCountOrBit Fl x = some (if ki i = 2 ∨ ki i = 3 then 1 else 0) := by
    unfold Fld_isCountOrBit
    rw [gd_t g, nx, K1]
    by_cases c2 : ki i = 2
    · rw [if_pos c2, if_pos (Or.inl c2)]
    · rw [if_neg c2, gd_t g]
      by_cases c3 : ki i = 3
      · rw [if_pos c3, if_pos (Or.inr c3)]
      · rw [if_neg c3, if_neg (fun e => e.elim c2 c3)]
  have T := tA_j47 hx hi hz h
  by_cases c33 : 33 < sp
  · refine ⟨0, Re, RR, ?_, rfl, rfl, Or.inr ⟨rfl, ?_⟩⟩
    · unfold PkT
      rw [if_pos c33]
    · rcases T with T | T
      · exact T.1
      · exact absurd c33 T.1
  · have c33' := c33
    rw [i_lt, k33] at c33'
    obtain ⟨w, hw0⟩ : ∃ w : Nat, sp.toInt = (w : Int) := ⟨sp.toInt.toNat, by clear ed; omega⟩
    have pn : sub * w ≤ 8 * 33 := Nat.mul_le_mul h8 (by clear ed; omega)
    have pm : ((sub * w : Nat) : Int) = (sub : Int) * (w : Int) := Int.natCast_mul _ _
    have em : (Rea_subsets Re * sp).toInt = ((sub * w : Nat) : Int) := by
      rw [i_mul (a := Rea_subsets Re) (b := sp) (by rw [hr, hw0, ← pm]; clear ed; omega) (by rw [hr, hw0, ← pm]; clear ed; omega), hr, hw0, pm]
    by_cases c0 : sp = 0
    · -- one for all
      have w0 : w = 0 := by
        rw [i_eq, k0] at c0
        clear ed em
        omega
      have cl : Rea_subsets Re * sp ≤ Rea_end Re - Rea_at Re := by
        rw [i_le, em, ed, w0]
        clear em ed
        omega
      subst c0
      obtain ⟨u, u1, u2⟩ := mean_both (s := s) (v := v0) hx hi K1 K2 K3 K4
      obtain ⟨RR', rd', g1, g2, g3⟩ := one_L (fu := fu) (bi := bi) (ke := fun zRR => Rea_takeOneForAll_j33 fu Fl Re x v0 zRR) hx hi h8 hr hs hz u1 u2 fu fu 0 0 RR rd (by decide) (by omega) (by clear em ed; omega) (by clear em ed; omega) q8
      have g1 : Rea_takeOneForAll fu Fl Re x v0 RR = Rea_takeOneForAll_j33 fu Fl Re x v0 RR' := g1
      have ea : X_allOnes (wd i) = some ((1 <<< ((wd i).toInt64 &&& 63)) - 1) := rfl
      have e33 : Rea_takeOneForAll_j33 fu Fl Re x v0 RR' = some ((if ki i = 2 ∧ v0 = (1 <<< ((wd i).toInt64 &&& 63)) - 1 then 0 else 1), RR') := by
        unfold Rea_takeOneForAll_j33
        rw [gd_t g, nx, K1]
        by_cases c2 : ki i = 2
        · have n3 : ¬ ki i = 3 := by rw [c2]; decide
          rw [if_pos c2]
          by_cases cv : v0 = (1 <<< ((wd i).toInt64 &&& 63)) - 1
          · have im : Fld_isMissing Fl x v0 = some 1 := by
              unfold Fld_isMissing
              rw [gd_t g, nx, K1, if_neg n3, gd_t g, K2, bd_s ea, if_pos cv]
            rw [bd_s im, if_neg (by decide), if_pos ⟨c2, cv⟩]
          · have im : Fld_isMissing Fl x v0 = some 0 := by
              unfold Fld_isMissing
              rw [gd_t g, nx, K1, if_neg n3, gd_t g, K2, bd_s ea, if_neg cv]
            rw [bd_s im, if_pos rfl, if_neg (fun e => cv e.2)]
        · rw [if_neg c2, if_neg (fun e => c2 e.1)]
      by_cases cm : ki i = 2 ∧ v0 = (1 <<< ((wd i).toInt64 &&& 63)) - 1
      · rw [if_pos cm] at e33
        refine ⟨0, Re, RR', ?_, rfl, rfl, Or.inr ⟨rfl, ?_⟩⟩
        · unfold PkT
          rw [if_neg c33, if_pos cl, if_pos rfl, bd_s (g1.trans e33), gd_t (show o_bool 0 = true by decide)]
        · rcases T with T | T
          · exact T.1
          · exact absurd cm T.2.2.1
      · rw [if_neg cm] at e33
        refine ⟨1, Re, RR', ?_, rfl, rfl, Or.inl ⟨by decide, ?_⟩⟩
        · unfold PkT
          rw [if_neg c33, if_pos cl, if_pos rfl, bd_s (g1.trans e33), gd_t (show o_bool 1 = true by decide)]
        · rcases T with T | T
          · rcases T.2 with y | ⟨_, y⟩ | y
            · exact absurd y c33
            · exact absurd y (by decide)
            · exact absurd y cm
          · have e := T.2.2.2
            rw [g2] at e
            cases e
            exact ⟨⟨Mo_at s, rfl⟩, q1, q2, q3, q4, q5, q6, q7, g3⟩
    · have cp : (0 : Int32) < sp := by
        rw [i_lt, k0]
        rw [i_eq, k0] at c0
        clear em ed
        omega
      have cp' : 0 < sp.toInt := by
        rw [i_lt, k0] at cp
        exact cp
      by_cases cf : ki i = 2 ∨ ki i = 3
      · -- COUNT and BIT have no differences
        refine ⟨0, Re, RR, ?_, rfl, rfl, Or.inr ⟨rfl, ?_⟩⟩
        · unfold PkT
          rw [if_neg c33]
          by_cases cl : Rea_subsets Re * sp ≤ Rea_end Re - Rea_at Re
          · rw [if_pos cl, if_neg c0, bd_s ec, if_pos cf, if_neg (by decide)]
          · rw [if_neg cl]
        · rcases T with T | T
          · exact T.1
          · rcases T.2.1 with y | y
            · exact absurd cf (ht.1 y)
            · exact absurd cp y
      · have n3 : ¬ ki i = 3 := fun e => cf (Or.inr e)
        have hL : Mod_takeAll_L107 fu ki wd ba bi x v0 sp fu 0 s rd = some r := by
          rcases T with T | T
          · rcases T.2 with y | ⟨y, _⟩ | y
            · exact absurd y c33
            · exact absurd (ht.2 cf) y
            · exact absurd (Or.inl y.1) cf
          · exact T.2.2.2
        have eM : sp.toInt * ((sub : Int) - ((0 : Nat) : Int)) = ((sub * w : Nat) : Int) := by
          rw [hw0, pm, Int.mul_comm]
          show ((sub : Int) - 0) * (w : Int) = _
          rw [Int.sub_zero]
        by_cases cl : Rea_subsets Re * sp ≤ Rea_end Re - Rea_at Re
        · have cl' := cl
          rw [i_le, em, ed] at cl'
          obtain ⟨b, Re', RR', o1, o2, o3, o4⟩ := dif_L (tp := tp) (Fl := Fl) hf cp' (by clear em ed; omega) hx hi h8 K1 K2 K3 n3 hw fu fu 0 0 Re s RR rd (by decide) (by omega) (by clear em ed; omega) hz hs R (by rw [eM]; clear em ed; omega) hL
          have o1 : Rea_takeDifferences fu Fl tp x v0 sp Re RR = some (b, Re', RR') := o1
          rcases o4 with ⟨o5, o6, o7⟩ | ⟨o5, o6⟩
          · refine ⟨1, Re', RR', ?_, o2, o3, Or.inl ⟨by decide, o6, o7⟩⟩
            unfold PkT
            rw [if_neg c33, if_pos cl, if_neg c0, bd_s ec, if_neg cf, if_pos rfl, bd_s o1, o5]
            rfl
          · refine ⟨0, Re', RR', ?_, o2, o3, Or.inr ⟨rfl, o6⟩⟩
            unfold PkT
            rw [if_neg c33, if_pos cl, if_neg c0, bd_s ec, if_neg cf, if_pos rfl, bd_s o1, o5]
            rfl
        · have cl' := cl
          rw [i_le, em, ed] at cl'
          refine ⟨0, Re, RR, ?_, rfl, rfl, Or.inr ⟨rfl, ?_⟩⟩
          · unfold PkT
            rw [if_neg c33, if_neg cl]
          · obtain ⟨p, hp⟩ : ∃ p : Nat, (Mo_at s).toInt = (p : Int) := ⟨(Mo_at s).toInt.toNat, by clear em ed; omega⟩
            exact dif_short (Re0 := Re) (tp := tp) hf cp' (by clear em ed; omega) hx hi h8 fu 0 p 0 s rd (by decide) (by omega) hz hs hp (by rw [← hp]; exact q4) q5 q6 (by rw [eM]; clear em ed; omega) hL

-- bits that are taken from the tape, on both sides
theorem or_one (x : BitVec 64) : (x * 2#64) ||| 1#64 = x * 2#64 + 1#64 := by
  have h : (x * 2#64) &&& 1#64 = 0#64 := by
    apply BitVec.eq_of_toNat_eq
    have e1 : (1#64).toNat = 1 := rfl
    have e2 : (2#64).toNat = 2 := rfl
    have e0 : (0#64).toNat = 0 := rfl
    rw [BitVec.toNat_and, BitVec.toNat_mul, e1, e2, e0, Nat.and_one_is_mod]
    omega
  rw [BitVec.add_eq_or_of_and_eq_zero _ _ h]
theorem or_add (x : Int64) (b : Int32) (hb : b = 0 ∨ b = 1) : ((x <<< ((1 : Int32).toInt64 &&& 63)) ||| b.toInt64) = 2 * x + (if b = 0 then 0 else 1) := by
  have e1 : ((1 : Int32).toInt64 &&& 63) = 1 := by decide
  have e2 : ((1 : Int64) <<< (1 : Int64)) = 2 := by decide
  rw [e1, ← shl_mul, e2, Int64.mul_comm]
  rcases hb with rfl | rfl
  · have z : (0 : Int32).toInt64 = 0 := by decide
    rw [z, if_pos rfl]
    apply Int64.toBitVec_inj.1
    show (2 * x).toBitVec ||| 0#64 = (2 * x).toBitVec + 0#64
    rw [BitVec.or_zero, BitVec.add_zero]
  · have z : (1 : Int32).toInt64 = 1 := by decide
    rw [z, if_neg (by decide)]
    apply Int64.toBitVec_inj.1
    have e3 : (2 * x).toBitVec = x.toBitVec * 2#64 := by
      rw [Int64.mul_comm]
      rfl
    show (2 * x).toBitVec ||| 1#64 = (2 * x).toBitVec + 1#64
    rw [e3]
    exact or_one _
def BiR (tp : S_Bits) (bi : Nat → Int32) (m : Int) : Prop := ∀ (k : Nat) (x : Int32), (k : Int) < m → x.toInt = 32 + (k : Int) → (bi k = 0 ∨ bi k = 1) ∧ Bits_bitAt 1000 tp x = some (bi k)
theorem take_L {fu : Nat} {tp : S_Bits} {bi : Nat → Int32} {w a0 : Int32} {M : Int} (hM : M ≤ 40000) (B : BiR tp bi M) : ∀ (j n n' p : Nat) (v : Int64) (x y : Int32) (s : S_Mo), x.toInt + (j : Int) = w.toInt → 0 ≤ x.toInt → y.toInt = 32 + (p : Int) → (Mo_at s).toInt = (p : Int) → (a0 + w).toInt = 32 + (p : Int) + (j : Int) → (p : Int) + (j : Int) ≤ M → j < n → j < n' → ∃ (v' : Int64) (z : Int32), Mod_take_L27 fu bi w n v x s = some (v', Mo_set_at s z) ∧ z.toInt = (p : Int) + (j : Int) ∧ Bits_numberAt_L5 fu 1000 tp a0 w n' v y = some v'
  | j, 0, n', p, v, x, y, s, h1, h2, h3, h4, h5, h6, h7, h8 => absurd h7 (by omega)
  | j, n + 1, 0, p, v, x, y, s, h1, h2, h3, h4, h5, h6, h7, h8 => absurd h8 (by omega)
  | 0, n + 1, n' + 1, p, v, x, y, s, h1, h2, h3, h4, h5, h6, h7, h8 => by
    have c1 : w ≤ x := by rw [i_le]; omega
    have c2 : a0 + w ≤ y := by rw [i_le, h5, h3]; clear h5; omega
    refine ⟨v, Mo_at s, ?_, ?_, ?_⟩
    · rw [Mod_take_L27, if_pos c1]
    · rw [h4]
      exact (Int.add_zero _).symm
    · rw [Bits_numberAt_L5, if_pos c2]
  | j + 1, n + 1, n' + 1, p, v, x, y, s, h1, h2, h3, h4, h5, h6, h7, h8 => by
    have k1 : (1 : Int32).toInt = 1 := by decide
    have r2 := i_r2 w
    have c1 : ¬ w ≤ x := by rw [i_le]; clear h5; omega
    have c2 : ¬ a0 + w ≤ y := by rw [i_le, h5, h3]; clear h5; omega
    obtain ⟨hb, eb⟩ := B p y (by clear h5; omega) h3
    have ga : o_in (Mo_at s) 40000 = true := i_in.mpr (by clear h5; omega)
    have na : (Mo_at s).toNatClampNeg = p := by
      clear h5
      have := i_nat (a := Mo_at s) (by omega)
      omega
    have X1 : (x + 1).toInt = x.toInt + 1 := by
      clear h5
      rw [i_add (a := x) (b := 1) (by omega) (by omega), k1]
    have Y1 : (y + 1).toInt = 32 + ((p + 1 : Nat) : Int) := by
      clear h5 X1
      rw [i_add (a := y) (b := 1) (by omega) (by omega), k1]
      omega
    have A1 : (Mo_at s + 1).toInt = ((p + 1 : Nat) : Int) := by
      clear h5 X1 Y1
      rw [i_add (a := Mo_at s) (b := 1) (by omega) (by omega), k1]
      omega
    obtain ⟨v', z, g1, g2, g3⟩ := take_L (fu := fu) (w := w) (a0 := a0) hM B j n n' (p + 1) (2 * v + (if bi p = 0 then 0 else 1)) (x + 1) (y + 1) (Mo_set_at s (Mo_at s + 1)) (by rw [X1]; clear h5 X1 Y1 A1; omega) (by rw [X1]; clear h5 X1 Y1 A1; omega) Y1 A1 (by rw [h5]; clear h5 X1 Y1 A1; omega) (by clear h5 X1 Y1 A1; omega) (by clear h5 X1 Y1 A1; omega) (by clear h5 X1 Y1 A1; omega)
    refine ⟨v', z, ?_, ?_, ?_⟩
    · rw [Mod_take_L27, if_neg c1, gd_t ga, na]
      unfold Mod_take_j55 o_lt
      dsimp only
      by_cases c : bi p = 0
      · rw [if_pos c] at g1 ⊢
        exact g1
      · rw [if_neg c] at g1 ⊢
        exact g1
    · rw [g2]
      clear h5 X1 Y1 A1
      omega
    · rw [Bits_numberAt_L5, if_neg c2, bd_s eb]
      unfold o_lt
      dsimp only
      rw [or_add v (bi p) hb]
      exact g3
-- a number is taken: there is enough, or there is not
theorem take_both {fu p : Nat} {tp : S_Bits} {bi : Nat → Int32} {w f : Int32} {s : S_Mo} {Re : S_Rea} (hf : 12000 ≤ fu) (hM : (Mo_many s).toInt ≤ 40000) (B : BiR tp bi (Mo_many s).toInt) (hp : (Mo_at s).toInt = (p : Int)) (hr : (Rea_at Re).toInt = 32 + (p : Int)) (hw : 0 ≤ w.toInt ∧ w.toInt ≤ 64) (h : (p : Int) + w.toInt ≤ (Mo_many s).toInt) : ∃ (v : Int64) (z : Int32), Mod_take fu bi w f s = some (v, Mo_set_at s z) ∧ z.toInt = (p : Int) + w.toInt ∧ Rea_take fu tp w Re = some (v, Rea_set_at Re (Rea_at Re + w)) ∧ (Rea_at Re + w).toInt = 32 + ((p : Int) + w.toInt) := by
  have k0 : (0 : Int32).toInt = 0 := by decide
  obtain ⟨j, hj⟩ : ∃ j : Nat, w.toInt = (j : Int) := ⟨w.toInt.toNat, by omega⟩
  have e1 : (Mo_at s + w).toInt = (p : Int) + w.toInt := by
    rw [i_add (a := Mo_at s) (b := w) (by omega) (by omega), hp]
  have e2 : (Rea_at Re + w).toInt = 32 + ((p : Int) + w.toInt) := by
    clear e1
    rw [i_add (a := Rea_at Re) (b := w) (by omega) (by omega), hr]
    omega
  have c : Mo_at s + w ≤ Mo_many s := by rw [i_le, e1]; exact h
  clear e1
  obtain ⟨v, z, g1, g2, g3⟩ := take_L (fu := fu) (w := w) (a0 := Rea_at Re) hM B j fu fu p 0 0 (Rea_at Re) s (by rw [k0]; clear e2; omega) (by decide) hr hp (by rw [e2]; clear e2; omega) (by clear e2; omega) (by clear e2; omega) (by clear e2; omega)
  refine ⟨v, z, ?_, by rw [g2, hj], ?_, e2⟩
  · unfold Mod_take
    rw [if_pos c]
    exact g1
  · have g3 : Bits_numberAt fu 1000 tp (Rea_at Re) w = some v := g3
    unfold Rea_take
    rw [bd_s g3]
    rfl
theorem take_short {fu p : Nat} {bi : Nat → Int32} {w f : Int32} {s : S_Mo} {q : Int64 × S_Mo} (hp : (Mo_at s).toInt = (p : Int)) (hM : (Mo_many s).toInt ≤ 40000) (hp2 : (p : Int) ≤ 40000) (hw : 0 ≤ w.toInt ∧ w.toInt ≤ 64) (h : ¬ (p : Int) + w.toInt ≤ (Mo_many s).toInt) (e : Mod_take fu bi w f s = some q) : ¬ Mo_fault q.2 = 0 ∧ Mo_fields q.2 = Mo_fields s := by
  have e1 : (Mo_at s + w).toInt = (p : Int) + w.toInt := by
    rw [i_add (a := Mo_at s) (b := w) (by omega) (by omega), hp]
  have c : ¬ Mo_at s + w ≤ Mo_many s := by rw [i_le, e1]; exact h
  unfold Mod_take at e
  rw [if_neg c] at e
  obtain ⟨s5, e5, e⟩ := oi_bd e
  have x5 := wrong_x (by decide) e5
  cases e
  exact ⟨x5.1, x5.2.1⟩
-- what a raw number means
theorem mean_both {Fl : S_Fld} {s : S_Mo} {ki wd : Nat → Int32} {ba : Nat → Int64} {x : Int32} {i : Nat} {v : Int64} (hx : x.toInt = (i : Int)) (hi : i < 100) (h1 : Fld_kinds Fl i = ki i) (h2 : Fld_widths Fl i = wd i) (h3 : Fld_references Fl i = ba i) (h4 : ki i = 3 → ba i = 0) : ∃ u, Fld_valueOf Fl x v = some u ∧ Mod_meant s ki wd ba x v = some u := by
  have g : o_in x 100 = true := i_in.mpr (by omega)
  have g' : o_in x 101 = true := i_in.mpr (by omega)
  have n : x.toNatClampNeg = i := by
    have := i_nat (a := x) (by omega)
    omega
  have em : Mod_most (wd i) = some ((1 <<< ((wd i).toInt64 &&& 63)) - 1) := rfl
  have ea : X_allOnes (wd i) = some ((1 <<< ((wd i).toInt64 &&& 63)) - 1) := rfl
  by_cases c3 : ki i = 3
  · have im : Fld_isMissing Fl x v = some 0 := by
      unfold Fld_isMissing
      rw [gd_t g, n, h1, if_pos c3]
    refine ⟨v, ?_, ?_⟩
    · unfold Fld_valueOf
      rw [bd_s im, if_pos rfl, gd_t g, n, h3, h4 c3, Int64.zero_add]
    · unfold Mod_meant
      rw [gd_t g', n, if_pos c3]
  · by_cases cv : v = (1 <<< ((wd i).toInt64 &&& 63)) - 1
    · have im : Fld_isMissing Fl x v = some 1 := by
        unfold Fld_isMissing
        rw [gd_t g, n, h1, if_neg c3, gd_t g, h2, bd_s ea, if_pos cv]
      refine ⟨-9000000000000000000, ?_, ?_⟩
      · unfold Fld_valueOf
        rw [bd_s im, if_neg (by decide)]
      · unfold Mod_meant
        rw [gd_t g', n, if_neg c3, gd_t g', bd_s em, if_pos cv]
    · have im : Fld_isMissing Fl x v = some 0 := by
        unfold Fld_isMissing
        rw [gd_t g, n, h1, if_neg c3, gd_t g, h2, bd_s ea, if_neg cv]
      refine ⟨v + ba i, ?_, ?_⟩
      · unfold Fld_valueOf
        rw [bd_s im, if_pos rfl, gd_t g, n, h3, Int64.add_comm]
      · unfold Mod_meant
        rw [gd_t g', n, if_neg c3, gd_t g', bd_s em, if_neg cv, gd_t g']

-- a number's bits, laid by both
def WrR (hb : Nat → Nat) (b : S_Bits) (s : S_Mo) (bi : Nat → Int32) : Prop := ∃ m : Nat, (Mo_many s).toInt = (m : Int) ∧ (Bits_length b).toInt = ((32 + m : Nat) : Int) ∧ InvB (Bits_bytes b) (32 + m) 3679 ∧ (∀ k, k < m → (bi k).toInt = (Bv (Bits_bytes b) (32 + k) : Int)) ∧ ∀ i, i < 16 → Bv (Bits_bytes b) i = hb i
theorem lay_L {fu : Nat} {v : Int64} : ∀ (n k m : Nat) (x : Int32) (s : S_Mo) (bi : Nat → Int32) (R : S_Mo × (Nat → Int32)), x.toInt = (k : Int) - 1 → k ≤ 64 → (Mo_many s).toInt = (m : Int) → m + k ≤ 40000 → Mod_lay_L5 fu v n x s bi = some R → (∃ z, R.1 = Mo_set_many s z) ∧ (Mo_many R.1).toInt = ((m + k : Nat) : Int) ∧ (∀ j, j < m → R.2 j = bi j) ∧ ∀ i, i < k → (R.2 (m + i)).toInt = (v.toInt / ((2 ^ (k - 1 - i) : Nat) : Int)) % 2
  | 0, k, m, x, s, bi, R, _, _, _, _, h => by
    rw [Mod_lay_L5] at h
    cases h
  | n + 1, 0, m, x, s, bi, R, hx, hk, hm, hmk, h => by
    have k0 : (0 : Int32).toInt = 0 := by decide
    have c : x < 0 := by rw [i_lt]; omega
    rw [Mod_lay_L5, if_pos c] at h
    cases h
    exact ⟨⟨Mo_many s, rfl⟩, hm, fun _ _ => rfl, fun i hi => absurd hi (by omega)⟩
  | n + 1, k + 1, m, x, s, bi, R, hx, hk, hm, hmk, h => by
    have k0 : (0 : Int32).toInt = 0 := by decide
    have k1 : (1 : Int32).toInt = 1 := by decide
    have km : ((-1) : Int32).toInt = -1 := by decide
    have z1 : (1 : Int64).toInt = 1 := by decide
    have c : ¬ x < 0 := by rw [i_lt]; omega
    have nm : (Mo_many s).toNatClampNeg = m := by
      have := i_nat (a := Mo_many s) (by omega)
      omega
    have xm : (x + (-1)).toInt = (k : Int) - 1 := by
      rw [i_add (a := x) (b := (-1)) (by omega) (by omega), km, hx]
      omega
    have t1 : (Mo_many (Mo_set_many s (Mo_many s + 1))).toInt = ((m + 1 : Nat) : Int) := by
      show (Mo_many s + 1).toInt = _
      clear xm
      rw [i_add (a := Mo_many s) (b := 1) (by omega) (by omega), hm, k1]
      rfl
    have ebit : ((v >>> (x.toInt64 &&& 63)) &&& 1).toInt = (v.toInt / ((2 ^ k : Nat) : Int)) % 2 := by
      clear xm t1
      rw [and1_64, sh_e v (k := k) (by omega) (by omega)]
    have rng : 0 ≤ (v.toInt / ((2 ^ k : Nat) : Int)) % 2 ∧ (v.toInt / ((2 ^ k : Nat) : Int)) % 2 < 2 := ⟨Int.emod_nonneg _ (by decide), Int.emod_lt_of_pos _ (by decide)⟩
    obtain ⟨B, hB⟩ : ∃ B : Int, B = (v.toInt / ((2 ^ k : Nat) : Int)) % 2 := ⟨_, rfl⟩
    rw [← hB] at ebit rng
    have step : ∀ tb : Int32, tb.toInt = B → Mod_lay_j34 fu (fun v0 v1 v2 => Mod_lay_L5 fu v n v0 v1 v2) v x (Mo_many s) tb s bi = some R → (∃ z, R.1 = Mo_set_many s z) ∧ (Mo_many R.1).toInt = ((m + (k + 1) : Nat) : Int) ∧ (∀ j, j < m → R.2 j = bi j) ∧ ∀ i, i < k + 1 → (R.2 (m + i)).toInt = (v.toInt / ((2 ^ (k + 1 - 1 - i) : Nat) : Int)) % 2 := by
      intro tb htb g
      unfold Mod_lay_j34 o_lt at g
      have g := oe_gd g
      dsimp only at g
      have en : vp_nar .boolean tb = tb := by
        by_cases c0 : tb.toInt = 0
        · have e : tb = 0 := i_eq.mpr (by rw [c0, k0])
          rw [e]
          decide
        · have e : tb = 1 := i_eq.mpr (by rw [k1]; clear xm t1 ebit; omega)
          rw [e]
          decide
      rw [nm, en] at g
      obtain ⟨⟨z, g1⟩, g2, g3, g4⟩ := lay_L n k (m + 1) (x + (-1)) (Mo_set_many s (Mo_many s + 1)) (upd bi m tb) R xm (by clear xm t1 ebit; omega) t1 (by clear xm t1 ebit; omega) g
      have a1 : m + 1 + k = m + (k + 1) := by clear xm t1 ebit; omega
      rw [a1] at g2
      refine ⟨⟨z, by rw [g1]⟩, g2, fun j hj => ?_, fun i hi => ?_⟩
      · rw [g3 j (by clear xm t1 ebit; omega)]
        have nj : j ≠ m := by clear xm t1 ebit; omega
        exact upd_ne nj
      · cases i with
        | zero =>
          have e0 : m + 0 = m := rfl
          have ek : k + 1 - 1 - 0 = k := by clear xm t1 ebit; omega
          rw [e0, g3 m (by clear xm t1 ebit; omega), upd_at, ek, htb, hB]
        | succ i =>
          have e0 : m + (i + 1) = m + 1 + i := by clear xm t1 ebit; omega
          have ek : k + 1 - 1 - (i + 1) = k - 1 - i := by clear xm t1 ebit; omega
          rw [e0, ek]
          exact g4 i (by clear xm t1 ebit; omega)
    rw [Mod_lay_L5, if_neg c] at h
    by_cases cb : ((v >>> (x.toInt64 &&& 63)) &&& 1) = 1
    · rw [if_pos cb] at h
      exact step 1 (by rw [k1, ← ebit, cb, z1]) h
    · rw [if_neg cb] at h
      refine step 0 ?_ h
      rw [i64_eq, z1, ebit] at cb
      rw [k0]
      clear xm t1 ebit
      omega
theorem lay_both {hb : Nat → Nat} {fu : Nat} {v : Int64} {w : Int32} {b b' : S_Bits} {s : S_Mo} {bi : Nat → Int32} {R : S_Mo × (Nat → Int32)} (hf : 12000 ≤ fu) (h0 : 0 ≤ w.toInt) (h1 : w.toInt ≤ 64) (Wr : WrR hb b s bi) (hm : (Mo_many s).toInt + w.toInt ≤ 29400) (e1 : Bits_add fu 3679 v w b = some b') (e2 : Mod_lay fu v w s bi = some R)   : WrR hb b' R.1 R.2 ∧ (∃ z, R.1 = Mo_set_many s z) ∧ (Mo_many R.1).toInt = (Mo_many s).toInt + w.toInt := by
  have k1 : (1 : Int32).toInt = 1 := by decide
  obtain ⟨m, m1, m2, m3, m4, m5⟩ := Wr
  obtain ⟨k, hk⟩ : ∃ k : Nat, w.toInt = (k : Int) := ⟨w.toInt.toNat, by omega⟩
  have xm : (w - 1).toInt = (k : Int) - 1 := by
    rw [i_sub (a := w) (b := 1) (by omega) (by omega), hk, k1]
  obtain ⟨b2, f1, f2, f3, f4, f5⟩ := add_L (fu := fu) (c := 3679) (v := v) (by decide) k fu (32 + m) (w - 1) b xm (by clear xm; omega) (by clear xm; omega) m2 (by clear xm; omega) m3
  have f1 : Bits_add fu 3679 v w b = some b2 := f1
  rw [e1] at f1
  cases f1
  obtain ⟨g0, g1, g2, g3⟩ := lay_L fu k m (w - 1) s bi R xm (by clear xm; omega) m1 (by clear xm; omega) e2
  clear xm
  have a1 : 32 + m + k = 32 + (m + k) := by omega
  rw [a1] at f2 f3
  refine ⟨⟨m + k, g1, f2, f3, fun j hj => ?_, fun i hi => (f4 i (by omega)).trans (m5 i hi)⟩, g0, by rw [g1, m1, hk]; rfl⟩
  by_cases c : j < m
  · rw [g2 j c, m4 j c, f4 (32 + j) (by omega)]
  · have e := f5 (j - m) (by omega)
    have e3 := g3 (j - m) (by omega)
    have d1 : 32 + m + (j - m) = 32 + j := by omega
    have d2 : m + (j - m) = j := by omega
    rw [d1] at e
    rw [d2] at e3
    rw [e3, e]
-- the raw number of a value, on both sides
theorem raw_both {Fl : S_Fld} {s : S_Mo} {ki wd : Nat → Int32} {ba : Nat → Int64} {x : Int32} {i : Nat} {v : Int64} (hx : x.toInt = (i : Int)) (hi : i < 100) (h1 : Fld_kinds Fl i = ki i) (h2 : Fld_widths Fl i = wd i) (h3 : Fld_references Fl i = ba i) (h4 : ki i = 3 → ba i = 0) (hv : okv (ki i) v) : ∃ u, Fld_rawOf Fl x v = some u ∧ Mod_raw s ki wd ba x v = some u := by
  have g : o_in x 100 = true := i_in.mpr (by omega)
  have g' : o_in x 101 = true := i_in.mpr (by omega)
  have n : x.toNatClampNeg = i := by
    have := i_nat (a := x) (by omega)
    omega
  have em : Mod_most (wd i) = some ((1 <<< ((wd i).toInt64 &&& 63)) - 1) := rfl
  have ea : X_allOnes (wd i) = some ((1 <<< ((wd i).toInt64 &&& 63)) - 1) := rfl
  by_cases c3 : ki i = 3
  · have nm : ¬ v = (-9000000000000000000) := by
      rcases hv.2 c3 with e | e <;> rw [e] <;> decide
    refine ⟨v, ?_, ?_⟩
    · unfold Fld_rawOf
      rw [if_neg nm, gd_t g, n, h3, h4 c3]
      exact congrArg some (Int64.sub_zero v)
    · unfold Mod_raw
      rw [gd_t g', n, if_pos c3]
  · by_cases cv : v = (-9000000000000000000)
    · refine ⟨(1 <<< ((wd i).toInt64 &&& 63)) - 1, ?_, ?_⟩
      · unfold Fld_rawOf
        rw [if_pos cv, gd_t g, n, h2, bd_s ea]
      · unfold Mod_raw
        rw [gd_t g', n, if_neg c3, if_pos cv, gd_t g', bd_s em]
    · refine ⟨v - ba i, ?_, ?_⟩
      · unfold Fld_rawOf
        rw [if_neg cv, gd_t g, n, h3]
      · unfold Mod_raw
        rw [gd_t g', n, if_neg c3, if_neg cv, gd_t g']

-- feeding: the bytes, on both sides
theorem byte_bit {Y : Int} {U : Nat} (hU : (U : Int) = Y % 256) {r : Nat} (hr : r < 8) : (((U / 2 ^ (7 - r)) % 2 : Nat) : Int) = (Y / ((2 ^ (7 - r) : Nat) : Int)) % 2 := by
  have : r = 0 ∨ r = 1 ∨ r = 2 ∨ r = 3 ∨ r = 4 ∨ r = 5 ∨ r = 6 ∨ r = 7 := by omega
  have p0 : 2 ^ (7 - 0) = 128 := rfl
  have p1 : 2 ^ (7 - 1) = 64 := rfl
  have p2 : 2 ^ (7 - 2) = 32 := rfl
  have p3 : 2 ^ (7 - 3) = 16 := rfl
  have p4 : 2 ^ (7 - 4) = 8 := rfl
  have p5 : 2 ^ (7 - 5) = 4 := rfl
  have p6 : 2 ^ (7 - 6) = 2 := rfl
  have p7 : 2 ^ (7 - 7) = 1 := rfl
  rcases this with e | e | e | e | e | e | e | e <;> subst e
  · rw [p0]
    omega
  · rw [p1]
    omega
  · rw [p2]
    omega
  · rw [p3]
    omega
  · rw [p4]
    omega
  · rw [p5]
    omega
  · rw [p6]
    omega
  · rw [p7]
    omega
theorem fd_L {fu : Nat} {w : Int32} : ∀ (n k m : Nat) (x : Int32) (s : S_Mo) (tape : Nat → Int32) (R : Int32 × S_Mo × (Nat → Int32)), x.toInt = (k : Int) - 1 → k ≤ 4 → (Mo_taped s).toInt = (m : Int) → m + k ≤ 1000 → Mod_feed_L33 fu w n x s tape = some R → (Mo_taped R.2.1).toInt = ((m + k : Nat) : Int) ∧ (∀ j, j < m → R.2.2 j = tape j) ∧ ∀ q, q < k → (R.2.2 (m + q)).toInt = (w.toInt / ((2 ^ (8 * (k - 1 - q)) : Nat) : Int)) % 256
  | 0, k, m, x, s, tape, R, _, _, _, _, h => by
    rw [Mod_feed_L33] at h
    cases h
  | n + 1, 0, m, x, s, tape, R, hx, hk, hm, hmk, h => by
    have k0 : (0 : Int32).toInt = 0 := by decide
    have c : x < 0 := by rw [i_lt]; omega
    rw [Mod_feed_L33, if_pos c] at h
    cases h
    exact ⟨hm, fun _ _ => rfl, fun q hq => absurd hq (by omega)⟩
  | n + 1, k + 1, m, x, s, tape, R, hx, hk, hm, hmk, h => by
    have k0 : (0 : Int32).toInt = 0 := by decide
    have k1 : (1 : Int32).toInt = 1 := by decide
    have k8 : (8 : Int32).toInt = 8 := by decide
    have km : ((-1) : Int32).toInt = -1 := by decide
    have c : ¬ x < 0 := by rw [i_lt]; omega
    rw [Mod_feed_L33, if_neg c] at h
    have h := oe_gd h
    unfold o_lt at h
    dsimp only at h
    have nm : (Mo_taped s).toNatClampNeg = m := by
      have := i_nat (a := Mo_taped s) (by omega)
      omega
    rw [nm] at h
    have xm : (x + (-1)).toInt = (k : Int) - 1 := by
      rw [i_add (a := x) (b := (-1)) (by omega) (by omega), km, hx]
      omega
    have t1 : (Mo_taped (Mo_set_taped s (Mo_taped s + 1))).toInt = ((m + 1 : Nat) : Int) := by
      show (Mo_taped s + 1).toInt = _
      clear xm
      rw [i_add (a := Mo_taped s) (b := 1) (by omega) (by omega), hm, k1]
      rfl
    obtain ⟨g1, g2, g3⟩ := fd_L n k (m + 1) (x + (-1)) (Mo_set_taped s (Mo_taped s + 1)) _ R xm (by clear xm t1; omega) t1 (by clear xm t1; omega) h
    have a1 : m + 1 + k = m + (k + 1) := by clear xm t1; omega
    rw [a1] at g1
    refine ⟨g1, fun j hj => ?_, fun q hq => ?_⟩
    · rw [g2 j (by clear xm t1; omega)]
      have nj : j ≠ m := by clear xm t1; omega
      exact upd_ne nj
    · cases q with
      | zero =>
        have e0 : m + 0 = m := rfl
        have ek : k + 1 - 1 - 0 = k := by clear xm t1; omega
        have m8 : (8 * x).toInt = ((8 * k : Nat) : Int) := by
          clear xm t1
          rw [i_mull 8 x 8 k8 (by omega) (by omega)]
          omega
        rw [e0, g2 m (by clear xm t1 m8; omega), upd_at, and255, shI w m8 (by clear xm t1 m8; omega), ek]
      | succ q =>
        have e0 : m + (q + 1) = m + 1 + q := by clear xm t1; omega
        have ek : k + 1 - 1 - (q + 1) = k - 1 - q := by clear xm t1; omega
        rw [e0, ek]
        exact g3 q (by clear xm t1; omega)
theorem TpR_inv {tp : S_Bits} {tape : Nat → Int32} {x : Int32} {n : Nat} (hn : x.toInt = (n : Int)) (At : A_Mtape tape) (T : TpR tp tape x) : InvB (Bits_bytes tp) (8 * n) 1000 := by
  obtain ⟨T1, T2, T3, T4, T5⟩ := T
  have k0 : (0 : Int32).toInt = 0 := by decide
  have z0 : (0 : Int32).toInt.toNat = 0 := by decide
  have e : 8 * n / 8 = n := by omega
  refine ⟨fun j hj => ?_, fun hc => ?_, fun j h1 h2 => ?_⟩
  · by_cases c : (j : Int) < x.toInt
    · rw [T4 j c]
      exact A_Mtape_at At j
    · rw [T5 j (by omega) hj, k0]
      exact ⟨by decide, by decide⟩
  · rw [e] at hc ⊢
    rw [T5 n (by omega) hc, z0, Nat.zero_mod]
  · rw [e] at h1
    exact T5 j (by omega) h2
theorem feed_both {fu : Nat} {X : S_X} {a0 a1 : Int32} {tp : S_Bits} {s : S_Mo} {tape : Nat → Int32} {Q : Int32 × S_Bits} {R : Int32 × S_Mo × (Nat → Int32)} (hf : 12000 ≤ fu) (At : A_Mtape tape) (T : TpR tp tape (Mo_taped s)) (h1 : X_feed fu X a0 a1 tp = some Q) (h2 : Mod_feed fu a0 a1 s tape = some R) : TpR Q.2 R.2.2 (Mo_taped R.2.1) := by
  have k0 : (0 : Int32).toInt = 0 := by decide
  have k1 : (1 : Int32).toInt = 1 := by decide
  have k4 : (4 : Int32).toInt = 4 := by decide
  have k8 : (8 : Int32).toInt = 8 := by decide
  have kt : (1000 : Int32).toInt = 1000 := by decide
  have T' := T
  obtain ⟨T1, T2, T3, T4, T5⟩ := T'
  obtain ⟨n, hn⟩ : ∃ n : Nat, (Mo_taped s).toInt = (n : Int) := ⟨(Mo_taped s).toInt.toNat, by omega⟩
  unfold X_feed at h1
  unfold Mod_feed o_lt at h2
  dsimp only at h2
  by_cases c1 : a1 < 1
  · rw [if_pos c1] at h1 h2
    cases h1
    cases h2
    exact T
  · rw [if_neg c1] at h1 h2
    by_cases c4 : (4 : Int32) < a1
    · rw [if_pos c4] at h1 h2
      cases h1
      cases h2
      exact T
    · rw [if_neg c4] at h1 h2
      rw [i_lt, k1] at c1
      rw [i_lt, k4] at c4
      obtain ⟨k, hk⟩ : ∃ k : Nat, a1.toInt = (k : Int) := ⟨a1.toInt.toNat, by omega⟩
      obtain ⟨q, eq, hq⟩ := bc_n (tp := tp) (n := n) (by rw [T1, hn]) (by omega)
      rw [bd_s eq] at h1
      have eqa : q + a1 = Mo_taped s + a1 := by
        have e : q = Mo_taped s := i_eq.mpr (by rw [hq, hn])
        rw [e]
      rw [eqa] at h1
      have es : (Mo_taped s + a1).toInt = (n : Int) + (k : Int) := by
        rw [i_add (a := Mo_taped s) (b := a1) (by omega) (by omega), hn, hk]
      by_cases cl : Mo_taped s + a1 ≤ 1000
      · rw [if_pos cl] at h1 h2
        rw [i_le, es, kt] at cl
        clear es eqa
        obtain ⟨tp', ea, h1⟩ := oi_bd h1
        obtain ⟨q3, e3, h1⟩ := oi_bd h1
        cases h1
        have xm : (a1 - 1).toInt = (k : Int) - 1 := by
          rw [i_sub (a := a1) (b := 1) (by omega) (by omega), hk, k1]
        obtain ⟨g1, g2, g3⟩ := fd_L fu k n (a1 - 1) (Mo_set_thrown s 0) tape R xm (by clear xm; omega) hn (by clear xm; omega) h2
        clear xm
        have m8 : (8 * a1).toInt = 8 * (k : Int) := by
          rw [i_mull 8 a1 8 k8 (by omega) (by omega), hk]
        have y8 : (8 * a1 - 1).toInt = ((8 * k : Nat) : Int) - 1 := by
          rw [i_sub (a := 8 * a1) (b := 1) (by rw [m8]; clear m8; omega) (by rw [m8]; clear m8; omega), m8, k1]
          clear m8
          omega
        clear m8
        obtain ⟨b', f1, f2, f3, f4, f5⟩ := add_L (fu := fu) (c := 1000) (v := a0.toInt64) (by decide) (8 * k) fu (8 * n) (8 * a1 - 1) tp y8 (by clear y8; omega) (by clear y8; omega) (by rw [T1, hn]; clear y8; omega) (by clear y8; omega) (TpR_inv hn At T)
        clear y8
        have f1 : Bits_add fu 1000 a0.toInt64 (8 * a1) tp = some b' := f1
        rw [f1] at ea
        cases ea
        have hv : a0.toInt64.toInt = a0.toInt := Int32.toInt_toInt64 a0
        rw [hv] at f5
        have I0 := (TpR_inv hn At T).1
        refine ⟨?_, ?_, ?_, fun j hj => ?_, fun j hj hj2 => ?_⟩
        · show (Bits_length tp').toInt = 8 * (Mo_taped R.2.1).toInt
          rw [f2, g1]
          omega
        · rw [g1]
          omega
        · rw [g1]
          omega
        · rw [g1] at hj
          show Bits_bytes tp' j = R.2.2 j
          obtain ⟨r1, r2⟩ := f3.1 j (by omega)
          by_cases c : j < n
          · rw [g2 j c, ← T4 j (by omega)]
            obtain ⟨s1, s2⟩ := I0 j (by omega)
            have e := byte_eq (V := (Bits_bytes tp' j).toInt.toNat) (U := (Bits_bytes tp j).toInt.toNat) (by omega) (by omega) (fun r hr => by
              have x := f4 (8 * j + r) (by omega)
              unfold Bv at x
              have d1 : (8 * j + r) / 8 = j := by omega
              have d2 : (8 * j + r) % 8 = r := by omega
              rw [d1, d2] at x
              exact x)
            exact i_eq.mpr (by omega)
          · have u := g3 (j - n) (by omega)
            have d0 : n + (j - n) = j := by omega
            rw [d0] at u
            have ur : 0 ≤ (R.2.2 j).toInt ∧ (R.2.2 j).toInt < 256 := by
              rw [u]
              exact ⟨Int.emod_nonneg _ (by decide), Int.emod_lt_of_pos _ (by decide)⟩
            have e := byte_eq (V := (Bits_bytes tp' j).toInt.toNat) (U := (R.2.2 j).toInt.toNat) (by omega) (by omega) (fun r hr => by
              have x := f5 (8 * (j - n) + r) (by omega)
              unfold Bv at x
              have d1 : (8 * n + (8 * (j - n) + r)) / 8 = j := by omega
              have d2 : (8 * n + (8 * (j - n) + r)) % 8 = r := by omega
              rw [d1, d2] at x
              have y := byte_bit (Y := a0.toInt / ((2 ^ (8 * (k - 1 - (j - n))) : Nat) : Int)) (U := (R.2.2 j).toInt.toNat) (by rw [← u]; omega) hr
              have d3 : 8 * k - 1 - (8 * (j - n) + r) = 8 * (k - 1 - (j - n)) + (7 - r) := by omega
              have d4 : a0.toInt / ((2 ^ (8 * (k - 1 - (j - n))) : Nat) : Int) / ((2 ^ (7 - r) : Nat) : Int) = a0.toInt / ((2 ^ (8 * (k - 1 - (j - n)) + (7 - r)) : Nat) : Int) := by
                rw [Nat.pow_add, Int.natCast_mul]
                exact Int.ediv_ediv_of_nonneg (Int.natCast_nonneg _)
              rw [d4, ← d3, ← x] at y
              exact (Int.ofNat.inj y).symm)
            exact i_eq.mpr (by omega)
        · rw [g1] at hj
          show Bits_bytes tp' j = 0
          have dq : (8 * n + 8 * k) / 8 = n + k := by omega
          by_cases c : j = n + k
          · have z := f3.2.1 (by rw [dq]; omega)
            have dm : (8 * n + 8 * k) % 8 = 0 := by omega
            rw [dq, dm] at z
            obtain ⟨r1, r2⟩ := f3.1 (n + k) (by omega)
            have p8 : 2 ^ (8 - 0) = 256 := rfl
            rw [p8] at z
            rw [c]
            exact i_eq.mpr (by rw [k0]; omega)
          · exact f3.2.2 j (by rw [dq]; omega) hj2
      · rw [if_neg cl] at h1 h2
        cases h1
        cases h2
        exact T

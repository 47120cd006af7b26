-- one byte of what was written
theorem ba_L {fu A B m : Nat} {ma : Nat → Int32} {x1 : Int32} {s : S_Mo} {R : Int32 × S_Mo} (hx : x1.toInt = ((A + 4 : Nat) : Int)) (hA : A ≤ 3674) (hm : (Mo_madeMany s).toInt = (m : Int)) (h4 : m ≤ 29400) (hB : B ≤ 255) (hb : ∀ r, r < 8 → 8 * A + r < m → (ma (8 * A + r)).toInt = (((B / 2 ^ (7 - r)) % 2 : Nat) : Int)) (hz : ∀ r, r < 8 → m ≤ 8 * A + r → (B / 2 ^ (7 - r)) % 2 = 0) : ∀ (n r : Nat) (x2 x3 : Int32), x3.toInt = ((8 * A + r : Nat) : Int) → r ≤ 8 → x2.toInt = ((B / 2 ^ (8 - r) : Nat) : Int) → Mod_byteAt_L95 fu ma x1 s n x2 x3 = some R → R.1.toInt = (B : Int) ∧ R.2 = s
  | 0, r, x2, x3, _, _, _, h => by
    rw [Mod_byteAt_L95] at h
    cases h
  | n + 1, r, x2, x3, h3, hr, h2, h => by
    have k1 : (1 : Int32).toInt = 1 := by decide
    have k0 : (0 : Int32).toInt = 0 := by decide
    have k2 : (2 : Int32).toInt = 2 := by decide
    have k3 : (3 : Int32).toInt = 3 := by decide
    have k8 : (8 : Int32).toInt = 8 := by decide
    have s1 : (x1 - 3).toInt = (A : Int) + 1 := by
      rw [i_sub (a := x1) (b := 3) (by omega) (by omega), hx, k3]
      omega
    have s2 : (8 * (x1 - 3)).toInt = 8 * ((A : Int) + 1) := by
      rw [i_mull 8 (x1 - 3) 8 k8 (by rw [s1]; clear s1; omega) (by rw [s1]; clear s1; omega), s1]
    rw [Mod_byteAt_L95] at h
    by_cases c : r = 8
    · have c1 : 8 * (x1 - 3) ≤ x3 := by
        rw [i_le, s2]
        clear s1 s2
        omega
      rw [if_pos c1] at h
      cases h
      refine ⟨?_, rfl⟩
      rw [h2, c]
      show ((B / 1 : Nat) : Int) = _
      rw [Nat.div_one]
    · have c1 : ¬ 8 * (x1 - 3) ≤ x3 := by
        rw [i_le, s2]
        clear s1 s2
        omega
      rw [if_neg c1] at h
      clear c1 s1 s2
      have n3 : x3.toNatClampNeg = 8 * A + r := by
        have := i_nat (a := x3) (by omega)
        omega
      obtain ⟨p, hp⟩ : ∃ p : Nat, p = 7 - r := ⟨_, rfl⟩
      have e8 : 8 - r = p + 1 := by omega
      have dv : B / 2 ^ (p + 1) = B / 2 ^ p / 2 := by
        rw [Nat.pow_succ, Nat.div_div_eq_div_mul]
      obtain ⟨Y, hY⟩ : ∃ Y : Nat, Y = B / 2 ^ p := ⟨_, rfl⟩
      have Yb : Y ≤ 255 := by
        rw [hY]
        exact Nat.le_trans (Nat.div_le_self _ _) hB
      rw [e8, dv, ← hY] at h2
      have hb' := hb r (by omega)
      have hz' := hz r (by omega)
      rw [← hp, ← hY] at hb' hz'
      have x31 : (x3 + 1).toInt = ((8 * A + (r + 1) : Nat) : Int) := by
        rw [i_add (a := x3) (b := 1) (by omega) (by omega), h3, k1]
        omega
      have d2 : (2 * x2).toInt = 2 * ((Y / 2 : Nat) : Int) := by
        clear x31
        rw [i_mull 2 x2 2 k2 (by omega) (by omega), h2]
      have step : ∀ tb : Int32, tb.toInt = ((Y % 2 : Nat) : Int) → Mod_byteAt_j130 fu ma (fun v0 v1 => Mod_byteAt_L95 fu ma x1 s n v0 v1) x1 s x3 (2 * x2) tb = some R → R.1.toInt = (B : Int) ∧ R.2 = s := by
        intro tb htb g
        unfold Mod_byteAt_j130 at g
        have a2 : (2 * x2 + tb).toInt = ((Y : Nat) : Int) := by
          rw [i_add (a := 2 * x2) (b := tb) (by rw [d2, htb]; clear x31 d2; omega) (by rw [d2, htb]; clear x31 d2; omega), d2, htb]
          clear x31 d2
          omega
        refine ba_L hx hA hm h4 hB hb hz n (r + 1) (2 * x2 + tb) (x3 + 1) x31 (by clear x31 d2 a2; omega) ?_ g
        have e : 8 - (r + 1) = p := by clear x31 d2 a2; omega
        rw [a2, e, hY]
      have zero : Y % 2 = 0 → Mod_byteAt_j129 fu ma (fun v0 v1 => Mod_byteAt_L95 fu ma x1 s n v0 v1) x1 s x3 (2 * x2) = some R → R.1.toInt = (B : Int) ∧ R.2 = s := by
        intro z g
        unfold Mod_byteAt_j129 at g
        exact step 0 (by rw [k0, z]; rfl) g
      by_cases cm : Mo_madeMany s ≤ x3
      · rw [if_pos cm] at h
        rw [i_le] at cm
        exact zero (hz' (by clear x31 d2; omega)) h
      · rw [if_neg cm] at h
        rw [i_le] at cm
        have h := oe_gd h
        rw [n3] at h
        have hb2 := hb' (by clear x31 d2; omega)
        by_cases cz : ma (8 * A + r) = 0
        · rw [if_pos cz] at h
          rw [cz, k0] at hb2
          exact zero (by clear x31 d2; omega) h
        · rw [if_neg cz] at h
          rw [i_eq, k0] at cz
          exact step 1 (by rw [k1]; clear x31 d2; omega) h
theorem byteAt_both {fu : Nat} {X : S_X} {Wr : S_Wri} {wb : S_Bits} {ma : Nat → Int32} {a0 : Int32} {s : S_Mo} {q : Int32} {R : Int32 × S_Mo} (D : MdR wb s ma) (hx : X_byteAt X Wr wb a0 = some q) (h : Mod_byteAt fu ma a0 s = some R) : q = R.1 ∧ R.2 = Mo_set_thrown s 0 := by
  have k0 : (0 : Int32).toInt = 0 := by decide
  have k4 : (4 : Int32).toInt = 4 := by decide
  have k7 : (7 : Int32).toInt = 7 := by decide
  have k8 : (8 : Int32).toInt = 8 := by decide
  unfold Mod_byteAt o_lt at h
  dsimp only at h
  unfold X_byteAt at hx
  obtain ⟨S, hS⟩ : ∃ S : S_Mo, S = Mo_set_thrown s 0 := ⟨_, rfl⟩
  have w1 : Mo_written S = Mo_written s := by rw [hS]
  have w2 : Mo_madeMany S = Mo_madeMany s := by rw [hS]
  have w3 : Mo_madeKind S = Mo_madeKind s := by rw [hS]
  have w4 : Mo_madeSubsets S = Mo_madeSubsets s := by rw [hS]
  rw [← hS] at h
  rw [← hS]
  clear hS
  have bc : Bits_byteCount 3679 wb = some ((Bits_length wb + 7) / 8) := rfl
  rcases D with ⟨d1, d2⟩ | ⟨d1, m, e1, e2, e3, e4, e5, e6, e7, e8, e9, e10⟩
  · rw [w1, if_pos d1] at h
    cases h
    have a1 : (Bits_length wb + 7).toInt = 7 := by
      rw [i_add (a := Bits_length wb) (b := 7) (by omega) (by omega), d2, k7]
      rfl
    have a2 : ((Bits_length wb + 7) / 8).toInt = 0 := by
      rw [i_divk (Bits_length wb + 7) 8 8 k8 (by decide) (by rw [a1]; decide), a1]
      rfl
    by_cases c : a0 < 0
    · rw [if_pos c] at hx
      cases hx
      exact ⟨rfl, rfl⟩
    · have c1 : (Bits_length wb + 7) / 8 ≤ a0 := by
        rw [i_le, a2]
        rw [i_lt, k0] at c
        omega
      rw [if_neg c, bd_s bc, if_pos c1] at hx
      cases hx
      exact ⟨rfl, rfl⟩
  · have a1 : (Bits_length wb + 7).toInt = 39 + (m : Int) := by
      rw [i_add (a := Bits_length wb) (b := 7) (by omega) (by omega), e3, k7]
      omega
    have a2 : ((Bits_length wb + 7) / 8).toInt = (39 + (m : Int)) / 8 := by
      rw [i_divk (Bits_length wb + 7) 8 8 k8 (by decide) (by rw [a1]; clear a1; omega), a1]
    have b1 : (Mo_madeMany s + 7).toInt = (m : Int) + 7 := by
      clear a1 a2
      rw [i_add (a := Mo_madeMany s) (b := 7) (by omega) (by omega), e2, k7]
    have b2 : ((Mo_madeMany s + 7) / 8).toInt = ((m : Int) + 7) / 8 := by
      rw [i_divk (Mo_madeMany s + 7) 8 8 k8 (by decide) (by rw [b1]; clear a1 a2 b1; omega), b1]
    have b3 : (4 + (Mo_madeMany s + 7) / 8).toInt = 4 + ((m : Int) + 7) / 8 := by
      rw [i_add (a := 4) (b := (Mo_madeMany s + 7) / 8) (by rw [b2, k4]; clear a1 a2 b1 b2; omega) (by rw [b2, k4]; clear a1 a2 b1 b2; omega), b2, k4]
    rw [w1, if_neg d1, w2, w3, w4] at h
    by_cases c : a0 < 0
    · rw [if_pos c] at hx h
      cases hx
      cases h
      exact ⟨rfl, rfl⟩
    · rw [if_neg c] at hx h
      rw [bd_s bc] at hx
      rw [i_lt, k0] at c
      by_cases cb : a0.toInt < 4 + ((m : Int) + 7) / 8
      · have c1 : ¬ (Bits_length wb + 7) / 8 ≤ a0 := by
          rw [i_le, a2]
          clear a1 a2 b1 b2 b3
          omega
        have c2 : a0 < 4 + (Mo_madeMany s + 7) / 8 := by
          rw [i_lt, b3]
          exact cb
        rw [if_neg c1] at hx
        have hx := oe_gd hx
        rw [if_pos c2] at h
        clear a1 a2 b1 b2 b3 c1 c2
        have hq := Option.some.inj hx
        obtain ⟨A, hA⟩ : ∃ A : Nat, a0.toInt = (A : Int) := ⟨a0.toInt.toNat, by omega⟩
        have na : a0.toNatClampNeg = A := by
          have := i_nat (a := a0) (by omega)
          omega
        rw [na] at hq
        by_cases c4 : 4 ≤ a0
        · rw [if_pos c4] at h
          rw [i_le, k4] at c4
          obtain ⟨A4, h4⟩ : ∃ A4 : Nat, A = A4 + 4 := ⟨A - 4, by omega⟩
          have s1 : (a0 - 4).toInt = (A4 : Int) := by
            rw [i_sub (a := a0) (b := 4) (by omega) (by omega), k4]
            omega
          have s2 : (8 * (a0 - 4)).toInt = ((8 * A4 + 0 : Nat) : Int) := by
            rw [i_mull 8 (a0 - 4) 8 k8 (by rw [s1]; clear s1; omega) (by rw [s1]; clear s1; omega), s1]
            omega
          have rb := e4 A (by clear s1 s2; omega)
          have bvr : ∀ r, r < 8 → Bv (Bits_bytes wb) (32 + (8 * A4 + r)) = ((Bits_bytes wb A).toInt.toNat / 2 ^ (7 - r)) % 2 := by
            intro r hr
            unfold Bv
            have x1 : (32 + (8 * A4 + r)) / 8 = A := by clear s1 s2; omega
            have x2 : (32 + (8 * A4 + r)) % 8 = r := by clear s1 s2; omega
            rw [x1, x2]
          obtain ⟨g1, g2⟩ := ba_L (A := A4) (B := (Bits_bytes wb A).toInt.toNat) (m := m) (by rw [hA, h4]) (by clear s1 s2; omega) (by rw [w2]; exact e2) e1 (by clear s1 s2; omega) (fun r hr hl => by rw [e9 _ hl, bvr r hr]) (fun r hr hl => by rw [← bvr r hr]; exact e10 _ hl (by clear s1 s2; omega)) fu 0 0 (8 * (a0 - 4)) s2 (by decide) (by
            rw [k0]
            have y : (Bits_bytes wb A).toInt.toNat / 2 ^ (8 - 0) = 0 := Nat.div_eq_of_lt (by show _ < 256; clear s1 s2; omega)
            rw [y]
            rfl) h
          refine ⟨?_, g2⟩
          rw [← hq]
          exact i_eq.mpr (by clear s1 s2; omega)
        · rw [if_neg c4] at h
          rw [i_le, k4] at c4
          by_cases z0 : a0 = 0
          · rw [if_pos z0] at h
            cases h
            have za : A = 0 := by
              rw [z0, k0] at hA
              omega
            rw [za] at hq
            exact ⟨hq.symm.trans e5, rfl⟩
          · rw [if_neg z0] at h
            by_cases z1 : a0 = 1
            · rw [if_pos z1] at h
              cases h
              have za : A = 1 := by
                rw [z1] at hA
                have k1 : (1 : Int32).toInt = 1 := by decide
                omega
              rw [za] at hq
              exact ⟨hq.symm.trans e6, rfl⟩
            · rw [if_neg z1] at h
              have k1 : (1 : Int32).toInt = 1 := by decide
              have k2 : (2 : Int32).toInt = 2 := by decide
              rw [i_eq, k0] at z0
              rw [i_eq, k1] at z1
              by_cases z2 : a0 = 2
              · rw [if_pos z2] at h
                cases h
                have za : A = 2 := by
                  rw [z2, k2] at hA
                  omega
                rw [za] at hq
                refine ⟨?_, rfl⟩
                rw [← hq]
                apply i_eq.mpr
                show (Bits_bytes wb 2).toInt = (Mo_madeMany s >>> (8 &&& 31)).toInt
                rw [e7, shI (e := 8) (k := 8) (Mo_madeMany s) (by decide) (by decide), e2]
                show _ = (m : Int) / 256
                omega
              · rw [if_neg z2] at h
                cases h
                rw [i_eq, k2] at z2
                have za : A = 3 := by omega
                rw [za] at hq
                refine ⟨?_, rfl⟩
                rw [← hq]
                apply i_eq.mpr
                show (Bits_bytes wb 3).toInt = (Mo_madeMany s &&& 255).toInt
                rw [e8, and255 (Mo_madeMany s), e2]
                omega
      · have c1 : (Bits_length wb + 7) / 8 ≤ a0 := by
          rw [i_le, a2]
          clear a1 a2 b1 b2 b3
          omega
        have c2 : ¬ a0 < 4 + (Mo_madeMany s + 7) / 8 := by
          rw [i_lt, b3]
          exact cb
        rw [if_pos c1] at hx
        rw [if_neg c2] at h
        cases hx
        cases h
        exact ⟨rfl, rfl⟩

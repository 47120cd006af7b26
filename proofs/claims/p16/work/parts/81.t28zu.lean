-- the tape, and opening it
def TpR (tp : S_Bits) (tape : Nat → Int32) (n : Int32) : Prop := (Bits_length tp).toInt = 8 * n.toInt ∧ 0 ≤ n.toInt ∧ n.toInt ≤ 1000 ∧ (∀ j : Nat, (j : Int) < n.toInt → Bits_bytes tp j = tape j) ∧ ∀ j : Nat, n.toInt ≤ (j : Int) → j < 1000 → Bits_bytes tp j = 0
def bt (f : Nat → Int32) (k : Nat) : Int32 := (f (4 + k / 8) >>> ((7 - Int32.ofNat (k % 8)) &&& 31)) &&& 1
theorem bt_01 (f : Nat → Int32) (k : Nat) : bt f k = 0 ∨ bt f k = 1 := by
  have k1 : (1 : Int32).toInt = 1 := by decide
  have k0 : (0 : Int32).toInt = 0 := by decide
  have h := i_andm (f (4 + k / 8) >>> ((7 - Int32.ofNat (k % 8)) &&& 31)) 1 (by decide)
  unfold bt
  rw [k1] at h
  by_cases c : ((f (4 + k / 8) >>> ((7 - Int32.ofNat (k % 8)) &&& 31)) &&& 1).toInt = 0
  · exact Or.inl (i_eq.mpr (by rw [c, k0]))
  · exact Or.inr (i_eq.mpr (by rw [k1]; omega))
theorem div8 {x : Int32} {k : Nat} (hx : x.toInt = (k : Int)) : (x / 8).toInt = ((k / 8 : Nat) : Int) ∧ x - x / 8 * 8 = Int32.ofNat (k % 8) := by
  have k8 : (8 : Int32).toInt = 8 := by decide
  have r2 := i_r2 x
  have e1 : (x / 8).toInt = ((k / 8 : Nat) : Int) := by
    rw [i_div8 (by omega), hx]
    omega
  refine ⟨e1, i_eq.mpr ?_⟩
  have e2 : (x / 8 * 8).toInt = ((k / 8 : Nat) : Int) * 8 := by
    rw [i_mulr (x / 8) 8 8 k8 (by rw [e1]; clear e1; omega) (by rw [e1]; clear e1; omega), e1]
  rw [i_sub (a := x) (b := x / 8 * 8) (by rw [e2, hx]; clear e1 e2; omega) (by rw [e2, hx]; clear e1 e2; omega), e2, hx, i_of (by omega)]
  clear e1 e2
  omega
theorem bit_c {tp : S_Bits} {x : Int32} {k : Nat} (hx : x.toInt = 32 + (k : Int)) (hl : 32 + (k : Int) < (Bits_length tp).toInt) (h8 : (Bits_length tp).toInt ≤ 8000) : Bits_bitAt 1000 tp x = some (bt (Bits_bytes tp) k) := by
  have k0 : (0 : Int32).toInt = 0 := by decide
  obtain ⟨e1, e2⟩ := div8 (x := x) (k := 32 + k) (by omega)
  have c1 : ¬ x < 0 := by rw [i_lt]; omega
  have c2 : ¬ Bits_length tp ≤ x := by rw [i_le]; omega
  have g : o_in (x / 8) 1000 = true := i_in.mpr (by rw [e1]; clear e1; omega)
  have n : (x / 8).toNatClampNeg = 4 + k / 8 := by
    have := i_nat (a := x / 8) (by rw [e1]; clear e1; omega)
    rw [e1] at this
    clear e1
    omega
  have em : (32 + k) % 8 = k % 8 := by omega
  unfold Bits_bitAt
  rw [if_neg c1, if_neg c2, gd_t g, n, e2, em]
  rfl
-- the reference's bits
theorem unp_L {fu m T : Nat} {tape : Nat → Int32} {x1 : Int32} {s : S_Mo} (hT : (8 * (x1 - 4)).toInt = (T : Int)) (hT2 : T ≤ 8000) (hm : (Mo_many s).toInt = (m : Int)) (hm2 : m ≤ 40000) : ∀ (n k : Nat) (gd x : Int32) (bi : Nat → Int32) (r : Int32 × S_Mo × (Nat → Int32)), x.toInt = (k : Int) → k ≤ T → (gd = 0 ∨ gd = 1) → (∀ j, j < k → j < m → bi j = bt tape j) → (gd = 1 ↔ ∀ j, m ≤ j → j < k → bt tape j = 0) → Mod_unpack_L93 fu tape x1 s n gd x bi = some r → (r.1 = 0 ∨ r.1 = 1) ∧ r.2.1 = s ∧ (∀ j, j < T → j < m → r.2.2 j = bt tape j) ∧ (r.1 = 1 ↔ ∀ j, m ≤ j → j < T → bt tape j = 0)
  | 0, k, gd, x, bi, r, hx, hk, hg, hb, hgd, h => by
    rw [Mod_unpack_L93] at h
    cases h
  | n + 1, k, gd, x, bi, r, hx, hk, hg, hb, hgd, h => by
    have k1 : (1 : Int32).toInt = 1 := by decide
    have k4 : (4 : Int32).toInt = 4 := by decide
    rw [Mod_unpack_L93] at h
    by_cases c : k = T
    · have c1 : 8 * (x1 - 4) ≤ x := by rw [i_le, hT, hx, c]; exact Int.le_refl _
      rw [if_pos c1] at h
      have h := oe_gd h
      cases h
      rw [c] at hb hgd
      exact ⟨hg, rfl, hb, hgd⟩
    · have c1 : ¬ 8 * (x1 - 4) ≤ x := by rw [i_le, hT, hx]; clear hT; omega
      rw [if_neg c1] at h
      have h := oe_gd h
      obtain ⟨e1, e2⟩ := div8 hx
      have e4 : (4 + x / 8).toInt = 4 + ((k / 8 : Nat) : Int) := by
        clear hT
        rw [i_add (a := 4) (b := x / 8) (by rw [k4, e1]; clear e1; omega) (by rw [k4, e1]; clear e1; omega), k4, e1]
      have n4 : (4 + x / 8).toNatClampNeg = 4 + k / 8 := by
        clear hT
        have := i_nat (a := 4 + x / 8) (by rw [e4]; clear e1 e4; omega)
        rw [e4] at this
        clear e1 e4
        omega
      rw [e2, n4] at h
      have hbt : (tape (4 + k / 8) >>> ((7 - Int32.ofNat (k % 8)) &&& 31)) &&& 1 = bt tape k := rfl
      rw [hbt] at h
      have X1 : (x + 1).toInt = ((k + 1 : Nat) : Int) := by
        clear hT e1 e4
        rw [i_add (a := x) (b := 1) (by omega) (by omega), hx, k1]
        rfl
      have n10 : ¬ (1 : Int32) = 0 := by decide
      have n01 : ¬ (0 : Int32) = 1 := by decide
      have j133 : ∀ t0 : Int32, (t0 = 0 ∨ t0 = 1) → t0 = bt tape k → Mod_unpack_j133 fu tape (fun v0 v1 v2 => Mod_unpack_L93 fu tape x1 s n v0 v1 v2) x1 s gd x t0 bi = some r → (r.1 = 0 ∨ r.1 = 1) ∧ r.2.1 = s ∧ (∀ j, j < T → j < m → r.2.2 j = bt tape j) ∧ (r.1 = 1 ↔ ∀ j, m ≤ j → j < T → bt tape j = 0) := by
        intro t0 ht0 het g
        unfold Mod_unpack_j133 at g
        by_cases cm : Mo_many s ≤ x
        · rw [if_pos cm] at g
          rw [i_le, hm, hx] at cm
          have hb' : ∀ j, j < k + 1 → j < m → bi j = bt tape j := fun j h1 h2 => hb j (by clear X1 e1 e4 hT; omega) h2
          by_cases cg : gd = 0
          · rw [if_pos cg] at g
            unfold Mod_unpack_j167 Mod_unpack_j168 Mod_unpack_j169 at g
            refine unp_L hT hT2 hm hm2 n (k + 1) 0 (x + 1) bi r X1 (by clear X1 e1 e4 hT; omega) (Or.inl rfl) hb' ⟨fun e => absurd e n01, fun a => ?_⟩ g
            have a' : gd = 1 := hgd.2 (fun j h1 h2 => a j h1 (by clear X1 e1 e4 hT; omega))
            rw [cg] at a'
            exact absurd a' n01
          · have cg1 : gd = 1 := by
              rcases hg with y | y
              · exact absurd y cg
              · exact y
            rw [if_neg cg] at g
            by_cases ct : t0 = 0
            · rw [if_pos ct] at g
              unfold Mod_unpack_j168 Mod_unpack_j169 at g
              refine unp_L hT hT2 hm hm2 n (k + 1) 1 (x + 1) bi r X1 (by clear X1 e1 e4 hT; omega) (Or.inr rfl) hb' ⟨fun _ j h1 h2 => ?_, fun _ => rfl⟩ g
              by_cases cj : j = k
              · rw [cj, ← het]
                exact ct
              · exact hgd.1 cg1 j h1 (by clear X1 e1 e4 hT; omega)
            · rw [if_neg ct] at g
              unfold Mod_unpack_j167 Mod_unpack_j168 Mod_unpack_j169 at g
              refine unp_L hT hT2 hm hm2 n (k + 1) 0 (x + 1) bi r X1 (by clear X1 e1 e4 hT; omega) (Or.inl rfl) hb' ⟨fun e => absurd e n01, fun a => ?_⟩ g
              have a' := a k (by clear X1 e1 e4 hT; omega) (by clear X1 e1 e4 hT; omega)
              rw [← het] at a'
              exact absurd a' ct
        · rw [if_neg cm] at g
          rw [i_le, hm, hx] at cm
          have g := oe_gd g
          unfold o_lt Mod_unpack_j169 at g
          have nx : x.toNatClampNeg = k := by
            clear X1 e1 e4 hT
            have := i_nat (a := x) (by omega)
            omega
          have en : vp_nar .boolean t0 = t0 := by
            rcases ht0 with y | y <;> rw [y] <;> decide
          rw [nx, en] at g
          refine unp_L hT hT2 hm hm2 n (k + 1) gd (x + 1) _ r X1 (by clear X1 e1 e4 hT; omega) hg (fun j h1 h2 => ?_) ⟨fun e j h1 h2 => hgd.1 e j h1 (by clear X1 e1 e4 hT; omega), fun a => hgd.2 (fun j h1 h2 => a j h1 (by clear X1 e1 e4 hT; omega))⟩ g
          by_cases cj : j = k
          · rw [cj, upd_at, het]
          · rw [upd_ne cj]
            exact hb j (by clear X1 e1 e4 hT; omega) h2
      by_cases cb : bt tape k = 1
      · rw [if_pos cb] at h
        exact j133 1 (Or.inr rfl) cb.symm h
      · rw [if_neg cb] at h
        refine j133 0 (Or.inl rfl) ?_ h
        rcases bt_01 tape k with y | y
        · exact y.symm
        · exact absurd y cb
-- the class's number of the bits behind the end
theorem numz_L {fu : Nat} {tp : S_Bits} {a0 w : Int32} (h8 : (Bits_length tp).toInt ≤ 8000) : ∀ (j n p b : Nat) (v : Int64) (y : Int32), y.toInt = 32 + (p : Int) → (a0 + w).toInt = 32 + (p : Int) + (j : Int) → 32 + (p : Int) + (j : Int) ≤ (Bits_length tp).toInt → j < n → b + j ≤ 7 → 0 ≤ v.toInt → v.toInt < 2 ^ b → ∃ u : Int64, Bits_numberAt_L5 fu 1000 tp a0 w n v y = some u ∧ (u = 0 ↔ (v = 0 ∧ ∀ q, p ≤ q → q < p + j → bt (Bits_bytes tp) q = 0))
  | j, 0, p, b, v, y, hy, ha, hl, hn, hb, h0, h1 => absurd hn (by omega)
  | 0, n + 1, p, b, v, y, hy, ha, hl, hn, hb, h0, h1 => by
    have c : a0 + w ≤ y := by rw [i_le, ha, hy]; clear ha; omega
    refine ⟨v, ?_, ⟨fun e => ⟨e, fun q h2 h3 => ?_⟩, fun e => e.1⟩⟩
    · rw [Bits_numberAt_L5, if_pos c]
    · clear ha
      omega
  | j + 1, n + 1, p, b, v, y, hy, ha, hl, hn, hb, h0, h1 => by
    have k1 : (1 : Int32).toInt = 1 := by decide
    have k0 : (0 : Int32).toInt = 0 := by decide
    have z0 : (0 : Int64).toInt = 0 := by decide
    have c : ¬ a0 + w ≤ y := by rw [i_le, ha, hy]; clear ha; omega
    have eb := bit_c (tp := tp) (k := p) hy (by clear ha; omega) h8
    have Y1 : (y + 1).toInt = 32 + ((p + 1 : Nat) : Int) := by
      clear ha
      rw [i_add (a := y) (b := 1) (by omega) (by omega), hy, k1]
      omega
    have hp2 : (2 : Int) ^ b ≤ 64 := by
      have hb6 : b ≤ 6 := by clear ha Y1; omega
      have : b = 0 ∨ b = 1 ∨ b = 2 ∨ b = 3 ∨ b = 4 ∨ b = 5 ∨ b = 6 := by clear ha Y1; omega
      rcases this with e | e | e | e | e | e | e <;> rw [e] <;> decide
    have bb : 0 ≤ (bt (Bits_bytes tp) p).toInt ∧ (bt (Bits_bytes tp) p).toInt ≤ 1 := by
      rcases bt_01 (Bits_bytes tp) p with e | e <;> rw [e] <;> decide
    obtain ⟨B, hB⟩ : ∃ B, B = bt (Bits_bytes tp) p := ⟨_, rfl⟩
    rw [← hB] at eb bb
    have eo : ((v <<< ((1 : Int32).toInt64 &&& 63)) ||| B.toInt64).toInt = 2 * v.toInt + B.toInt := by
      rcases i64_or v B with e | e | e | e | e
      · clear ha Y1
        omega
      · clear ha Y1
        omega
      · clear ha Y1
        omega
      · clear ha Y1
        omega
      · exact e
    obtain ⟨V, hV⟩ : ∃ V, V = (v <<< ((1 : Int32).toInt64 &&& 63)) ||| B.toInt64 := ⟨_, rfl⟩
    rw [← hV] at eo
    have p2 : (2 : Int) ^ (b + 1) = 2 ^ b * 2 := Int.pow_succ 2 b
    obtain ⟨u, g1, g2⟩ := numz_L (fu := fu) h8 j n (p + 1) (b + 1) V (y + 1) Y1 (by rw [ha]; clear ha Y1; omega) (by clear ha Y1; omega) (by clear ha Y1; omega) (by clear ha Y1; omega) (by rw [eo]; clear ha Y1; omega) (by rw [eo, p2]; clear ha Y1; omega)
    refine ⟨u, ?_, ⟨fun e => ?_, fun e => ?_⟩⟩
    · rw [Bits_numberAt_L5, if_neg c, bd_s eb]
      unfold o_lt
      dsimp only
      rw [← hV]
      exact g1
    · obtain ⟨e1, e2⟩ := g2.1 e
      have e1' := e1
      rw [i64_eq, eo, z0] at e1'
      have v0 : v.toInt = 0 ∧ B.toInt = 0 := by
        clear ha Y1
        omega
      refine ⟨i64_eq.mpr (by rw [v0.1, z0]), fun q h2 h3 => ?_⟩
      by_cases cq : q = p
      · rw [cq, ← hB]
        exact i_eq.mpr (by rw [v0.2, k0])
      · exact e2 q (by clear ha Y1; omega) (by clear ha Y1; omega)
    · obtain ⟨e1, e2⟩ := e
      have hB0 := e2 p (Nat.le_refl _) (by clear ha Y1; omega)
      rw [← hB] at hB0
      refine g2.2 ⟨i64_eq.mpr ?_, fun q h2 h3 => e2 q (by clear ha Y1; omega) (by clear ha Y1; omega)⟩
      rw [eo, e1, hB0, z0, k0]
      rfl

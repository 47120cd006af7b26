-- reading PACKED: the reference's loop over the subsets
theorem take_Lf {fu : Nat} {bi : Nat → Int32} {w : Int32} : ∀ (n : Nat) (v : Int64) (x : Int32) (s : S_Mo) (q : Int64 × S_Mo), Mod_take_L27 fu bi w n v x s = some q → Mo_fault q.2 = Mo_fault s
  | 0, v, x, s, q, h => by
    rw [Mod_take_L27] at h
    cases h
  | n + 1, v, x, s, q, h => by
    rw [Mod_take_L27] at h
    by_cases c : w ≤ x
    · rw [if_pos c] at h
      cases h
      rfl
    · rw [if_neg c] at h
      have h := oe_gd h
      unfold Mod_take_j55 o_lt at h
      dsimp only at h
      by_cases c2 : bi (Mo_at s).toNatClampNeg = 0
      · rw [if_pos c2] at h
        exact take_Lf n _ _ (Mo_set_at s (Mo_at s + 1)) q h
      · rw [if_neg c2] at h
        exact take_Lf n _ _ (Mo_set_at s (Mo_at s + 1)) q h
theorem take_keep {fu : Nat} {bi : Nat → Int32} {w f : Int32} {s : S_Mo} {q : Int64 × S_Mo} (hz : ¬ Mo_fault s = 0) (h : Mod_take fu bi w f s = some q) : ¬ Mo_fault q.2 = 0 := by
  unfold Mod_take at h
  by_cases c : Mo_at s + w ≤ Mo_many s
  · rw [if_pos c] at h
    rw [take_Lf _ _ _ _ q h]
    exact hz
  · rw [if_neg c] at h
    obtain ⟨s5, e5, h⟩ := oi_bd h
    have x5 := wrong_x (by decide) e5
    cases h
    exact x5.1
theorem ta_f {fu n : Nat} {ki wd : Nat → Int32} {ba : Nat → Int64} {bi : Nat → Int32} {x1 x4 x6 : Int32} {x2 : Int64} {s : S_Mo} {rd : Nat → Int64} {r : S_Mo × (Nat → Int64)} (hz : ¬ Mo_fault s = 0) (h : Mod_takeAll_L107 fu ki wd ba bi x1 x2 x4 n x6 s rd = some r) : r = (s, rd) := by
  cases n with
  | zero =>
    rw [Mod_takeAll_L107] at h
    cases h
  | succ n =>
    rw [Mod_takeAll_L107] at h
    by_cases c : Mo_subsets s ≤ x6
    · rw [if_pos c] at h
      exact (Option.some.inj h).symm
    · rw [if_neg c, if_neg hz] at h
      exact (Option.some.inj h).symm
theorem j139_x {fu i kk : Nat} {ki wd : Nat → Int32} {ba : Nat → Int64} {bi : Nat → Int32} {kc : Int32 → S_Mo → (Nat → Int64) → Option (S_Mo × (Nat → Int64))} {x1 x4 x6 : Int32} {x2 d : Int64} {s : S_Mo} {rd : Nat → Int64} {r : S_Mo × (Nat → Int64)} (h4 : 0 < x4.toInt) (h1 : x1.toInt = (i : Int)) (hi : i < 100) (h6 : x6.toInt = (kk : Int)) (hk : kk < 8) (h : Mod_takeAll_j139 fu ki wd ba bi kc x1 x2 x4 x6 d s rd = some r) : ∃ (s' : S_Mo) (rd' : Nat → Int64), kc (x6 + 1) s' rd' = some r ∧ ((¬ Mo_fault s = 0 ∧ s' = s) ∨ (Mo_fault s = 0 ∧ Mod_most x4 = some d ∧ s' = s ∧ rd' = vp_updL rd (100 * kk + i) (-9000000000000000000)) ∨ (Mo_fault s = 0 ∧ ¬ Mod_most x4 = some d ∧ (∀ m, Mod_most (wd i) = some m → ¬ x2 + d ≤ m - 1) ∧ ¬ Mo_fault s' = 0) ∨ (Mo_fault s = 0 ∧ ¬ Mod_most x4 = some d ∧ (∃ m, Mod_most (wd i) = some m ∧ x2 + d ≤ m - 1) ∧ s' = s ∧ ∃ u, Mod_meant s ki wd ba x1 (x2 + d) = some u ∧ rd' = vp_updL rd (100 * kk + i) u)) := by
  have k0 : (0 : Int32).toInt = 0 := by decide
  have n4 : ¬ x4 ≤ 0 := by rw [i_le]; omega
  have n10 : ¬ (1 : Int32) = 0 := by decide
  have ix := (idx_k h6 hk h1 hi).1
  have n1 : x1.toNatClampNeg = i := by
    have := i_nat (a := x1) (by omega)
    omega
  have e4 : Mod_most x4 = some ((1 <<< (x4.toInt64 &&& 63)) - 1) := rfl
  have j238 : ∀ (u : Int64) (s0 : S_Mo), Mod_takeAll_j238 fu ki wd ba bi kc x1 x2 x4 x6 ((100 * x6) + x1) u s0 rd = some r → kc (x6 + 1) s0 (vp_updL rd (100 * kk + i) u) = some r := by
    intro u s0 g
    unfold Mod_takeAll_j238 o_lt at g
    have g := oe_gd g
    rw [ix] at g
    exact g
  unfold Mod_takeAll_j139 at h
  rw [if_neg n4, bd_s e4] at h
  by_cases c : d = (1 <<< (x4.toInt64 &&& 63)) - 1
  · rw [if_pos c] at h
    unfold Mod_takeAll_j162 at h
    rw [if_neg n4, if_neg n10] at h
    unfold Mod_takeAll_j207 at h
    rw [if_neg n10] at h
    have g := j238 _ _ h
    by_cases cz : Mo_fault s = 0
    · exact ⟨s, _, g, Or.inr (Or.inl ⟨cz, by rw [e4, c], rfl, rfl⟩)⟩
    · exact ⟨s, _, g, Or.inl ⟨cz, rfl⟩⟩
  · rw [if_neg c] at h
    have ne : ¬ Mod_most x4 = some d := fun e => c (Option.some.inj (e.symm.trans e4))
    unfold Mod_takeAll_j161 Mod_takeAll_j162 at h
    rw [if_neg n4, if_pos rfl] at h
    have j207 : ∀ s0 : S_Mo, Mod_takeAll_j207 fu ki wd ba bi kc x1 x2 x4 x6 d 0 s0 rd = some r → ∃ u, Mod_meant s0 ki wd ba x1 (x2 + d) = some u ∧ kc (x6 + 1) s0 (vp_updL rd (100 * kk + i) u) = some r := by
      intro s0 g
      unfold Mod_takeAll_j207 at g
      rw [if_pos rfl] at g
      obtain ⟨u, eu, g⟩ := oi_bd g
      exact ⟨u, eu, j238 _ _ g⟩
    by_cases cz : Mo_fault s = 0
    · rw [if_pos cz] at h
      have h := oe_gd h
      rw [n1] at h
      have em : Mod_most (wd i) = some ((1 <<< ((wd i).toInt64 &&& 63)) - 1) := rfl
      rw [bd_s em] at h
      by_cases cm : x2 + d ≤ (1 <<< ((wd i).toInt64 &&& 63)) - 1 - 1
      · rw [if_pos cm] at h
        obtain ⟨u, eu, g⟩ := j207 _ h
        exact ⟨s, _, g, Or.inr (Or.inr (Or.inr ⟨cz, ne, ⟨_, em, cm⟩, rfl, u, eu, rfl⟩))⟩
      · rw [if_neg cm] at h
        obtain ⟨s7, e7, h⟩ := oi_bd h
        obtain ⟨u, eu, g⟩ := j207 _ h
        have x7 := wrong_x (by decide) e7
        exact ⟨s7, _, g, Or.inr (Or.inr (Or.inl ⟨cz, ne, fun m em' => by rw [em] at em'; cases em'; exact cm, x7.1⟩))⟩
    · rw [if_neg cz] at h
      obtain ⟨u, eu, g⟩ := j207 _ h
      exact ⟨s, _, g, Or.inl ⟨cz, rfl⟩⟩
-- too few bits for all subsets
theorem dif_short {fu i : Nat} {ki wd : Nat → Int32} {ba : Nat → Int64} {bi : Nat → Int32} {tp : S_Bits} {Re0 : S_Rea} {x1 x4 : Int32} {x2 : Int64} {sub : Nat} {r : S_Mo × (Nat → Int64)} (hf : 12000 ≤ fu) (h4 : 0 < x4.toInt) (h33 : x4.toInt ≤ 33) (h1 : x1.toInt = (i : Int)) (hi : i < 100) (h8 : sub ≤ 8) : ∀ (n kk p : Nat) (y : Int32) (s : S_Mo) (rd : Nat → Int64), y.toInt = (kk : Int) → kk ≤ sub → Mo_fault s = 0 → (Mo_subsets s).toInt = (sub : Int) → (Mo_at s).toInt = (p : Int) → (p : Int) ≤ (Mo_many s).toInt → (Mo_many s).toInt ≤ 40000 → BiR tp bi (Mo_many s).toInt → ¬ (p : Int) + x4.toInt * ((sub : Int) - (kk : Int)) ≤ (Mo_many s).toInt → Mod_takeAll_L107 fu ki wd ba bi x1 x2 x4 n y s rd = some r → ¬ Mo_fault r.1 = 0
  | 0, kk, p, y, s, rd, hy, hk, hz, hs, ha, ham, hM, B, hN, h => by
    rw [Mod_takeAll_L107] at h
    cases h
  | n + 1, kk, p, y, s, rd, hy, hk, hz, hs, ha, ham, hM, B, hN, h => by
    have k0 : (0 : Int32).toInt = 0 := by decide
    have k1 : (1 : Int32).toInt = 1 := by decide
    have n4 : ¬ x4 = 0 := by rw [i_eq]; omega
    by_cases ck : kk = sub
    · exfalso
      apply hN
      rw [ck, Int.sub_self, Int.mul_zero]
      omega
    · have c1 : ¬ Mo_subsets s ≤ y := by rw [i_le]; omega
      have eN : x4.toInt * ((sub : Int) - (kk : Int)) = x4.toInt + x4.toInt * ((sub : Int) - ((kk + 1 : Nat) : Int)) := by
        have e : (sub : Int) - (kk : Int) = ((sub : Int) - ((kk + 1 : Nat) : Int)) + 1 := by omega
        rw [e, Int.mul_add, Int.mul_one, Int.add_comm]
      rw [Mod_takeAll_L107, if_neg c1, if_pos hz, if_neg n4] at h
      obtain ⟨⟨d, s1⟩, e1, h⟩ := oi_bd h
      dsimp only at h
      obtain ⟨s', rd', g, hc⟩ := j139_x h4 h1 hi hy (by omega) h
      by_cases cw : (p : Int) + x4.toInt ≤ (Mo_many s).toInt
      · obtain ⟨v0, z, t1, t2, _, _⟩ := take_both (f := x1) (tp := tp) (Re := Rea_set_at Re0 (Int32.ofNat (32 + p))) hf hM B ha (by
          show (Int32.ofNat (32 + p)).toInt = _
          rw [i_of (by omega)]
          omega) ⟨by omega, by omega⟩ cw
        rw [t1] at e1
        cases e1
        have y1 : (y + 1).toInt = ((kk + 1 : Nat) : Int) := by
          rw [i_add (a := y) (b := 1) (by omega) (by omega), hy, k1]
          rfl
        have rcx : ∀ rd0 : Nat → Int64, Mod_takeAll_L107 fu ki wd ba bi x1 x2 x4 n (y + 1) (Mo_set_at s z) rd0 = some r → ¬ Mo_fault r.1 = 0 := by
          intro rd0 g0
          obtain ⟨p', hp'⟩ : ∃ p' : Nat, z.toInt = (p' : Int) := ⟨z.toInt.toNat, by clear y1; omega⟩
          exact dif_short (Re0 := Re0) (tp := tp) hf h4 h33 h1 hi h8 n (kk + 1) p' (y + 1) (Mo_set_at s z) rd0 y1 (by clear y1; omega) hz hs hp' (by show (p' : Int) ≤ (Mo_many s).toInt; clear y1; omega) hM B (by
            show ¬ (p' : Int) + x4.toInt * ((sub : Int) - ((kk + 1 : Nat) : Int)) ≤ (Mo_many s).toInt
            rw [eN] at hN
            clear y1
            omega) g0
        rcases hc with ⟨q1, q2⟩ | ⟨q1, q2, q3, q4⟩ | ⟨q1, q2, q3, q4⟩ | ⟨q1, q2, q3, q4, _⟩
        · exact absurd hz q1
        · rw [q3] at g
          exact rcx _ g
        · rw [ta_f q4 g]
          exact q4
        · rw [q4] at g
          exact rcx _ g
      · have sh := take_short ha hM (by omega) ⟨by omega, by omega⟩ cw e1
        rcases hc with ⟨q1, q2⟩ | ⟨q1, _⟩ | ⟨q1, _⟩ | ⟨q1, _⟩
        · have q1' : ¬ Mo_fault s' = 0 := by rw [q2]; exact q1
          rw [ta_f q1' g]
          exact q1'
        · exact absurd q1 sh.1
        · exact absurd q1 sh.1
        · exact absurd q1 sh.1
theorem most_k : ∀ k : Fin 33, 0 ≤ (((1 : Int64) <<< ((Int32.ofNat k.val).toInt64 &&& 63)) - 1).toInt ∧ (((1 : Int64) <<< ((Int32.ofNat k.val).toInt64 &&& 63)) - 1 - 1).toInt = (((1 : Int64) <<< ((Int32.ofNat k.val).toInt64 &&& 63)) - 1).toInt - 1 := by decide +kernel
theorem lt_most {w : Int32} (h0 : 0 ≤ w.toInt) (h1 : w.toInt ≤ 32) (a : Int64) : (a < ((1 : Int64) <<< (w.toInt64 &&& 63)) - 1 ↔ a ≤ ((1 : Int64) <<< (w.toInt64 &&& 63)) - 1 - 1) ∧ ¬ ((1 : Int64) <<< (w.toInt64 &&& 63)) - 1 ≤ ((1 : Int64) <<< (w.toInt64 &&& 63)) - 1 - 1 := by
  obtain ⟨k, hk⟩ : ∃ k : Nat, w.toInt = (k : Int) := ⟨w.toInt.toNat, by omega⟩
  have e : w = Int32.ofNat k := i_eq.mpr (by rw [hk, i_of (by omega)])
  have m := most_k ⟨k, by omega⟩
  have m : 0 ≤ (((1 : Int64) <<< ((Int32.ofNat k).toInt64 &&& 63)) - 1).toInt ∧ (((1 : Int64) <<< ((Int32.ofNat k).toInt64 &&& 63)) - 1 - 1).toInt = (((1 : Int64) <<< ((Int32.ofNat k).toInt64 &&& 63)) - 1).toInt - 1 := m
  rw [e]
  rw [i64_lt, i64_le, i64_le, m.2]
  exact ⟨by omega, by omega⟩

-- common rows
theorem So.bdq {α β : Type} {x : Option α} {f : α → Option β} {Q : α → Prop} {P : β → Prop} (h : So x Q) (hf : ∀ q, x = some q → Q q → So (f q) P) : So (o_bd x f) P := by
  obtain ⟨r, e, hr⟩ := h
  rw [e]
  exact hf r e hr
theorem So.and {α : Type} {x : Option α} {P Q : α → Prop} (h : So x P) (g : So x Q) : So x (fun r => P r ∧ Q r) := by
  obtain ⟨r, e, hr⟩ := h
  obtain ⟨r', e', hr'⟩ := g
  rw [e] at e'
  cases e'
  exact ⟨r, e, hr, hr'⟩
theorem gd_t {α : Type} {b : Bool} {k : Option α} (h : b = true) : o_gd b k = k := if_pos h
theorem bd_s {α β : Type} {x : Option α} {a : α} {f : α → Option β} (e : x = some a) : o_bd x f = f a := by
  rw [e]
  rfl

-- steps of programs, as equations
-- how many bits a number has
def BL (v : Int) (k : Nat) : Prop := v < ((2 ^ k : Nat) : Int) ∧ (k = 0 ∨ ((2 ^ (k - 1) : Nat) : Int) ≤ v)
theorem pw_pos (k : Nat) : (0 : Int) < ((2 ^ k : Nat) : Int) := by
  exact_mod_cast Nat.two_pow_pos k
theorem pw_le {j k : Nat} (h : j ≤ k) : ((2 ^ j : Nat) : Int) ≤ ((2 ^ k : Nat) : Int) := by
  exact_mod_cast Nat.pow_le_pow_right (by decide) h
theorem pw_s (j : Nat) : ((2 ^ (j + 1) : Nat) : Int) = ((2 ^ j : Nat) : Int) * 2 := by
  rw [Nat.pow_succ, Int.natCast_mul]
  rfl
theorem BL_uniq {v : Int} {k k' : Nat} (h : BL v k) (h' : BL v k') : k = k' := by
  obtain ⟨a, b⟩ := h
  obtain ⟨a', b'⟩ := h'
  rcases Nat.lt_trichotomy k k' with c | c | c
  · rcases b' with b' | b'
    · exact absurd c (by omega)
    · exact absurd (Int.lt_of_lt_of_le a (Int.le_trans (pw_le (by omega)) b')) (Int.lt_irrefl v)
  · exact c
  · rcases b with b | b
    · exact absurd c (by omega)
    · exact absurd (Int.lt_of_lt_of_le a' (Int.le_trans (pw_le (by omega)) b)) (Int.lt_irrefl v)
theorem dv0 {v : Int} {k : Nat} (h0 : 0 ≤ v) : v / ((2 ^ k : Nat) : Int) = 0 ↔ v < ((2 ^ k : Nat) : Int) := by
  constructor
  · intro h
    have := (Int.ediv_lt_iff_lt_mul (a := v) (b := 1) (pw_pos k)).mp (by rw [h]; decide)
    rw [Int.one_mul] at this
    exact this
  · exact fun h => Int.ediv_eq_zero_of_lt h0 h
theorem bl_x {fu : Nat} {v : Int64} (h0 : 0 ≤ v.toInt) (h1 : v.toInt < ((2 ^ 62 : Nat) : Int)) : ∀ (m n j : Nat) (x : Int32), x.toInt = (j : Int) → j + m = 63 → m < n → (j = 0 ∨ ((2 ^ (j - 1) : Nat) : Int) ≤ v.toInt) → So (X_bitLength_L2 fu v n x) (fun r => ∃ k : Nat, r.toInt = (k : Int) ∧ k ≤ 62 ∧ BL v.toInt k)
  | _, 0, j, x, _, _, h, _ => absurd h (by omega)
  | 0, n + 1, j, x, hx, hj, _, hb => by
    have hj : j = 63 := by omega
    rcases hb with hb | hb
    · exact absurd hb (by omega)
    · rw [hj] at hb
      exact absurd (Int.lt_of_lt_of_le h1 hb) (Int.lt_irrefl _)
  | m + 1, n + 1, j, x, hx, hj, hn, hb => by
    rw [X_bitLength_L2]
    have k63 : (63 : Int32).toInt = 63 := by decide
    have k0 : (0 : Int64).toInt = 0 := by decide
    have k1 : (1 : Int32).toInt = 1 := by decide
    refine So.neg (by rw [i_le]; omega) ?_
    have hs := sh_e v hx (by omega)
    refine So.ite (fun c => ?_) (fun c => ?_) <;> rw [i64_eq, hs, k0, dv0 h0] at c
    · exact So.one ⟨j, hx, by omega, c, hb⟩
    · have e1 : (x + 1).toInt = ((j + 1 : Nat) : Int) := by
        rw [i_add (a := x) (b := 1) (by omega) (by omega), k1, hx]
        omega
      exact bl_x h0 h1 m n (j + 1) (x + 1) e1 (by omega) (by omega) (Or.inr (Int.not_lt.mp c))
theorem bl_X {fu : Nat} {v : Int64} (hf : 12000 ≤ fu) (h0 : 0 ≤ v.toInt) (h1 : v.toInt < ((2 ^ 62 : Nat) : Int)) : So (X_bitLength fu v) (fun r => ∃ k : Nat, r.toInt = (k : Int) ∧ k ≤ 62 ∧ BL v.toInt k) := by
  unfold X_bitLength
  exact bl_x h0 h1 63 fu 0 0 (by decide) rfl (by omega) (Or.inl rfl)
theorem bl_m {fu : Nat} {v : Int} (h0 : 0 ≤ v) (h1 : v < ((2 ^ 62 : Nat) : Int)) : ∀ (m n j : Nat) (x : Int32) (y : Int64), x.toInt = (j : Int) → y.toInt = v / ((2 ^ j : Nat) : Int) → j + m = 63 → m < n → (j = 0 ∨ ((2 ^ (j - 1) : Nat) : Int) ≤ v) → So (Mod_length_L4 fu n x y) (fun r => ∃ k : Nat, r.toInt = (k : Int) ∧ k ≤ 62 ∧ BL v k)
  | _, 0, j, x, y, _, _, _, h, _ => absurd h (by omega)
  | 0, n + 1, j, x, y, hx, hy, hj, _, hb => by
    have hj : j = 63 := by omega
    rcases hb with hb | hb
    · exact absurd hb (by omega)
    · rw [hj] at hb
      exact absurd (Int.lt_of_lt_of_le h1 hb) (Int.lt_irrefl _)
  | m + 1, n + 1, j, x, y, hx, hy, hj, hn, hb => by
    rw [Mod_length_L4]
    have k0 : (0 : Int64).toInt = 0 := by decide
    have k1 : (1 : Int32).toInt = 1 := by decide
    have hd : 0 ≤ v / ((2 ^ j : Nat) : Int) := Int.ediv_nonneg h0 (Int.le_of_lt (pw_pos j))
    refine So.ite (fun c => ?_) (fun c => ?_) <;> rw [i64_le, hy, k0] at c
    · exact So.one ⟨j, hx, by omega, (dv0 h0).mp (Int.le_antisymm c hd), hb⟩
    · have hn0 : ¬ v / ((2 ^ j : Nat) : Int) = 0 := fun e => c (by rw [e]; exact Int.le_refl 0)
      rw [dv0 h0] at hn0
      have e1 : (x + 1).toInt = ((j + 1 : Nat) : Int) := by
        rw [i_add (a := x) (b := 1) (by omega) (by omega), k1, hx]
        omega
      refine bl_m h0 h1 m n (j + 1) (x + 1) _ e1 ?_ (by omega) (by omega) (Or.inr (Int.not_lt.mp hn0))
      rw [sh1, hy, Int.ediv_ediv_of_nonneg (Int.le_of_lt (pw_pos j)), pw_s]
theorem bl_M {fu : Nat} {v : Int64} (hf : 12000 ≤ fu) (h0 : 0 ≤ v.toInt) (h1 : v.toInt < ((2 ^ 62 : Nat) : Int)) : So (Mod_length fu v) (fun r => ∃ k : Nat, r.toInt = (k : Int) ∧ k ≤ 62 ∧ BL v.toInt k) := by
  unfold Mod_length
  refine bl_m h0 h1 63 fu 0 0 v (by decide) ?_ rfl (by omega) (Or.inl rfl)
  show v.toInt = v.toInt / 1
  rw [Int.ediv_one]
theorem bl_both {fu : Nat} {v : Int64} (hf : 12000 ≤ fu) (h0 : 0 ≤ v.toInt) (h1 : v.toInt < ((2 ^ 62 : Nat) : Int)) : ∃ (k : Nat) (q : Int32), X_bitLength fu v = some q ∧ Mod_length fu v = some q ∧ q.toInt = (k : Int) ∧ k ≤ 62 ∧ BL v.toInt k := by
  obtain ⟨q, eq, k, hq, hk, hB⟩ := bl_X hf h0 h1
  obtain ⟨p, ep, k', hp, hk', hB'⟩ := bl_M hf h0 h1
  have e := BL_uniq hB hB'
  have e2 : p = q := i_eq.mpr (by rw [hp, hq, e])
  exact ⟨k, q, eq, by rw [ep, e2], hq, hk, hB⟩
theorem i64_add {a b : Int64} (h1 : -9223372036854775808 ≤ a.toInt + b.toInt) (h2 : a.toInt + b.toInt < 9223372036854775808) : (a + b).toInt = a.toInt + b.toInt := by
  rw [Int64.toInt_add]
  exact i64_bm h1 h2
theorem i64_mul {a b : Int64} (h1 : -9223372036854775808 ≤ a.toInt * b.toInt) (h2 : a.toInt * b.toInt < 9223372036854775808) : (a * b).toInt = a.toInt * b.toInt := by
  rw [Int64.toInt_mul]
  exact i64_bm h1 h2
theorem i_to64 (a : Int32) : a.toInt64.toInt = a.toInt := Int32.toInt_toInt64 a
-- the points
def GP (g : S_Grd) (po : Nat → Int64) : Prop := ∀ j : Nat, j < 64 → Grd_points g j = po j ∧ (po j = (-9000000000000000000) ∨ (-2000000000 ≤ (po j).toInt ∧ (po j).toInt ≤ 2000000000))
def LH (po : Nat → Int64) (k : Nat) (lo hi : Int64) : Prop := (∃ j, j < k ∧ ¬ po j = (-9000000000000000000) ∧ lo = po j) ∧ (∀ j, j < k → ¬ po j = (-9000000000000000000) → lo.toInt ≤ (po j).toInt) ∧ (∃ j, j < k ∧ ¬ po j = (-9000000000000000000) ∧ hi = po j) ∧ (∀ j, j < k → ¬ po j = (-9000000000000000000) → (po j).toInt ≤ hi.toInt)
theorem LH_uniq {po : Nat → Int64} {k : Nat} {lo hi lo' hi' : Int64} (h : LH po k lo hi) (h' : LH po k lo' hi') : lo = lo' ∧ hi = hi' := by
  obtain ⟨⟨a, a1, a2, a3⟩, b, ⟨c, c1, c2, c3⟩, d⟩ := h
  obtain ⟨⟨a', a1', a2', a3'⟩, b', ⟨c', c1', c2', c3'⟩, d'⟩ := h'
  constructor
  · have x := b a' a1' a2'
    have y := b' a a1 a2
    rw [← a3'] at x
    rw [← a3] at y
    exact i64_eq.mpr (Int.le_antisymm x y)
  · have x := d c' c1' c2'
    have y := d' c c1 c2
    rw [← c3'] at x
    rw [← c3] at y
    exact i64_eq.mpr (Int.le_antisymm y x)
theorem LH_skip {po : Nat → Int64} {k : Nat} {lo hi : Int64} (e : po k = (-9000000000000000000)) (h : LH po k lo hi) : LH po (k + 1) lo hi := by
  obtain ⟨⟨a, a1, a2, a3⟩, b, ⟨c, c1, c2, c3⟩, d⟩ := h
  refine ⟨⟨a, by omega, a2, a3⟩, fun j hj hm => ?_, ⟨c, by omega, c2, c3⟩, fun j hj hm => ?_⟩
  · by_cases ej : j = k
    · exact absurd (by rw [ej]; exact e) hm
    · exact b j (by omega) hm
  · by_cases ej : j = k
    · exact absurd (by rw [ej]; exact e) hm
    · exact d j (by omega) hm
theorem LH_first {po : Nat → Int64} {k : Nat} (e : ¬ po k = (-9000000000000000000)) (h : ∀ j, j < k → po j = (-9000000000000000000)) : LH po (k + 1) (po k) (po k) := by
  refine ⟨⟨k, by omega, e, rfl⟩, fun j hj hm => ?_, ⟨k, by omega, e, rfl⟩, fun j hj hm => ?_⟩
  · by_cases ej : j = k
    · rw [ej]; exact Int.le_refl _
    · exact absurd (h j (by omega)) hm
  · by_cases ej : j = k
    · rw [ej]; exact Int.le_refl _
    · exact absurd (h j (by omega)) hm
theorem LH_next {po : Nat → Int64} {k : Nat} {lo hi lo' hi' : Int64} (e : ¬ po k = (-9000000000000000000)) (h : LH po k lo hi) (h1 : ((po k).toInt < lo.toInt ∧ lo' = po k) ∨ (lo.toInt ≤ (po k).toInt ∧ lo' = lo)) (h2 : ((po k).toInt ≤ hi.toInt ∧ hi' = hi) ∨ (hi.toInt ≤ (po k).toInt ∧ hi' = po k)) : LH po (k + 1) lo' hi' := by
  obtain ⟨⟨a, a1, a2, a3⟩, b, ⟨c, c1, c2, c3⟩, d⟩ := h
  refine ⟨?_, fun j hj hm => ?_, ?_, fun j hj hm => ?_⟩
  · rcases h1 with ⟨_, h1⟩ | ⟨_, h1⟩
    · exact ⟨k, by omega, e, h1⟩
    · exact ⟨a, by omega, a2, by rw [h1, a3]⟩
  · by_cases ej : j = k
    · rw [ej]
      rcases h1 with ⟨g, h1⟩ | ⟨g, h1⟩
      · rw [h1]; exact Int.le_refl _
      · rw [h1]; exact g
    · have := b j (by omega) hm
      rcases h1 with ⟨g, h1⟩ | ⟨g, h1⟩
      · rw [h1]; omega
      · rw [h1]; exact this
  · rcases h2 with ⟨_, h2⟩ | ⟨_, h2⟩
    · exact ⟨c, by omega, c2, by rw [h2, c3]⟩
    · exact ⟨k, by omega, e, h2⟩
  · by_cases ej : j = k
    · rw [ej]
      rcases h2 with ⟨g, h2⟩ | ⟨g, h2⟩
      · rw [h2]; exact g
      · rw [h2]; exact Int.le_refl _
    · have := d j (by omega) hm
      rcases h2 with ⟨g, h2⟩ | ⟨g, h2⟩
      · rw [h2]; exact this
      · rw [h2]; omega
def CLo (po : Nat → Int64) (k : Nat) (lo hi : Int64) : Prop := ((∀ j, j < k → po j = (-9000000000000000000)) ∧ lo = 2000000000 ∧ hi = (-2000000000)) ∨ LH po k lo hi
def MLo (po : Nat → Int64) (k : Nat) (lo hi : Int64) : Prop := ((∀ j, j < k → po j = (-9000000000000000000)) ∧ lo = (-9000000000000000000) ∧ hi = (-9000000000000000000)) ∨ LH po k lo hi
theorem x_L12 {fu : Nat} {a0 : Int32} {g : S_Grd} {po : Nat → Int64} {ke : Int64 → Int64 → Option (Int32 × S_Grd)} (G : GP g po) : ∀ (m n k : Nat) (lo hi : Int64) (x : Int32), x.toInt = (k : Int) → k + m = 64 → m < n → CLo po k lo hi → ∃ lo' hi', Grd_takeCodes_L12 fu a0 g ke n lo hi x = ke lo' hi' ∧ CLo po 64 lo' hi'
  | _, 0, k, lo, hi, x, _, _, h, _ => absurd h (by omega)
  | 0, n + 1, k, lo, hi, x, hx, hk, _, C => by
    have k64 : (64 : Int32).toInt = 64 := by decide
    have e : k = 64 := by omega
    rw [Grd_takeCodes_L12, if_pos (by rw [i_le]; omega)]
    rw [e] at C
    exact ⟨lo, hi, rfl, C⟩
  | m + 1, n + 1, k, lo, hi, x, hx, hk, hn, C => by
    have k64 : (64 : Int32).toInt = 64 := by decide
    have k1 : (1 : Int32).toInt = 1 := by decide
    have hx64 : ¬ (64 : Int32) ≤ x := by rw [i_le]; omega
    have gi : o_in x 64 = true := i_in.mpr (by omega)
    have hn0 := i_nat (a := x) (by omega)
    have en : x.toNatClampNeg = k := by omega
    have e1 : (x + 1).toInt = ((k + 1 : Nat) : Int) := by
      rw [i_add (a := x) (b := 1) (by omega) (by omega), k1, hx]
      omega
    obtain ⟨hp, hr⟩ := G k (by omega)
    by_cases cm : po k = (-9000000000000000000)
    · have hl : Grd_takeCodes_L12 fu a0 g ke (n + 1) lo hi x = Grd_takeCodes_L12 fu a0 g ke n lo hi (x + 1) := by
        rw [Grd_takeCodes_L12, if_neg hx64, gd_t gi, en, hp, if_pos cm]
        rfl
      have C1 : CLo po (k + 1) lo hi := by
        rcases C with ⟨a, b⟩ | C
        · refine Or.inl ⟨fun j hj => ?_, b⟩
          by_cases ej : j = k
          · rw [ej]; exact cm
          · exact a j (by omega)
        · exact Or.inr (LH_skip cm C)
      obtain ⟨lo', hi', h1, h2⟩ := x_L12 G m n (k + 1) lo hi (x + 1) e1 (by omega) (by omega) C1
      exact ⟨lo', hi', hl.trans h1, h2⟩
    · have hl : Grd_takeCodes_L12 fu a0 g ke (n + 1) lo hi x = Grd_takeCodes_L12 fu a0 g ke n (if po k < lo then po k else lo) (if po k < hi then hi else po k) (x + 1) := by
        rw [Grd_takeCodes_L12, if_neg hx64, gd_t gi, en, hp, if_neg cm, gd_t gi]
        show o_gd (o_in x 64) _ = _
        rw [gd_t gi]
        rfl
      have C1 : CLo po (k + 1) (if po k < lo then po k else lo) (if po k < hi then hi else po k) := by
        have hr : -2000000000 ≤ (po k).toInt ∧ (po k).toInt ≤ 2000000000 := by
          rcases hr with hr | hr
          · exact absurd hr cm
          · exact hr
        rcases C with ⟨a, b, c⟩ | C
        · have k2 : (2000000000 : Int64).toInt = 2000000000 := by decide
          have k3 : ((-2000000000) : Int64).toInt = -2000000000 := by decide
          have el : (if po k < lo then po k else lo) = po k := by
            by_cases c1 : po k < lo
            · rw [if_pos c1]
            · rw [if_neg c1, b]
              rw [i64_lt, b] at c1
              exact i64_eq.mpr (by omega)
          have eh : (if po k < hi then hi else po k) = po k := by
            rw [if_neg (by rw [i64_lt, c]; omega)]
          rw [el, eh]
          exact Or.inr (LH_first cm a)
        · refine Or.inr (LH_next cm C ?_ ?_)
          · by_cases c1 : po k < lo
            · rw [if_pos c1]
              exact Or.inl ⟨i64_lt.mp c1, rfl⟩
            · rw [if_neg c1]
              rw [i64_lt] at c1
              exact Or.inr ⟨by omega, rfl⟩
          · by_cases c1 : po k < hi
            · rw [if_pos c1]
              exact Or.inl ⟨Int.le_of_lt (i64_lt.mp c1), rfl⟩
            · rw [if_neg c1]
              rw [i64_lt] at c1
              exact Or.inr ⟨by omega, rfl⟩
      obtain ⟨lo', hi', h1, h2⟩ := x_L12 G m n (k + 1) _ _ (x + 1) e1 (by omega) (by omega) C1
      exact ⟨lo', hi', hl.trans h1, h2⟩
theorem m_L12 {fu : Nat} {a0 : Int32} {s : S_Mo} {po pk cf cs : Nat → Int64} {cut ends : Nat → Int32} {ke : Int64 → Int64 → Option A7} : ∀ (m n k : Nat) (lo hi : Int64) (x : Int32), x.toInt = (k : Int) → k + m = 64 → m < n → MLo po k lo hi → ∃ lo' hi', Mod_pack_L12 fu po a0 s pk cf cs cut ends ke n lo hi x = ke lo' hi' ∧ MLo po 64 lo' hi'
  | _, 0, k, lo, hi, x, _, _, h, _ => absurd h (by omega)
  | 0, n + 1, k, lo, hi, x, hx, hk, _, C => by
    have k64 : (64 : Int32).toInt = 64 := by decide
    have e : k = 64 := by omega
    rw [Mod_pack_L12, if_pos (by rw [i_le]; omega)]
    rw [e] at C
    exact ⟨lo, hi, rfl, C⟩
  | m + 1, n + 1, k, lo, hi, x, hx, hk, hn, C => by
    have k64 : (64 : Int32).toInt = 64 := by decide
    have k1 : (1 : Int32).toInt = 1 := by decide
    have hx64 : ¬ (64 : Int32) ≤ x := by rw [i_le]; omega
    have gi : o_in x 64 = true := i_in.mpr (by omega)
    have hn0 := i_nat (a := x) (by omega)
    have en : x.toNatClampNeg = k := by omega
    have e1 : (x + 1).toInt = ((k + 1 : Nat) : Int) := by
      rw [i_add (a := x) (b := 1) (by omega) (by omega), k1, hx]
      omega
    by_cases cm : po k = (-9000000000000000000)
    · have hl : Mod_pack_L12 fu po a0 s pk cf cs cut ends ke (n + 1) lo hi x = Mod_pack_L12 fu po a0 s pk cf cs cut ends ke n lo hi (x + 1) := by
        rw [Mod_pack_L12, if_neg hx64, gd_t gi, en, if_pos cm]
        rfl
      have C1 : MLo po (k + 1) lo hi := by
        rcases C with ⟨a, b⟩ | C
        · refine Or.inl ⟨fun j hj => ?_, b⟩
          by_cases ej : j = k
          · rw [ej]; exact cm
          · exact a j (by omega)
        · exact Or.inr (LH_skip cm C)
      obtain ⟨lo', hi', h1, h2⟩ := m_L12 m n (k + 1) lo hi (x + 1) e1 (by omega) (by omega) C1
      exact ⟨lo', hi', hl.trans h1, h2⟩
    · have j90 : ∀ t, Mod_pack_j90 fu po (fun v0 v1 v2 => Mod_pack_L12 fu po a0 s pk cf cs cut ends ke n v0 v1 v2) ke a0 s pk cf cs cut ends t x = Mod_pack_L12 fu po a0 s pk cf cs cut ends ke n t (po k) (x + 1) := by
        intro t
        unfold Mod_pack_j90 Mod_pack_j102 Mod_pack_j104
        rw [gd_t gi, en]
      have fin : ∀ lo1 hi1, Mod_pack_L12 fu po a0 s pk cf cs cut ends ke (n + 1) lo hi x = Mod_pack_L12 fu po a0 s pk cf cs cut ends ke n lo1 hi1 (x + 1) → LH po (k + 1) lo1 hi1 → ∃ lo' hi', Mod_pack_L12 fu po a0 s pk cf cs cut ends ke (n + 1) lo hi x = ke lo' hi' ∧ MLo po 64 lo' hi' := by
        intro lo1 hi1 hl C1
        obtain ⟨lo', hi', h1, h2⟩ := m_L12 m n (k + 1) lo1 hi1 (x + 1) e1 (by omega) (by omega) (Or.inr C1)
        exact ⟨lo', hi', hl.trans h1, h2⟩
      rcases C with ⟨a, b, c⟩ | C
      · refine fin (po k) (po k) ?_ (LH_first cm a)
        rw [Mod_pack_L12, if_neg hx64, gd_t gi, en, if_neg cm, if_pos b]
        unfold Mod_pack_j56 Mod_pack_j67
        rw [gd_t gi, if_pos c, j90, en]
      · have nl : ¬ lo = (-9000000000000000000) := by
          obtain ⟨⟨u, _, u2, u3⟩, _⟩ := C
          rw [u3]; exact u2
        have nh : ¬ hi = (-9000000000000000000) := by
          obtain ⟨_, _, ⟨u, _, u2, u3⟩, _⟩ := C
          rw [u3]; exact u2
        have j67 : ∀ t, Mod_pack_j67 fu po (fun v0 v1 v2 => Mod_pack_L12 fu po a0 s pk cf cs cut ends ke n v0 v1 v2) ke a0 s pk cf cs cut ends hi x t = Mod_pack_L12 fu po a0 s pk cf cs cut ends ke n t (if po k ≤ hi then hi else po k) (x + 1) := by
          intro t
          unfold Mod_pack_j67
          rw [if_neg nh, gd_t gi, en]
          by_cases c1 : po k ≤ hi
          · rw [if_pos c1, if_pos c1]
            rfl
          · rw [if_neg c1, if_neg c1, j90]
        have H2 : ((po k).toInt ≤ hi.toInt ∧ (if po k ≤ hi then hi else po k) = hi) ∨ (hi.toInt ≤ (po k).toInt ∧ (if po k ≤ hi then hi else po k) = po k) := by
          by_cases c1 : po k ≤ hi
          · rw [if_pos c1]
            exact Or.inl ⟨i64_le.mp c1, rfl⟩
          · rw [if_neg c1]
            rw [i64_le] at c1
            exact Or.inr ⟨by omega, rfl⟩
        by_cases c2 : lo ≤ po k
        · refine fin lo _ ?_ (LH_next cm C (Or.inr ⟨i64_le.mp c2, rfl⟩) H2)
          rw [Mod_pack_L12, if_neg hx64, gd_t gi, en, if_neg cm, if_neg nl, gd_t gi, if_pos c2, j67]
        · refine fin (po k) _ ?_ (LH_next cm C (Or.inl ⟨by rw [i64_le] at c2; omega, rfl⟩) H2)
          rw [Mod_pack_L12, if_neg hx64, gd_t gi, en, if_neg cm, if_neg nl, gd_t gi, if_neg c2]
          unfold Mod_pack_j56
          rw [gd_t gi, en, j67]
theorem x_bare {fu : Nat} {g : S_Grd} {po : Nat → Int64} (G : GP g po) : ∀ (m n k : Nat) (x : Int32), x.toInt = (k : Int) → k + m = 64 → m < n → (∀ j, j < k → po j = (-9000000000000000000)) → So (Grd_isBare_L2 fu g n x) (fun r => (r = 1 ∧ ∀ j, j < 64 → po j = (-9000000000000000000)) ∨ (r = 0 ∧ ∃ j, j < 64 ∧ ¬ po j = (-9000000000000000000)))
  | _, 0, k, x, _, _, h, _ => absurd h (by omega)
  | 0, n + 1, k, x, hx, hk, _, C => by
    have k64 : (64 : Int32).toInt = 64 := by decide
    have e : k = 64 := by omega
    rw [Grd_isBare_L2, if_pos (by rw [i_le]; omega)]
    rw [e] at C
    exact So.one (Or.inl ⟨rfl, C⟩)
  | m + 1, n + 1, k, x, hx, hk, hn, C => by
    have k64 : (64 : Int32).toInt = 64 := by decide
    have k1 : (1 : Int32).toInt = 1 := by decide
    have gi : o_in x 64 = true := i_in.mpr (by omega)
    have hn0 := i_nat (a := x) (by omega)
    have en : x.toNatClampNeg = k := by omega
    have e1 : (x + 1).toInt = ((k + 1 : Nat) : Int) := by
      rw [i_add (a := x) (b := 1) (by omega) (by omega), k1, hx]
      omega
    obtain ⟨hp, hr⟩ := G k (by omega)
    rw [Grd_isBare_L2, if_neg (by rw [i_le]; omega), gd_t gi, en, hp]
    by_cases cm : po k = (-9000000000000000000)
    · rw [if_pos cm]
      refine x_bare G m n (k + 1) (x + 1) e1 (by omega) (by omega) fun j hj => ?_
      by_cases ej : j = k
      · rw [ej]; exact cm
      · exact C j (by omega)
    · rw [if_neg cm]
      exact So.one (Or.inr ⟨rfl, k, by omega, cm⟩)
-- the step
theorem m_L154 {fu : Nat} {po pk cf cs : Nat → Int64} {cut ends : Nat → Int32} {x1 : Int32} {x2 x4 : Int64} {s : S_Mo} {ke : Int32 → Option A7} {b k : Nat} (hb : x1.toInt = (b : Int)) (hb2 : b ≤ 31) (h0 : 0 ≤ (x4 - x2).toInt) (hk : k ≤ 62) (B : BL (x4 - x2).toInt k) : ∀ (m n j : Nat) (x : Int32), x.toInt = (j : Int) → j + m = k - b → m < n → ∃ y : Int32, y.toInt = ((k - b : Nat) : Int) ∧ Mod_pack_L154 fu po x1 x2 x4 s pk cf cs cut ends ke n x = ke y
  | _, 0, j, x, _, _, h => absurd h (by omega)
  | m, n + 1, j, x, hx, hj, hn => by
    have k1 : (1 : Int32).toInt = 1 := by decide
    have hs := sh_e (x4 - x2) hx (by omega)
    have hm := mo_nat hb (by omega)
    have hm2 : (mo x1).toInt = ((2 ^ b : Nat) : Int) - 1 := by
      rw [hm, Int.natCast_pow]
      rfl
    have em : Mod_most x1 = some (mo x1) := rfl
    have cond : (x4 - x2) >>> ((x : Int32).toInt64 &&& 63) ≤ mo x1 ↔ k ≤ b + j := by
      rw [i64_le, hs, hm2, Int.le_sub_one_iff, Int.ediv_lt_iff_lt_mul (pw_pos j)]
      have ep : ((2 ^ b : Nat) : Int) * ((2 ^ j : Nat) : Int) = ((2 ^ (b + j) : Nat) : Int) := by
        rw [Nat.pow_add, Int.natCast_mul]
      rw [ep]
      obtain ⟨B1, B2⟩ := B
      constructor
      · intro h
        rcases B2 with B2 | B2
        · omega
        · by_cases c : k ≤ b + j
          · exact c
          · exact absurd (Int.lt_of_lt_of_le h (Int.le_trans (pw_le (by omega)) B2)) (Int.lt_irrefl _)
      · intro h
        exact Int.lt_of_lt_of_le B1 (pw_le h)
    rw [Mod_pack_L154, bd_s em]
    by_cases c : k ≤ b + j
    · rw [if_pos (cond.mpr c)]
      exact ⟨x, by rw [hx]; omega, rfl⟩
    · rw [if_neg (fun h => c (cond.mp h))]
      have e1 : (x + 1).toInt = ((j + 1 : Nat) : Int) := by
        rw [i_add (a := x) (b := 1) (by omega) (by omega), k1, hx]
        omega
      exact m_L154 hb hb2 h0 hk B (m - 1) n (j + 1) (x + 1) e1 (by omega) (by omega)

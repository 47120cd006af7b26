-- the spread of one field, on both sides
theorem bl_0 {fu : Nat} {d : Int64} {w : Int32} (hd : 1 ≤ d.toInt) : ∀ n : Nat, X_bitLength_L2 fu d n 0 = some w → ∃ n' : Nat, X_bitLength_L2 fu d n' 1 = some w
  | 0, h => by
    rw [X_bitLength_L2] at h
    cases h
  | n + 1, h => by
    have z0 : (0 : Int64).toInt = 0 := by decide
    have e := sh_e (e := 0) (k := 0) d (by decide) (by decide)
    have e1 : d.toInt / ((2 ^ 0 : Nat) : Int) = d.toInt := Int.ediv_one d.toInt
    have c : ¬ (d >>> ((0 : Int32).toInt64 &&& 63)) = 0 := by
      rw [i64_eq, e, e1, z0]
      omega
    rw [X_bitLength_L2, if_neg (by decide), if_neg c] at h
    exact ⟨n, h⟩
theorem sp_L {fu : Nat} {va : Nat → Int64} {ki wd : Nat → Int32} {ba : Nat → Int64} {x1 x2 : Int32} {lo hi_ d : Int64} {s : S_Mo} {bi : Nat → Int32} {ke : Int32 → Option (S_Mo × (Nat → Int32))} {w : Int32} {R : S_Mo × (Nat → Int32)} (hd : d.toInt = (hi_ - lo).toInt + 1) (h0 : 0 ≤ (hi_ - lo).toInt) (h1 : (hi_ - lo).toInt ≤ 4294967294) : ∀ (n n' k : Nat) (x : Int32), x.toInt = (k : Int) → 1 ≤ k → k ≤ 32 → X_bitLength_L2 fu d n x = some w → Mod_layPacked_L183 fu va ki wd ba x1 x2 lo hi_ s bi ke n' x = some R → ke w = some R ∧ 1 ≤ w.toInt ∧ w.toInt ≤ 32
  | 0, n', k, x, _, _, _, e1, _ => by
    rw [X_bitLength_L2] at e1
    cases e1
  | n + 1, 0, k, x, _, _, _, _, e2 => by
    rw [Mod_layPacked_L183] at e2
    cases e2
  | n + 1, n' + 1, k, x, hx, hk1, hk2, e1, e2 => by
    have z0 : (0 : Int64).toInt = 0 := by decide
    have k1 : (1 : Int32).toInt = 1 := by decide
    have k63 : (63 : Int32).toInt = 63 := by decide
    have c63 : ¬ (63 : Int32) ≤ x := by rw [i_le, k63]; omega
    obtain ⟨m, m1, _, m3, _, _, _⟩ := most_v (w := x) (by omega) (by omega)
    have ek : x.toInt.toNat = k := by omega
    have ep : ((2 ^ k : Nat) : Int) = (2 : Int) ^ k := Int.natCast_pow 2 k
    rw [ek, ← ep] at m3
    have es := sh_e (e := x) (k := k) d hx (by omega)
    obtain ⟨P, hP⟩ : ∃ P : Int, P = ((2 ^ k : Nat) : Int) := ⟨_, rfl⟩
    have p0 : 0 < P := by
      rw [hP]
      have := Nat.two_pow_pos k
      omega
    rw [← hP] at m3 es
    rw [X_bitLength_L2, if_neg c63] at e1
    rw [Mod_layPacked_L183, bd_s m1] at e2
    by_cases c : d.toInt < P
    · have c1 : (d >>> (x.toInt64 &&& 63)) = 0 := by
        rw [i64_eq, es, z0]
        exact Int.ediv_eq_zero_of_lt (by omega) c
      have c2 : hi_ - lo < m := by
        rw [i64_lt, m3]
        omega
      rw [if_pos c1] at e1
      cases e1
      rw [if_pos c2] at e2
      exact ⟨e2, by omega, by omega⟩
    · have c1 : ¬ (d >>> (x.toInt64 &&& 63)) = 0 := by
        rw [i64_eq, es, z0]
        have : 1 ≤ d.toInt / P := Int.le_ediv_of_mul_le p0 (by omega)
        omega
      have c2 : ¬ hi_ - lo < m := by
        rw [i64_lt, m3]
        omega
      rw [if_neg c1] at e1
      rw [if_neg c2] at e2
      have kk : k < 32 := by
        by_cases q : k = 32
        · have : P = 4294967296 := by
            rw [hP, q]
            decide
          omega
        · omega
      have xs : (x + 1).toInt = ((k + 1 : Nat) : Int) := by
        rw [i_add (a := x) (b := 1) (by omega) (by omega), hx, k1]
        rfl
      exact sp_L hd h0 h1 n n' (k + 1) (x + 1) xs (by clear xs; omega) (by clear xs; omega) e1 e2
theorem spr_both {fu N8 : Nat} {va : Nat → Int64} {ki wd : Nat → Int32} {ba : Nat → Int64} {x1 x2 : Int32} {lo hi_ m : Int64} {lk any : Int32} {s : S_Mo} {bi : Nat → Int32} {w : Int32} {R : S_Mo × (Nat → Int32)} (hn : x2.toInt = (N8 : Int)) (hm : 1 ≤ m.toInt) (hm2 : m.toInt ≤ 4294967295) (G : LG m lo hi_ lk any N8) (e1 : Wri_spreadOf fu (hi_ - lo) any = some w) (e2 : (if lk = x2 then Mod_layPacked_j168 fu va ki wd ba x1 x2 lo hi_ 0 s bi else if lk = 0 then if lo = hi_ then Mod_layPacked_j168 fu va ki wd ba x1 x2 lo hi_ 0 s bi else Mod_layPacked_j172 fu va ki wd ba x1 x2 lo hi_ 0 s bi else Mod_layPacked_j172 fu va ki wd ba x1 x2 lo hi_ 0 s bi) = some R) : Mod_layPacked_j202 fu va ki wd ba x1 x2 lo w s bi = some R ∧ 0 ≤ w.toInt ∧ w.toInt ≤ 32 := by
  have z0 : (0 : Int64).toInt = 0 := by decide
  have z1 : (1 : Int64).toInt = 1 := by decide
  have k0 : (0 : Int32).toInt = 0 := by decide
  have k1 : (1 : Int32).toInt = 1 := by decide
  obtain ⟨G1, G2, G3, G4, G5⟩ := G
  have zero : Mod_layPacked_j168 fu va ki wd ba x1 x2 lo hi_ 0 s bi = some R → Mod_layPacked_j202 fu va ki wd ba x1 x2 lo 0 s bi = some R := by
    intro h
    unfold Mod_layPacked_j168 Mod_layPacked_j173 at h
    rw [if_neg (show ¬ (1 : Int32) = 0 by decide)] at h
    exact h
  have fin : 0 ≤ (hi_ - lo).toInt → (hi_ - lo).toInt ≤ 4294967294 → (o_bd (X_bitLength fu (hi_ - lo + 1)) fun q2 => (some q2)) = some w → Mod_layPacked_j172 fu va ki wd ba x1 x2 lo hi_ 0 s bi = some R → Mod_layPacked_j202 fu va ki wd ba x1 x2 lo w s bi = some R ∧ 0 ≤ w.toInt ∧ w.toInt ≤ 32 := by
    intro d0 d1 g1 g2
    obtain ⟨q, q1, q2⟩ := oi_bd g1
    cases q2
    unfold X_bitLength at q1
    have ed : (hi_ - lo + 1).toInt = (hi_ - lo).toInt + 1 := by
      rw [l_add, z1]
      exact i64_bm (by omega) (by omega)
    obtain ⟨n, q3⟩ := bl_0 (d := hi_ - lo + 1) (by rw [ed]; omega) fu q1
    unfold Mod_layPacked_j172 Mod_layPacked_j173 at g2
    rw [if_pos rfl] at g2
    obtain ⟨a, b, c⟩ := sp_L (d := hi_ - lo + 1) ed d0 d1 n fu 1 1 (by decide) (by decide) (by decide) q3 g2
    exact ⟨a, by omega, c⟩
  unfold Wri_spreadOf at e1
  rcases G5 with ⟨a, b, c⟩ | ⟨a, b, c, d⟩
  · have el : lk = x2 := i_eq.mpr (by omega)
    rw [if_pos el] at e2
    have ed : (hi_ - lo).toInt = - m.toInt := by
      rw [l_sub, c, b, z0]
      rw [i64_bm (x := 0 - m.toInt) (by omega) (by omega)]
      omega
    have cl : hi_ - lo < 0 := by
      rw [i64_lt, ed, z0]
      omega
    rw [if_pos cl] at e1
    cases e1
    exact ⟨zero e2, by decide, by decide⟩
  · have el : ¬ lk = x2 := by
      rw [i_eq]
      omega
    have ed : (hi_ - lo).toInt = hi_.toInt - lo.toInt := by
      rw [l_sub]
      exact i64_bm (by omega) (by omega)
    have cl : ¬ hi_ - lo < 0 := by
      rw [i64_lt, ed, z0]
      omega
    rw [if_neg el] at e2
    rw [if_neg cl] at e1
    have d0 : 0 ≤ (hi_ - lo).toInt := by rw [ed]; omega
    have d1 : (hi_ - lo).toInt ≤ 4294967294 := by rw [ed]; omega
    by_cases cz : hi_ - lo = 0
    · rw [if_pos cz] at e1
      have eh : lo = hi_ := by
        rw [i64_eq, ed, z0] at cz
        exact i64_eq.mpr (by omega)
      by_cases ca : any = 0
      · have cl0 : lk = 0 := i_eq.mpr (by rw [k0]; exact G4.mp ca)
        rw [if_pos ca] at e1
        cases e1
        rw [if_pos cl0, if_pos eh] at e2
        exact ⟨zero e2, by decide, by decide⟩
      · have cl0 : ¬ lk = 0 := fun e => ca (G4.mpr (by rw [e]; decide))
        rw [if_neg ca] at e1
        rw [if_neg cl0] at e2
        exact fin d0 d1 e1 e2
    · rw [if_neg cz] at e1
      have nh : ¬ lo = hi_ := by
        intro e
        apply cz
        rw [i64_eq, ed, z0, e]
        omega
      refine fin d0 d1 e1 ?_
      by_cases cl0 : lk = 0
      · rw [if_pos cl0, if_neg nh] at e2
        exact e2
      · rw [if_neg cl0] at e2
        exact e2
-- the differences
set_option maxHeartbeats 8000000 in
theorem df_L {hb : Nat → Nat} {fu i N8 : Nat} {VAL : Nat → Nat → Int64} {va : Nat → Int64} {Fl : S_Fld} {Wr : S_Wri} {x x1 w : Int32} {lo : Int64} {ki wd : Nat → Int32} {ba : Nat → Int64} {b' : S_Bits} {R : S_Mo × (Nat → Int32)} (hf : 12000 ≤ fu) (hx : x.toInt = (i : Int)) (hi : i < 100) (hn : x1.toInt = (N8 : Int)) (h8 : N8 ≤ 8) (V : RwR VAL va) (F : FV8 Fl VAL i N8 ki wd ba) (w0 : 0 ≤ w.toInt) (w1 : w.toInt ≤ 32) : ∀ (n n' k : Nat) (y : Int32) (b : S_Bits) (s : S_Mo) (bi : Nat → Int32), y.toInt = (k : Int) → k ≤ N8 → WrR hb b s bi → (Mo_many s).toInt + 32 * ((N8 : Int) - (k : Int)) ≤ 29400 → Wri_addPacked_L122 fu VAL Fl Wr x x1 lo w n y b = some b' → Mod_layPacked_L214 fu va ki wd ba x x1 lo w n' y s bi = some R → WrR hb b' R.1 R.2 ∧ (∃ z, R.1 = Mo_set_many s z) ∧ (Mo_many R.1).toInt ≤ (Mo_many s).toInt + 32 * ((N8 : Int) - (k : Int))
  | 0, n', k, y, b, s, bi, _, _, _, _, h1, _ => by
    rw [Wri_addPacked_L122] at h1
    cases h1
  | n + 1, 0, k, y, b, s, bi, _, _, _, _, _, h2 => by
    rw [Mod_layPacked_L214] at h2
    cases h2
  | n + 1, n' + 1, k, y, b, s, bi, hy, hk, W, hm, h1, h2 => by
    have k1 : (1 : Int32).toInt = 1 := by decide
    have k0 : (0 : Int32).toInt = 0 := by decide
    rw [Wri_addPacked_L122] at h1
    rw [Mod_layPacked_L214] at h2
    have dn : (b' = b ∧ R = (s, bi)) → WrR hb b' R.1 R.2 ∧ (∃ z, R.1 = Mo_set_many s z) ∧ (Mo_many R.1).toInt ≤ (Mo_many s).toInt + 32 * ((N8 : Int) - (k : Int)) := by
      rintro ⟨e1, e2⟩
      rw [e1, e2]
      exact ⟨W, ⟨Mo_many s, rfl⟩, by show (Mo_many s).toInt ≤ _; omega⟩
    by_cases c : k = N8
    · have c1 : x1 ≤ y := by rw [i_le]; omega
      rw [if_pos c1] at h1 h2
      cases h1
      cases h2
      exact dn ⟨rfl, rfl⟩
    · have c1 : ¬ x1 ≤ y := by rw [i_le]; omega
      rw [if_neg c1] at h1 h2
      by_cases cw : w ≤ 0
      · rw [if_pos cw] at h1 h2
        cases h1
        cases h2
        exact dn ⟨rfl, rfl⟩
      · rw [if_neg cw] at h1 h2
        clear dn
        have ny : y.toNatClampNeg = k := by
          have := i_nat (a := y) (by omega)
          omega
        have nx : x.toNatClampNeg = i := by
          have := i_nat (a := x) (by omega)
          omega
        have ix := (idx_k hy (by omega) hx hi).1
        have F' := F
        obtain ⟨f1, f2, f3, f4, f5, f6, f7⟩ := F'
        obtain ⟨v1, v2⟩ := f7 k (by omega)
        rw [ny, nx] at h1
        have h1 := oe_gd (oe_gd h1)
        obtain ⟨u, u1, u2, u3, _⟩ := raw_ok (s := s) hx hi f1 f2 f3 f4 f5 f6 v1 v2
        rw [bd_s u1, bd_s u3] at h1
        rw [ix, ← V k i (by omega) hi] at h2
        have h2 := oe_gd h2
        have y1 : (y + 1).toInt = ((k + 1 : Nat) : Int) := by
          rw [i_add (a := y) (b := 1) (by omega) (by omega), hy, k1]
          rfl
        have step : ∀ t : Int64, Wri_addPacked_j174 fu VAL Fl Wr (fun v0 v1 => Wri_addPacked_L122 fu VAL Fl Wr x x1 lo w n v0 v1) x x1 lo w y t b = some b' → Mod_layPacked_j272 fu va ki wd ba (fun v0 v1 v2 => Mod_layPacked_L214 fu va ki wd ba x x1 lo w n' v0 v1 v2) x x1 lo w y t s bi = some R → WrR hb b' R.1 R.2 ∧ (∃ z, R.1 = Mo_set_many s z) ∧ (Mo_many R.1).toInt ≤ (Mo_many s).toInt + 32 * ((N8 : Int) - (k : Int)) := by
          intro t g1 g2
          unfold Wri_addPacked_j174 at g1
          unfold Mod_layPacked_j272 at g2
          obtain ⟨b2, a1, a2⟩ := oi_bd g1
          obtain ⟨R2, a3, a4⟩ := oi_bd g2
          obtain ⟨c1, ⟨z, c2⟩, c3⟩ := lay_both hf w0 (by clear y1; omega) W (by clear y1; omega) a1 a3
          have cx : ((k + 1 : Nat) : Int) = (k : Int) + 1 := rfl
          obtain ⟨r1, ⟨z', r2⟩, r3⟩ := df_L hf hx hi hn h8 V F w0 w1 n n' (k + 1) (y + 1) b2 R2.1 R2.2 y1 (by clear y1; omega) c1 (by rw [c3, cx]; clear y1; omega) a2 a4
          refine ⟨r1, ⟨z', by rw [r2, c2]⟩, ?_⟩
          rw [c3, cx] at r3
          clear y1
          omega
        by_cases c3 : ki i = 3
        · have nm : ¬ VAL k i = (-9000000000000000000) := by
            rcases v1.2 c3 with e | e <;> rw [e] <;> decide
          rw [if_pos c3, if_pos rfl] at h1
          rw [if_neg nm] at h2
          have h2 := oe_gd h2
          rw [bd_s u2] at h2
          exact step _ h1 h2
        · rw [if_neg c3] at h1
          by_cases cv : VAL k i = (-9000000000000000000)
          · obtain ⟨m, m1, m2, _⟩ := most_v w0 w1
            rw [if_pos cv, if_neg (show ¬ (1 : Int32) = 0 by decide), bd_s m2] at h1
            rw [if_pos cv, bd_s m1] at h2
            exact step _ h1 h2
          · rw [if_neg cv, if_pos rfl] at h1
            rw [if_neg cv] at h2
            have h2 := oe_gd h2
            rw [bd_s u2] at h2
            exact step _ h1 h2
theorem apk_both {hb : Nat → Nat} {fu i N8 : Nat} {VAL : Nat → Nat → Int64} {va : Nat → Int64} {Fl : S_Fld} {Wr : S_Wri} {x x1 : Int32} {ki wd : Nat → Int32} {ba : Nat → Int64} {b b' : S_Bits} {s : S_Mo} {bi : Nat → Int32} {R : S_Mo × (Nat → Int32)} (hf : 12000 ≤ fu) (hx : x.toInt = (i : Int)) (hi : i < 100) (hn : x1.toInt = (N8 : Int)) (h8 : N8 ≤ 8) (V : RwR VAL va) (F : FV8 Fl VAL i N8 ki wd ba) (W : WrR hb b s bi) (hm : (Mo_many s).toInt + 294 ≤ 29400) (e1 : Wri_addPacked fu VAL Fl Wr x x1 b = some b') (e2 : Mod_layPacked fu va ki wd ba x x1 s bi = some R) : WrR hb b' R.1 R.2 ∧ (∃ z, R.1 = Mo_set_many s z) ∧ (Mo_many R.1).toInt ≤ (Mo_many s).toInt + 294 := by
  have k0 : (0 : Int32).toInt = 0 := by decide
  have k6 : (6 : Int32).toInt = 6 := by decide
  have nx : x.toNatClampNeg = i := by
    have := i_nat (a := x) (by omega)
    omega
  have F' := F
  obtain ⟨f1, f2, f3, f4, f5, f6, f7⟩ := F'
  obtain ⟨m, m1, m2, m3, m4, m5, m6⟩ := most_v (w := wd i) (by omega) f5.2
  have hm1 : 1 ≤ m.toInt := by
    have p := Nat.pow_le_pow_right (show 0 < 2 by decide) (show 1 ≤ (wd i).toInt.toNat by omega)
    have p : ((2 ^ 1 : Nat) : Int) ≤ ((2 ^ (wd i).toInt.toNat : Nat) : Int) := Int.ofNat_le.mpr p
    have e : ((2 ^ (wd i).toInt.toNat : Nat) : Int) = (2 : Int) ^ (wd i).toInt.toNat := Int.natCast_pow 2 _
    rw [e] at p
    have q : ((2 ^ 1 : Nat) : Int) = 2 := by decide
    rw [q] at p
    rw [m3]
    omega
  unfold Wri_addPacked at e1
  have e1 := oe_gd e1
  rw [nx, f2, bd_s m2] at e1
  unfold Mod_layPacked at e2
  have e2 := oe_gd e2
  rw [nx, bd_s m1] at e2
  obtain ⟨lo, hi_, lk, any, g1, g2, G⟩ := lg_L hx hi hn h8 V F m4 fu fu 0 0 m 0 0 0 (by decide) (Nat.zero_le _) ⟨by decide, by decide, Or.inl rfl, ⟨fun _ => k0, fun _ => rfl⟩, Or.inl ⟨by decide, rfl, rfl⟩⟩ e1 e2
  unfold Wri_addPacked_j80 at g1
  unfold Mod_layPacked_j136 at g2
  obtain ⟨w, a1, a2⟩ := oi_bd g1
  have a2 := oe_gd a2
  rw [nx, f2] at a2
  obtain ⟨b2, a3, a4⟩ := oi_bd a2
  obtain ⟨b3, a5, a6⟩ := oi_bd a4
  have g2 := oe_gd g2
  rw [nx] at g2
  obtain ⟨R1, r1, r2⟩ := oi_bd g2
  obtain ⟨c1, ⟨z1, c2⟩, c3⟩ := lay_both hf (by omega) (by omega) W (by omega) a3 r1
  obtain ⟨r3, w0, w1⟩ := spr_both hn hm1 m5 G a1 r2
  unfold Mod_layPacked_j202 at r3
  obtain ⟨R2, r4, r5⟩ := oi_bd r3
  obtain ⟨c4, ⟨z2, c5⟩, c6⟩ := lay_both hf (by decide) (by decide) c1 (by rw [c3, k6]; omega) a5 r4
  rw [c3, k6] at c6
  obtain ⟨c7, ⟨z3, c8⟩, c9⟩ := df_L hf hx hi hn h8 V F w0 w1 fu fu 0 0 b3 R2.1 R2.2 (by decide) (Nat.zero_le _) c4 (by rw [c6]; omega) a6 r5
  refine ⟨c7, ⟨z3, by rw [c8, c5, c2]⟩, ?_⟩
  rw [c6] at c9
  omega

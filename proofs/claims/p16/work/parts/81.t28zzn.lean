-- writing PACKED: one field
theorem raw_ok {Fl : S_Fld} {s : S_Mo} {ki wd : Nat → Int32} {ba : Nat → Int64} {x : Int32} {i : Nat} {v : Int64} (hx : x.toInt = (i : Int)) (hi : i < 100) (h1 : Fld_kinds Fl i = ki i) (h2 : Fld_widths Fl i = wd i) (h3 : Fld_references Fl i = ba i) (h4 : ki i = 3 → ba i = 0) (hw : 1 ≤ (wd i).toInt ∧ (wd i).toInt ≤ 32) (hb : BB (ba i)) (hv : okv (ki i) v) (hr : okr 1 (ki i) (wd i) (ba i) v) : ∃ u, Fld_rawOf Fl x v = some u ∧ Mod_raw s ki wd ba x v = some u ∧ Fld_isMissing Fl x u = some (if ki i = 3 then 0 else if v = (-9000000000000000000) then 1 else 0) ∧ ((ki i = 3 ∨ ¬ v = (-9000000000000000000)) → 0 ≤ u.toInt ∧ u.toInt ≤ 4294967294) := by
  obtain ⟨u, u1, u2⟩ := raw_both (s := s) hx hi h1 h2 h3 h4 hv
  obtain ⟨m, m1, m2, m3, m4, m5, m6⟩ := most_v (w := wd i) (by omega) hw.2
  have g : o_in x 100 = true := i_in.mpr (by omega)
  have g' : o_in x 101 = true := i_in.mpr (by omega)
  have n : x.toNatClampNeg = i := by
    have := i_nat (a := x) (by omega)
    omega
  have z0 : (0 : Int64).toInt = 0 := by decide
  have z1 : (1 : Int64).toInt = 1 := by decide
  refine ⟨u, u1, u2, ?_, ?_⟩
  · unfold Fld_isMissing
    rw [gd_t g, n, h1]
    by_cases c3 : ki i = 3
    · rw [if_pos c3, if_pos c3]
    · rw [if_neg c3, if_neg c3, gd_t g, h2, bd_s m2]
      unfold Mod_raw at u2
      rw [gd_t g', n, if_neg c3] at u2
      by_cases cv : v = (-9000000000000000000)
      · rw [if_pos cv, gd_t g', bd_s m1] at u2
        cases u2
        rw [if_pos rfl, if_pos cv]
      · rw [if_neg cv, gd_t g'] at u2
        cases u2
        have ne : ¬ v - ba i = m := by
          rcases hr with y | y | y | ⟨y1, m', y2, y3⟩
          · exact absurd rfl y
          · exact absurd y c3
          · exact absurd y cv
          · rw [m1] at y2
            cases y2
            intro e
            rw [e, i64_le, m6] at y3
            omega
        rw [if_neg ne, if_neg cv]
  · intro hc
    unfold Mod_raw at u2
    rw [gd_t g', n] at u2
    by_cases c3 : ki i = 3
    · rw [if_pos c3] at u2
      cases u2
      rcases hv.2 c3 with e | e
      · rw [e, z0]
        omega
      · rw [e, z1]
        omega
    · have cv : ¬ v = (-9000000000000000000) := by
        rcases hc with y | y
        · exact absurd y c3
        · exact y
      rw [if_neg c3, if_neg cv, gd_t g'] at u2
      cases u2
      rcases hr with y | y | y | ⟨y1, m', y2, y3⟩
      · exact absurd rfl y
      · exact absurd y c3
      · exact absurd y cv
      · rw [m1] at y2
        cases y2
        rw [i64_lt, z0] at y1
        rw [i64_le, m6] at y3
        omega
-- the least and the greatest
def LG (m : Int64) (lo hi : Int64) (lk : Int32) (any : Int32) (k : Nat) : Prop := 0 ≤ lk.toInt ∧ lk.toInt ≤ (k : Int) ∧ (any = 0 ∨ any = 1) ∧ (any = 0 ↔ lk.toInt = 0) ∧ ((lk.toInt = (k : Int) ∧ lo = m ∧ hi = 0) ∨ (lk.toInt < (k : Int) ∧ 0 ≤ lo.toInt ∧ lo.toInt ≤ hi.toInt ∧ hi.toInt ≤ 4294967294))
def FV8 (Fl : S_Fld) (VAL : Nat → Nat → Int64) (i N8 : Nat) (ki wd : Nat → Int32) (ba : Nat → Int64) : Prop := Fld_kinds Fl i = ki i ∧ Fld_widths Fl i = wd i ∧ Fld_references Fl i = ba i ∧ (ki i = 3 → ba i = 0) ∧ (1 ≤ (wd i).toInt ∧ (wd i).toInt ≤ 32) ∧ BB (ba i) ∧ ∀ j, j < N8 → okv (ki i) (VAL j i) ∧ okr 1 (ki i) (wd i) (ba i) (VAL j i)
set_option maxHeartbeats 8000000 in
theorem lg_L {fu i N8 : Nat} {VAL : Nat → Nat → Int64} {va : Nat → Int64} {Fl : S_Fld} {Wr : S_Wri} {x x1 : Int32} {b : S_Bits} {s : S_Mo} {bi : Nat → Int32} {ki wd : Nat → Int32} {ba : Nat → Int64} {m : Int64} {k20 : Int64 → Int64 → Int32 → Option S_Bits} {k19 : Int64 → Int64 → Int32 → Option (S_Mo × (Nat → Int32))} {b' : S_Bits} {R : S_Mo × (Nat → Int32)} (hx : x.toInt = (i : Int)) (hi : i < 100) (hn : x1.toInt = (N8 : Int)) (h8 : N8 ≤ 8) (V : RwR VAL va) (F : FV8 Fl VAL i N8 ki wd ba) (hm0 : 0 ≤ m.toInt) : ∀ (n n' k : Nat) (y : Int32) (lo hi_ : Int64) (lk any : Int32), y.toInt = (k : Int) → k ≤ N8 → LG m lo hi_ lk any k → Wri_addPacked_L20 fu VAL Fl Wr x x1 b k20 n lo hi_ any y = some b' → Mod_layPacked_L19 fu va ki wd ba x x1 s bi k19 n' lo hi_ lk y = some R → ∃ (lo' hi' : Int64) (lk' any' : Int32), k20 lo' hi' any' = some b' ∧ k19 lo' hi' lk' = some R ∧ LG m lo' hi' lk' any' N8
  | 0, n', k, y, lo, hi_, lk, any, hy, hk, G, h1, h2 => by
    rw [Wri_addPacked_L20] at h1
    cases h1
  | n + 1, 0, k, y, lo, hi_, lk, any, hy, hk, G, h1, h2 => by
    rw [Mod_layPacked_L19] at h2
    cases h2
  | n + 1, n' + 1, k, y, lo, hi_, lk, any, hy, hk, G, h1, h2 => by
    have k1 : (1 : Int32).toInt = 1 := by decide
    have k0 : (0 : Int32).toInt = 0 := by decide
    rw [Wri_addPacked_L20] at h1
    rw [Mod_layPacked_L19] at h2
    by_cases c : k = N8
    · have c1 : x1 ≤ y := by rw [i_le]; omega
      rw [if_pos c1] at h1 h2
      rw [c] at G
      exact ⟨lo, hi_, lk, any, h1, h2, G⟩
    · have c1 : ¬ x1 ≤ y := by rw [i_le]; omega
      have ny : y.toNatClampNeg = k := by
        have := i_nat (a := y) (by omega)
        omega
      have nx : x.toNatClampNeg = i := by
        have := i_nat (a := x) (by omega)
        omega
      have ix := (idx_k hy (by omega) hx hi).1
      have F' := F
      obtain ⟨f1, f2, f3, f4, f5, f6, f7⟩ := F'
      obtain ⟨v1, v2⟩ := f7 k (by omega)
      rw [if_neg c1, ny, nx] at h1
      have h1 := oe_gd (oe_gd h1)
      obtain ⟨u, u1, u2, u3, u4⟩ := raw_ok (s := s) hx hi f1 f2 f3 f4 f5 f6 v1 v2
      rw [bd_s u1, bd_s u3] at h1
      rw [if_neg c1, ix] at h2
      have h2 := oe_gd h2
      unfold o_lt at h2
      dsimp only at h2
      rw [← V k i (by omega) hi, bd_s u2] at h2
      have y1 : (y + 1).toInt = ((k + 1 : Nat) : Int) := by
        rw [i_add (a := y) (b := 1) (by omega) (by omega), hy, k1]
        rfl
      obtain ⟨G1, G2, G3, G4, G5⟩ := G
      have gx : o_in x 101 = true := i_in.mpr (by clear y1; omega)
      by_cases cm : ¬ ki i = 3 ∧ VAL k i = (-9000000000000000000)
      · -- MISSING
        rw [if_neg cm.1, if_pos cm.2, if_neg (show ¬ (1 : Int32) = 0 by decide)] at h1
        unfold Wri_addPacked_j74 at h1
        rw [if_pos cm.2, gd_t gx, nx, if_neg cm.1] at h2
        unfold Mod_layPacked_j72 at h2
        rw [if_neg (show ¬ (1 : Int32) = 0 by decide)] at h2
        unfold Mod_layPacked_j86 at h2
        rw [if_neg (show ¬ (1 : Int32) = 0 by decide)] at h2
        unfold Mod_layPacked_j106 Mod_layPacked_j107 at h2
        rw [if_neg (show ¬ (1 : Int32) = 0 by decide)] at h2
        unfold Mod_layPacked_j126 Mod_layPacked_j128 at h2
        have l1 : (lk + 1).toInt = lk.toInt + 1 := by
          clear y1
          rw [i_add (a := lk) (b := 1) (by omega) (by omega), k1]
        refine lg_L hx hi hn h8 V F hm0 n n' (k + 1) (y + 1) lo hi_ (lk + 1) 1 y1 (by clear y1 l1; omega) ⟨by rw [l1]; clear y1 l1; omega, by rw [l1]; clear y1 l1; omega, Or.inr rfl, ⟨fun e => absurd e (by decide), fun e => by rw [l1] at e; clear y1 l1; omega⟩, ?_⟩ h1 h2
        rcases G5 with ⟨a, b, c⟩ | ⟨a, b⟩
        · exact Or.inl ⟨by rw [l1]; clear y1 l1; omega, b, c⟩
        · exact Or.inr ⟨by rw [l1]; clear y1 l1; omega, b⟩
      · have nm : ki i = 3 ∨ ¬ VAL k i = (-9000000000000000000) := by
          by_cases z : ki i = 3
          · exact Or.inl z
          · exact Or.inr fun e => cm ⟨z, e⟩
        obtain ⟨w1, w2⟩ := u4 nm
        have e0 : (if ki i = 3 then (0 : Int32) else if VAL k i = (-9000000000000000000) then 1 else 0) = 0 := by
          by_cases z : ki i = 3
          · rw [if_pos z]
          · rw [if_neg z, if_neg (fun e => cm ⟨z, e⟩)]
        rw [e0, if_pos rfl] at h1
        unfold Wri_addPacked_j74 at h1
        have l0 : lk + 0 = lk := i_eq.mpr (by
          clear y1
          rw [i_add (a := lk) (b := 0) (by omega) (by omega), k0]
          omega)
        have fin : Mod_layPacked_j72 fu va ki wd ba (fun v0 v1 v2 v3 => Mod_layPacked_L19 fu va ki wd ba x x1 s bi k19 n' v0 v1 v2 v3) k19 x x1 s bi lo hi_ lk y u 0 = some R → Mod_layPacked_L19 fu va ki wd ba x x1 s bi k19 n' (if u < lo then u else lo) (if u < hi_ then hi_ else u) lk (y + 1) = some R := by
          intro g
          unfold Mod_layPacked_j72 at g
          rw [if_pos rfl] at g
          unfold Mod_layPacked_j86 at g
          rw [if_pos rfl, l0] at g
          have eh : (if u ≤ hi_ then hi_ else u) = (if u < hi_ then hi_ else u) := by
            by_cases z : u < hi_
            · rw [if_pos z, if_pos (by rw [i64_lt] at z; rw [i64_le]; clear y1; omega)]
            · rw [if_neg z]
              by_cases z2 : u ≤ hi_
              · rw [if_pos z2]
                rw [i64_lt] at z
                rw [i64_le] at z2
                exact i64_eq.mpr (by clear y1; omega)
              · rw [if_neg z2]
          have j107 : ∀ t0 : Int64, Mod_layPacked_j107 fu va ki wd ba (fun v0 v1 v2 v3 => Mod_layPacked_L19 fu va ki wd ba x x1 s bi k19 n' v0 v1 v2 v3) k19 x x1 s bi hi_ lk y u 0 t0 = some R → Mod_layPacked_L19 fu va ki wd ba x x1 s bi k19 n' t0 (if u < hi_ then hi_ else u) lk (y + 1) = some R := by
            intro t0 g1
            unfold Mod_layPacked_j107 at g1
            rw [if_pos rfl] at g1
            rw [← eh]
            by_cases z2 : u ≤ hi_
            · rw [if_pos z2] at g1 ⊢
              exact g1
            · rw [if_neg z2] at g1 ⊢
              exact g1
          by_cases z : lo ≤ u
          · rw [if_pos z] at g
            have z' : ¬ u < lo := by rw [i64_le] at z; rw [i64_lt]; clear y1; omega
            rw [if_neg z']
            exact j107 lo g
          · rw [if_neg z] at g
            have z' : u < lo := by rw [i64_le] at z; rw [i64_lt]; clear y1; omega
            rw [if_pos z']
            exact j107 u g
        have h2' : Mod_layPacked_L19 fu va ki wd ba x x1 s bi k19 n' (if u < lo then u else lo) (if u < hi_ then hi_ else u) lk (y + 1) = some R := by
          by_cases z : VAL k i = (-9000000000000000000)
          · rw [if_pos z, gd_t gx, nx, if_pos (by rcases nm with q | q; exact q; exact absurd z q)] at h2
            exact fin h2
          · rw [if_neg z] at h2
            exact fin h2
        refine lg_L hx hi hn h8 V F hm0 n n' (k + 1) (y + 1) _ _ lk any y1 (by clear y1; omega) ⟨G1, by clear y1; omega, G3, G4, Or.inr ⟨by clear y1; omega, ?_⟩⟩ h1 h2'
        have cl : (if u < lo then u else lo).toInt ≤ (if u < hi_ then hi_ else u).toInt ∧ 0 ≤ (if u < lo then u else lo).toInt ∧ (if u < hi_ then hi_ else u).toInt ≤ 4294967294 := by
          rcases G5 with ⟨a, b, c⟩ | ⟨a, b, c, d⟩
          · have zh : hi_.toInt = 0 := by rw [c]; decide
            have zl : lo.toInt = m.toInt := by rw [b]
            by_cases z1 : u < lo <;> by_cases z2 : u < hi_ <;> rw [i64_lt] at z1 z2
            · clear y1
              omega
            · rw [if_pos (i64_lt.mpr z1), if_neg (fun e => z2 (i64_lt.mp e))]
              clear y1
              omega
            · clear y1
              omega
            · rw [if_neg (fun e => z1 (i64_lt.mp e)), if_neg (fun e => z2 (i64_lt.mp e))]
              clear y1
              omega
          · by_cases z1 : u < lo <;> by_cases z2 : u < hi_
            · rw [if_pos z1, if_pos z2]
              rw [i64_lt] at z1 z2
              clear y1
              omega
            · rw [if_pos z1, if_neg z2]
              rw [i64_lt] at z1 z2
              clear y1
              omega
            · rw [if_neg z1, if_pos z2]
              rw [i64_lt] at z1 z2
              clear y1
              omega
            · rw [if_neg z1, if_neg z2]
              rw [i64_lt] at z1 z2
              clear y1
              omega
        exact ⟨cl.2.1, cl.1, cl.2.2⟩

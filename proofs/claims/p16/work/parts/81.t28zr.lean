-- reading PACKED: one field for all subsets
def RwR (RR : Nat → Nat → Int64) (rd : Nat → Int64) : Prop := ∀ k j : Nat, k < 8 → j < 100 → RR k j = rd (100 * k + j)
theorem one_L {fu i : Nat} {Fl : S_Fld} {Re : S_Rea} {ki wd : Nat → Int32} {ba : Nat → Int64} {bi : Nat → Int32} {x : Int32} {v0 u : Int64} {ke : (Nat → Nat → Int64) → Option (Int32 × (Nat → Nat → Int64))} {s : S_Mo} {sub : Nat} (hx : x.toInt = (i : Int)) (hi : i < 100) (h8 : sub ≤ 8) (hr : (Rea_subsets Re).toInt = (sub : Int)) (hs : (Mo_subsets s).toInt = (sub : Int)) (hz : Mo_fault s = 0) (e1 : Fld_valueOf Fl x v0 = some u) (e2 : Mod_meant s ki wd ba x v0 = some u) : ∀ (n n' kk : Nat) (y : Int32) (RR : Nat → Nat → Int64) (rd : Nat → Int64), y.toInt = (kk : Int) → kk ≤ sub → sub - kk < n → sub - kk < n' → RwR RR rd → ∃ (RR' : Nat → Nat → Int64) (rd' : Nat → Int64), Rea_takeOneForAll_L3 fu Fl Re x v0 ke n y RR = ke RR' ∧ Mod_takeAll_L107 fu ki wd ba bi x v0 0 n' y s rd = some (s, rd') ∧ RwR RR' rd'
  | 0, n', kk, y, RR, rd, hy, hk, hn, hn', R => absurd hn (by omega)
  | n + 1, 0, kk, y, RR, rd, hy, hk, hn, hn', R => absurd hn' (by omega)
  | n + 1, n' + 1, kk, y, RR, rd, hy, hk, hn, hn', R => by
    have k1 : (1 : Int32).toInt = 1 := by decide
    by_cases c : kk = sub
    · have c1 : Rea_subsets Re ≤ y := by rw [i_le]; omega
      have c2 : Mo_subsets s ≤ y := by rw [i_le]; omega
      refine ⟨RR, rd, ?_, ?_, R⟩
      · rw [Rea_takeOneForAll_L3, if_pos c1]
      · rw [Mod_takeAll_L107, if_pos c2]
    · have c1 : ¬ Rea_subsets Re ≤ y := by rw [i_le]; omega
      have c2 : ¬ Mo_subsets s ≤ y := by rw [i_le]; omega
      have g8 : o_in y 8 = true := i_in.mpr (by omega)
      have g : o_in x 100 = true := i_in.mpr (by omega)
      have ny : y.toNatClampNeg = kk := by
        have := i_nat (a := y) (by omega)
        omega
      have nx : x.toNatClampNeg = i := by
        have := i_nat (a := x) (by omega)
        omega
      have ix := idx_k hy (by omega) hx hi
      have y1 : (y + 1).toInt = ((kk + 1 : Nat) : Int) := by
        rw [i_add (a := y) (b := 1) (by omega) (by omega), hy, k1]
        rfl
      obtain ⟨RR', rd', g1, g2, g3⟩ := one_L (fu := fu) (bi := bi) (ke := ke) hx hi h8 hr hs hz e1 e2 n n' (kk + 1) (y + 1) (gr_set RR kk (vp_updL (RR kk) i u)) (vp_updL rd (100 * kk + i) u) y1 (by clear y1; omega) (by clear y1; omega) (by clear y1; omega) (rows_up hi R)
      refine ⟨RR', rd', ?_, ?_, g3⟩
      · rw [Rea_takeOneForAll_L3, if_neg c1, gd_t g8, bd_s e1, gd_t g, ny, nx]
        exact g1
      · rw [Mod_takeAll_L107, if_neg c2, if_pos hz, if_pos rfl]
        unfold Mod_takeAll_j139
        rw [if_pos (by decide)]
        unfold Mod_takeAll_j161 Mod_takeAll_j162
        rw [if_pos (by decide)]
        unfold Mod_takeAll_j207
        rw [if_pos rfl, Int64.add_zero, bd_s e2]
        unfold Mod_takeAll_j238 o_lt
        rw [gd_t ix.2, ix.1]
        exact g2
theorem dif_L {fu i : Nat} {tp : S_Bits} {Fl : S_Fld} {ki wd : Nat → Int32} {ba : Nat → Int64} {bi : Nat → Int32} {x x4 : Int32} {v0 : Int64} {sub : Nat} {r : S_Mo × (Nat → Int64)} (hf : 12000 ≤ fu) (h4 : 0 < x4.toInt) (h33 : x4.toInt ≤ 33) (hx : x.toInt = (i : Int)) (hi : i < 100) (h8 : sub ≤ 8) (K1 : Fld_kinds Fl i = ki i) (K2 : Fld_widths Fl i = wd i) (K3 : Fld_references Fl i = ba i) (n3 : ¬ ki i = 3) (hw : 0 ≤ (wd i).toInt ∧ (wd i).toInt ≤ 32) : ∀ (n n' kk : Nat) (y : Int32) (Re : S_Rea) (s : S_Mo) (RR : Nat → Nat → Int64) (rd : Nat → Int64), y.toInt = (kk : Int) → kk ≤ sub → sub - kk < n → Mo_fault s = 0 → (Mo_subsets s).toInt = (sub : Int) → RdR tp bi Re s RR rd → (Mo_at s).toInt + x4.toInt * ((sub : Int) - (kk : Int)) ≤ (Mo_many s).toInt → Mod_takeAll_L107 fu ki wd ba bi x v0 x4 n' y s rd = some r → ∃ (b : Int32) (Re' : S_Rea) (RR' : Nat → Nat → Int64), Rea_takeDifferences_L3 fu Fl tp x v0 x4 n y Re RR = some (b, Re', RR') ∧ Rea_fault Re' = Rea_fault Re ∧ Rea_subsets Re' = Rea_subsets Re ∧ ((b = 1 ∧ (∃ z, r.1 = Mo_set_at s z) ∧ RdR tp bi Re' r.1 RR' r.2) ∨ (b = 0 ∧ ¬ Mo_fault r.1 = 0))
  | 0, n', kk, y, Re, s, RR, rd, hy, hk, hn, hz, hs, R, hN, h => absurd hn (by omega)
  | n + 1, 0, kk, y, Re, s, RR, rd, hy, hk, hn, hz, hs, R, hN, h => by
    rw [Mod_takeAll_L107] at h
    cases h
  | n + 1, n' + 1, kk, y, Re, s, RR, rd, hy, hk, hn, hz, hs, R, hN, h => by
    have k0 : (0 : Int32).toInt = 0 := by decide
    have k1 : (1 : Int32).toInt = 1 := by decide
    have n4 : ¬ x4 = 0 := by rw [i_eq]; omega
    have hr : (Rea_subsets Re).toInt = (sub : Int) := R.2.2.2.2.2.2.1.trans hs
    by_cases ck : kk = sub
    · have c1 : Rea_subsets Re ≤ y := by rw [i_le]; omega
      have c2 : Mo_subsets s ≤ y := by rw [i_le]; omega
      rw [Mod_takeAll_L107, if_pos c2] at h
      cases h
      refine ⟨1, Re, RR, ?_, rfl, rfl, Or.inl ⟨rfl, ⟨Mo_at s, rfl⟩, R⟩⟩
      rw [Rea_takeDifferences_L3, if_pos c1]
    · have c1 : ¬ Rea_subsets Re ≤ y := by rw [i_le]; omega
      have c2 : ¬ Mo_subsets s ≤ y := by rw [i_le]; omega
      have g8 : o_in y 8 = true := i_in.mpr (by omega)
      have g : o_in x 100 = true := i_in.mpr (by omega)
      have ny : y.toNatClampNeg = kk := by
        have := i_nat (a := y) (by omega)
        omega
      have nx : x.toNatClampNeg = i := by
        have := i_nat (a := x) (by omega)
        omega
      have eN : x4.toInt * ((sub : Int) - (kk : Int)) = x4.toInt + x4.toInt * ((sub : Int) - ((kk + 1 : Nat) : Int)) := by
        have e : (sub : Int) - (kk : Int) = ((sub : Int) - ((kk + 1 : Nat) : Int)) + 1 := by omega
        rw [e, Int.mul_add, Int.mul_one, Int.add_comm]
      have eP : 0 ≤ x4.toInt * ((sub : Int) - ((kk + 1 : Nat) : Int)) := Int.mul_nonneg (by omega) (by omega)
      rw [eN] at hN
      obtain ⟨N, hNe⟩ : ∃ N, N = x4.toInt * ((sub : Int) - ((kk + 1 : Nat) : Int)) := ⟨_, rfl⟩
      rw [← hNe] at hN eP
      have y1 : (y + 1).toInt = ((kk + 1 : Nat) : Int) := by
        rw [i_add (a := y) (b := 1) (by omega) (by omega), hy, k1]
        rfl
      obtain ⟨q1, q2, q3, q4, q5, q6, q7, q8⟩ := R
      obtain ⟨p, hp⟩ : ∃ p : Nat, (Mo_at s).toInt = (p : Int) := ⟨(Mo_at s).toInt.toNat, by clear y1; omega⟩
      obtain ⟨d, z, t1, t2, t3, t4⟩ := take_both (f := x) (tp := tp) (Re := Re) (w := x4) hf q5 q6 hp (by rw [q1, hp]) ⟨by clear y1; omega, by clear y1; omega⟩ (by clear y1; omega)
      rw [Mod_takeAll_L107, if_neg c2, if_pos hz, if_neg n4, bd_s t1] at h
      dsimp only at h
      obtain ⟨s', rd', gk, hc⟩ := j139_x h4 hx hi hy (by clear y1; omega) h
      have ea : X_allOnes x4 = some ((1 <<< (x4.toInt64 &&& 63)) - 1) := rfl
      have em : Mod_most x4 = some ((1 <<< (x4.toInt64 &&& 63)) - 1) := rfl
      have eaw : X_allOnes (wd i) = some ((1 <<< ((wd i).toInt64 &&& 63)) - 1) := rfl
      have emw : Mod_most (wd i) = some ((1 <<< ((wd i).toInt64 &&& 63)) - 1) := rfl
      have lm := lt_most hw.1 hw.2 (v0 + d)
      have Rn : ∀ u : Int64, RdR tp bi (Rea_set_at Re (Rea_at Re + x4)) (Mo_set_at s z) (gr_set RR kk (vp_updL (RR kk) i u)) (vp_updL rd (100 * kk + i) u) := by
        intro u
        refine ⟨?_, q2, ?_, ?_, q5, q6, q7, rows_up hi q8⟩
        · show (Rea_at Re + x4).toInt = 32 + z.toInt
          rw [t4, t2]
        · show 0 ≤ z.toInt
          rw [t2]
          clear t4 y1
          omega
        · show z.toInt ≤ (Mo_many s).toInt
          rw [t2]
          clear t4 y1
          omega
      have rcx : ∀ u : Int64, Mod_takeAll_L107 fu ki wd ba bi x v0 x4 n' (y + 1) (Mo_set_at s z) (vp_updL rd (100 * kk + i) u) = some r → ∃ (b : Int32) (Re' : S_Rea) (RR' : Nat → Nat → Int64), Rea_takeDifferences_L3 fu Fl tp x v0 x4 n (y + 1) (Rea_set_at Re (Rea_at Re + x4)) (gr_set RR kk (vp_updL (RR kk) i u)) = some (b, Re', RR') ∧ Rea_fault Re' = Rea_fault Re ∧ Rea_subsets Re' = Rea_subsets Re ∧ ((b = 1 ∧ (∃ z, r.1 = Mo_set_at s z) ∧ RdR tp bi Re' r.1 RR' r.2) ∨ (b = 0 ∧ ¬ Mo_fault r.1 = 0)) := by
        intro u g0
        obtain ⟨b, Re', RR', o1, o2, o3, o4⟩ := dif_L (tp := tp) (Fl := Fl) hf h4 h33 hx hi h8 K1 K2 K3 n3 hw n n' (kk + 1) (y + 1) (Rea_set_at Re (Rea_at Re + x4)) (Mo_set_at s z) (gr_set RR kk (vp_updL (RR kk) i u)) (vp_updL rd (100 * kk + i) u) y1 (by clear y1 t4; omega) (by clear y1 t4; omega) hz hs (Rn u) (by
          show z.toInt + x4.toInt * ((sub : Int) - ((kk + 1 : Nat) : Int)) ≤ (Mo_many s).toInt
          rw [← hNe, t2]
          clear y1 t4
          omega) g0
        refine ⟨b, Re', RR', o1, o2, o3, ?_⟩
        rcases o4 with ⟨o5, ⟨z', o6⟩, o7⟩ | o5
        · exact Or.inl ⟨o5, ⟨z', o6⟩, o7⟩
        · exact Or.inr o5
      rw [Rea_takeDifferences_L3, if_neg c1, bd_s t3]
      dsimp only
      rw [bd_s ea]
      rcases hc with ⟨w1, _⟩ | ⟨w1, w2, w3, w4⟩ | ⟨w1, w2, w3, w4⟩ | ⟨w1, w2, w3, w4, u, w5, w6⟩
      · exact absurd hz w1
      · -- MISSING
        have ed : d = (1 <<< (x4.toInt64 &&& 63)) - 1 := (Option.some.inj (em.symm.trans w2)).symm
        rw [w3, w4] at gk
        rw [if_pos ed]
        unfold Rea_takeDifferences_j36
        rw [if_neg (by decide)]
        unfold Rea_takeDifferences_j62
        rw [gd_t g8, if_neg (by decide)]
        unfold Rea_takeDifferences_j92 o_lt
        rw [gd_t g, ny, nx]
        exact rcx _ gk
      · have ed : ¬ d = (1 <<< (x4.toInt64 &&& 63)) - 1 := fun e => w2 (by rw [em, e])
        rw [if_neg ed]
        unfold Rea_takeDifferences_j36
        rw [if_pos rfl, gd_t g, nx, K2, bd_s eaw, if_neg (fun e => w3 _ emw (lm.1.1 e))]
        refine ⟨0, _, RR, rfl, rfl, rfl, Or.inr ⟨rfl, ?_⟩⟩
        rw [ta_f w4 gk]
        exact w4
      · have ed : ¬ d = (1 <<< (x4.toInt64 &&& 63)) - 1 := fun e => w2 (by rw [em, e])
        obtain ⟨m, hm1, hm2⟩ := w3
        rw [emw] at hm1
        cases hm1
        have g1 : o_in x 101 = true := i_in.mpr (by clear y1 t4; omega)
        have eu : u = ba i + v0 + d := by
          unfold Mod_meant at w5
          rw [gd_t g1, nx, if_neg n3, gd_t g1, bd_s emw] at w5
          have nm : ¬ v0 + d = (1 <<< ((wd i).toInt64 &&& 63)) - 1 := by
            intro e
            rw [e] at hm2
            exact lm.2 hm2
          rw [if_neg nm, gd_t g1] at w5
          have w5 := Option.some.inj w5
          rw [← w5, Int64.add_comm, Int64.add_assoc]
        rw [w4, w6, eu] at gk
        rw [if_neg ed]
        unfold Rea_takeDifferences_j36
        rw [if_pos rfl, gd_t g, nx, K2, bd_s eaw, if_pos (lm.1.2 hm2)]
        unfold Rea_takeDifferences_j62
        rw [gd_t g8, if_pos rfl, gd_t g, nx, K3]
        unfold Rea_takeDifferences_j92 o_lt
        rw [gd_t g, ny, nx]
        exact rcx _ gk

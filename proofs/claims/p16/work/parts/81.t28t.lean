-- the repetition, on both sides
theorem rep_L {F : Nat → Int32} {Z : Nat → Nat} {D B : Nat → Int32} {sz fu : Nat} {s : S_Mo} {li ne en be lf tu : Nat → Int32} {L : S_Lps} : ∀ (o a n : Nat) (x : Int32), St F Z D B sz li ne en be lf tu L o a → (Lps_open L).toInt = (rn tu (o + 1) : Int) → x.toInt = (o : Int) → o + 1 < n → ∃ q, Mod_repetition_L7 fu s tu (fun y1 => Mod_repetition_j26 fu s tu y1) n x = some q ∧ Lps_repetition L = some q
  | _, _, 0, _, _, _, _, h => absurd h (by omega)
  | 0, a, n + 1, x, H, hL, hx, hn => by
    have k0 : (0 : Int32).toInt = 0 := by decide
    have km : ((-1) : Int32).toInt = -1 := by decide
    obtain ⟨_, H2, _⟩ := H
    rw [rn_s H2] at hL
    have lo : Lps_open L = 0 := i_eq.mpr (by rw [hL, k0]; rfl)
    have nx : ¬ x < 0 := by rw [i_lt]; omega
    have g : o_in x 90 = true := i_in.mpr (by omega)
    have nn : x.toNatClampNeg = 0 := by
      have := i_nat (a := x) (by omega)
      omega
    have nt : ¬ (0 : Int32) ≤ tu 0 := by
      rw [i_lt] at H2
      rw [i_le]
      omega
    obtain ⟨n, rfl⟩ : ∃ m, n = m + 1 := ⟨n - 1, by omega⟩
    have ex : x + (-1) = (-1) := i_eq.mpr (by
      rw [i_add (a := x) (b := -1) (by omega) (by omega), hx, km]
      rfl)
    have nm : ((-1) : Int32) < 0 := by decide
    refine ⟨(-1), ?_, ?_⟩
    · rw [Mod_repetition_L7, if_neg nx, gd_t g, nn, if_neg nt, ex, Mod_repetition_L7, if_pos nm]
      rfl
    · unfold Lps_repetition
      rw [if_pos lo]
  | o + 1, a, n + 1, x, H, hL, hx, hn => by
    have k0 : (0 : Int32).toInt = 0 := by decide
    have k1 : (1 : Int32).toInt = 1 := by decide
    have km : ((-1) : Int32).toInt = -1 := by decide
    have t0 := St_t0 (o + 1) a H
    obtain ⟨H0, E, _, H2, H3⟩ := H
    have nx : ¬ x < 0 := by rw [i_lt]; omega
    have g : o_in x 90 = true := i_in.mpr (by omega)
    have nn : x.toNatClampNeg = o + 1 := by
      have := i_nat (a := x) (by omega)
      omega
    rcases H2 with ⟨q1, _⟩ | ⟨q1, _, _, S, m, _, _, _, d4, _⟩
    · have nt : ¬ (0 : Int32) ≤ tu (o + 1) := by
        rw [i_lt] at q1
        rw [i_le]
        omega
      rw [rn_s q1] at hL
      have ex : (x + (-1)).toInt = (o : Int) := by
        rw [i_add (a := x) (b := -1) (by omega) (by omega), hx, km]
        omega
      obtain ⟨q, e1, e2⟩ := rep_L (fu := fu) (s := s) o E n (x + (-1)) H3 hL ex (by clear ex; omega)
      refine ⟨q, ?_, e2⟩
      rw [Mod_repetition_L7, if_neg nx, gd_t g, nn, if_neg nt]
      exact e1
    · have ht : (0 : Int32) ≤ tu (o + 1) := by
        rw [i_lt] at q1
        rw [i_le]
        omega
      have hx0 : (0 : Int32) ≤ x := by rw [i_le]; omega
      rw [rn_r q1] at hL
      have rl := rn_le t0.1 o
      refine ⟨tu (o + 1), ?_, ?_⟩
      · rw [Mod_repetition_L7, if_neg nx, gd_t g, nn, if_pos ht]
        show Mod_repetition_j26 fu s tu x = _
        unfold Mod_repetition_j26
        rw [if_pos hx0, gd_t g, nn]
      · unfold Lps_repetition
        have nl : ¬ Lps_open L = 0 := by rw [i_eq]; omega
        have el : (Lps_open L - 1).toInt = ((rn tu (o + 1) : Nat) : Int) := by
          rw [i_sub (a := Lps_open L) (b := 1) (by omega) (by omega), hL, k1]
          omega
        have gl : o_in (Lps_open L - 1) 64 = true := i_in.mpr (by rw [el]; clear el; omega)
        have nk : (Lps_open L - 1).toNatClampNeg = rn tu (o + 1) := by
          have := i_nat (a := Lps_open L - 1) (by rw [el]; clear el; omega)
          rw [el] at this
          clear el
          omega
        rw [if_neg nl, gd_t gl, nk]
        exact congrArg some (i_eq.mpr d4)
theorem rep_both {F : Nat → Int32} {Z : Nat → Nat} {D B : Nat → Int32} {sz fu o a : Nat} {s : S_Mo} {li ne en be lf tu : Nat → Int32} {L : S_Lps} (hf : 12000 ≤ fu) (ho : (Mo_open s).toInt = (o : Int) + 1) (H : St F Z D B sz li ne en be lf tu L o a) (hL : (Lps_open L).toInt = (rn tu (o + 1) : Int)) : ∃ q, Mod_repetition fu s tu = some q ∧ Lps_repetition L = some q := by
  have k1 : (1 : Int32).toInt = 1 := by decide
  have t0 := St_t0 o a H
  have ex : (Mo_open s - 1).toInt = (o : Int) := by
    rw [i_sub (a := Mo_open s) (b := 1) (by omega) (by omega), ho, k1]
    omega
  unfold Mod_repetition
  exact rep_L o a fu (Mo_open s - 1) H hL ex (by clear ex; omega)
-- the fields, on both sides
def BB (x : Int64) : Prop := -4000000000000000000 ≤ x.toInt ∧ x.toInt ≤ 4000000000000000000
def Rfb (rf : Nat → Int32) : Prop := ∀ j : Nat, -1000000000 ≤ (rf j).toInt ∧ (rf j).toInt ≤ 1000000000
theorem BB_0 : BB 0 := ⟨by decide, by decide⟩
theorem l_bm {x : Int} (h1 : -9223372036854775808 ≤ x) (h2 : x < 9223372036854775808) : x.bmod (2 ^ 64) = x := by
  rw [Int.bmod_eq_emod]
  split <;> omega
theorem BB_32 {x : Int32} (h : -1000000000 ≤ x.toInt ∧ x.toInt ≤ 1000000000) : BB x.toInt64 := by
  have e : x.toInt64.toInt = x.toInt := Int32.toInt_toInt64 x
  unfold BB
  rw [e]
  omega
theorem sh1_k : ∀ k : Fin 32, ((1 : Int64) <<< ((Int32.ofNat k.val).toInt64 &&& 63)).toInt = 2 ^ k.val := by decide +kernel
theorem BB_sh {x e : Int32} (h : -1000000000 ≤ x.toInt ∧ x.toInt ≤ 1000000000) (h0 : 0 ≤ e.toInt) (h1 : e.toInt ≤ 31) (hm : ∀ a b : Int64, a * (1 <<< b) = a <<< b) : BB (x.toInt64 <<< (e.toInt64 &&& 63)) := by
  have ex : x.toInt64.toInt = x.toInt := Int32.toInt_toInt64 x
  obtain ⟨k, hk⟩ : ∃ k : Nat, e.toInt = (k : Int) := ⟨e.toInt.toNat, by omega⟩
  have ee : e = Int32.ofNat k := i_eq.mpr (by rw [hk, i_of (by omega)])
  have e1 : ((1 : Int64) <<< (e.toInt64 &&& 63)).toInt = 2 ^ k := by
    rw [ee]
    exact sh1_k ⟨k, by omega⟩
  have p0 : (0 : Int) ≤ 2 ^ k := Int.le_of_lt (Int.pow_pos (by decide))
  have p1 : (2 : Int) ^ k ≤ 2147483648 := by
    have := Nat.pow_le_pow_right (show 0 < 2 by decide) (show k ≤ 31 by omega)
    have c : ((2 ^ k : Nat) : Int) ≤ ((2 ^ 31 : Nat) : Int) := by exact_mod_cast this
    have e2 : ((2 ^ k : Nat) : Int) = (2 : Int) ^ k := by exact Int.natCast_pow 2 k
    rw [e2] at c
    exact c
  obtain ⟨Q, hQ⟩ : ∃ Q : Int, Q = 2 ^ k := ⟨_, rfl⟩
  rw [← hQ] at e1 p0 p1
  have b1 : x.toInt * Q ≤ 1000000000 * 2147483648 := by
    have a1 : x.toInt * Q ≤ 1000000000 * Q := Int.mul_le_mul_of_nonneg_right h.2 p0
    omega
  have b2 : -(1000000000 * 2147483648) ≤ x.toInt * Q := by
    have a1 : -1000000000 * Q ≤ x.toInt * Q := Int.mul_le_mul_of_nonneg_right h.1 p0
    omega
  unfold BB
  rw [← hm, Int64.toInt_mul, ex, e1, l_bm (by omega) (by omega)]
  omega
def FdR (Fl : S_Fld) (s : S_Mo) (ki co wd sca lk rp : Nat → Int32) (ba : Nat → Int64) : Prop := Fld_count Fl = Mo_fields s ∧ 0 ≤ (Mo_fields s).toInt ∧ (Mo_fields s).toInt ≤ 100 ∧ ∀ i : Nat, (i : Int) < (Mo_fields s).toInt → Fld_kinds Fl i = ki i ∧ Fld_codes Fl i = co i ∧ Fld_widths Fl i = wd i ∧ Fld_scales Fl i = sca i ∧ Fld_references Fl i = ba i ∧ Fld_targets Fl i = lk i ∧ Fld_repetitions Fl i = rp i ∧ (ki i = 3 → ba i = 0) ∧ BB (ba i) ∧ 1 ≤ (wd i).toInt
def gvF (Fl : S_Fld) (i : Nat) (a0 a1 a2 a3 : Int32) (a4 : Int64) (a5 q : Int32) : S_Fld := Fld_set_count (Fld_put_repetitions (Fld_put_targets (Fld_put_references (Fld_put_scales (Fld_put_widths (Fld_put_codes (Fld_put_kinds Fl i a0) i a1) i a2) i a3) i a4) i a5) i q) (Fld_count Fl + 1)
def gvW (W : S_Walk) (a0 c : Int32) : S_Walk := if a0 = 0 then Walk_set_elementCount (Walk_put_elements W (Walk_elementCount W).toNatClampNeg c) (Walk_elementCount W + 1) else W
theorem give_eq {i : Nat} {L : S_Lps} {a0 a1 a2 a3 a5 q : Int32} {a4 : Int64} {W : S_Walk} {Fl : S_Fld} (hi : (Fld_count Fl).toInt = (i : Int)) (h100 : i < 100) (hq : Lps_repetition L = some q) (he : o_in (Walk_elementCount W) 100 = true) : Walk_give L a0 a1 a2 a3 a4 a5 W Fl = some (gvW W a0 (Fld_count Fl), gvF Fl i a0 a1 a2 a3 a4 a5 q) := by
  have kh : (100 : Int32).toInt = 100 := by decide
  have c : Fld_count Fl < 100 := by rw [i_lt]; omega
  have g : o_in (Fld_count Fl) 100 = true := i_in.mpr (by omega)
  have n : (Fld_count Fl).toNatClampNeg = i := by
    have := i_nat (a := Fld_count Fl) (by omega)
    omega
  unfold Walk_give o_lt
  rw [if_pos c, gd_t g]
  show o_gd (o_in (Fld_count Fl) 100) _ = _
  rw [gd_t g]
  show o_gd (o_in (Fld_count Fl) 100) _ = _
  rw [gd_t g]
  show o_gd (o_in (Fld_count Fl) 100) _ = _
  rw [gd_t g]
  show o_gd (o_in (Fld_count Fl) 100) _ = _
  rw [gd_t g]
  show o_gd (o_in (Fld_count Fl) 100) _ = _
  rw [gd_t g]
  show o_bd (Lps_repetition L) _ = _
  rw [bd_s hq]
  show o_gd (o_in (Fld_count Fl) 100) _ = _
  rw [gd_t g]
  show (if a0 = 0 then o_gd (o_in (Walk_elementCount W) 100) (some (Walk_set_elementCount (Walk_put_elements W (Walk_elementCount W).toNatClampNeg (Fld_count Fl)) (Walk_elementCount W + 1), gvF Fl (Fld_count Fl).toNatClampNeg a0 a1 a2 a3 a4 a5 q)) else some (W, gvF Fl (Fld_count Fl).toNatClampNeg a0 a1 a2 a3 a4 a5 q)) = _
  rw [n, gd_t he]
  unfold gvW
  by_cases c0 : a0 = 0
  · rw [if_pos c0, if_pos c0]
  · rw [if_neg c0, if_neg c0]
theorem give_f {L : S_Lps} {a0 a1 a2 a3 a5 : Int32} {a4 : Int64} {W : S_Walk} {Fl : S_Fld} (hi : 100 ≤ (Fld_count Fl).toInt) : ∃ W', Walk_give L a0 a1 a2 a3 a4 a5 W Fl = some (W', Fl) ∧ ¬ Walk_fault W' = 0 := by
  have kh : (100 : Int32).toInt = 100 := by decide
  have c : ¬ Fld_count Fl < 100 := by rw [i_lt]; omega
  refine ⟨Walk_set_place (Walk_set_fault W 8) (Fld_count Fl), ?_, by show ¬ (8 : Int32) = 0; decide⟩
  unfold Walk_give
  rw [if_neg c]
  rfl
theorem FdR_give {Fl : S_Fld} {s : S_Mo} {ki co wd sca lk rp : Nat → Int32} {ba : Nat → Int64} {i : Nat} {a0 a1 a2 a3 a5 q : Int32} {a4 : Int64} (R : FdR Fl s ki co wd sca lk rp ba) (hi : (Mo_fields s).toInt = (i : Int)) (h100 : i < 100) {s' : S_Mo} (hs : Mo_fields s' = Mo_fields s + 1) (h3 : (a0 = 3 → a4 = 0) ∧ BB a4 ∧ 1 ≤ a2.toInt) : FdR (gvF Fl i a0 a1 a2 a3 a4 a5 q) s' (upd ki i a0) (upd co i a1) (upd wd i a2) (upd sca i a3) (upd lk i a5) (upd rp i q) (vp_updL ba i a4) := by
  obtain ⟨r1, r2, r3, r4⟩ := R
  have k1 : (1 : Int32).toInt = 1 := by decide
  have e : (Mo_fields s + 1).toInt = (i : Int) + 1 := by
    rw [i_add (a := Mo_fields s) (b := 1) (by omega) (by omega), hi, k1]
  refine ⟨?_, by rw [hs, e]; clear e; omega, by rw [hs, e]; clear e; omega, fun j hj => ?_⟩
  · rw [hs, ← r1]
    rfl
  · rw [hs, e] at hj
    clear e
    by_cases ej : j = i
    · rw [ej, upd_at, upd_at, upd_at, upd_at, upd_at, upd_at]
      exact ⟨upd_at _ _ _, upd_at _ _ _, upd_at _ _ _, upd_at _ _ _, (if_pos rfl).trans (if_pos rfl).symm, upd_at _ _ _, upd_at _ _ _, fun e => (if_pos rfl).trans (h3.1 e), (show BB (vp_updL ba i a4 i) by rw [updL_at]; exact h3.2.1), h3.2.2⟩
    · obtain ⟨x1, x2, x3, x4, x5, x6, x7, x8⟩ := r4 j (by omega)
      rw [upd_ne ej, upd_ne ej, upd_ne ej, upd_ne ej, upd_ne ej, upd_ne ej]
      exact ⟨(upd_ne ej).trans x1, (upd_ne ej).trans x2, (upd_ne ej).trans x3, (upd_ne ej).trans x4, ((if_neg ej).trans x5).trans (if_neg ej).symm, (upd_ne ej).trans x6, (upd_ne ej).trans x7, fun e => (if_neg ej).trans (x8.1 e), (show vp_updL ba i a4 j = ba j from if_neg ej) ▸ x8.2.1, x8.2.2⟩

-- the codes
def io (k : Nat) : Int32 := (Mod_inOrder (Int32.ofNat k)).getD 0
theorem io_all : ∀ k : Fin 64, Grd_inOrder (Int32.ofNat k.val) = some (io k.val) ∧ Mod_inOrder (Int32.ofNat k.val) = some (io k.val) ∧ 0 ≤ (io k.val).toInt ∧ (io k.val).toInt < 64 := by
  decide +kernel
theorem io_x {x : Int32} {k : Nat} (hx : x.toInt = (k : Int)) (hk : k < 64) : Grd_inOrder x = some (io k) ∧ Mod_inOrder x = some (io k) ∧ 0 ≤ (io k).toInt ∧ (io k).toInt < 64 := by
  have e : x = Int32.ofNat k := i_eq.mpr (by rw [i_of (by omega)]; exact hx)
  rw [e]
  exact io_all ⟨k, hk⟩
theorem takeCode_m {i e : Int32} {lo : Int64} {g : S_Grd} (hi : o_in i 64 = true) (hp : Grd_points g i.toNatClampNeg = (-9000000000000000000)) : Grd_takeCode i lo e g = some (Grd_put_packed g i.toNatClampNeg (-9000000000000000000)) := by
  unfold Grd_takeCode
  rw [gd_t hi]
  show o_gd (o_in i 64) (if Grd_points g i.toNatClampNeg = (-9000000000000000000) then _ else _) = _
  rw [gd_t hi, if_pos hp]
def cdv (p lo : Int64) (e : Int32) : Int64 := (p - lo) >>> ((e : Int32).toInt64 &&& 63)
theorem takeCode_v {i e : Int32} {lo : Int64} {g : S_Grd} (hi : o_in i 64 = true) (hc : o_in (Grd_codeCount g) 64 = true) (hp : ¬ Grd_points g i.toNatClampNeg = (-9000000000000000000)) : Grd_takeCode i lo e g = some (Grd_set_codeCount (Grd_put_packed (Grd_put_codes (Grd_put_packed g i.toNatClampNeg (-9000000000000000000)) (Grd_codeCount g).toNatClampNeg (cdv (Grd_points g i.toNatClampNeg) lo e)) i.toNatClampNeg (lo + (cdv (Grd_points g i.toNatClampNeg) lo e <<< ((e : Int32).toInt64 &&& 63)))) (Grd_codeCount g + 1)) := by
  unfold Grd_takeCode
  rw [gd_t hi]
  show o_gd (o_in i 64) (if Grd_points g i.toNatClampNeg = (-9000000000000000000) then _ else _) = _
  rw [gd_t hi, if_neg hp, gd_t hi]
  show o_gd (o_in (Grd_codeCount g) 64) _ = _
  rw [gd_t hc]
  show o_gd (o_in (Grd_codeCount g) 64) (o_gd (o_in i 64) _) = _
  rw [gd_t hc, gd_t hi]
  show some (Grd_set_codeCount (Grd_put_packed (Grd_put_codes (Grd_put_packed g i.toNatClampNeg (-9000000000000000000)) (Grd_codeCount g).toNatClampNeg (cdv (Grd_points g i.toNatClampNeg) lo e)) i.toNatClampNeg (lo + (vp_updL (Grd_codes g) (Grd_codeCount g).toNatClampNeg (cdv (Grd_points g i.toNatClampNeg) lo e) (Grd_codeCount g).toNatClampNeg <<< ((e : Int32).toInt64 &&& 63)))) (Grd_codeCount g + 1)) = _
  rw [updL_at]
def CB (c : Int) (g : S_Grd) (cf : Nat → Int64) : Prop := ∀ j : Nat, (j : Int) < c → Grd_codes g j = cf j ∧ 0 ≤ (cf j).toInt ∧ (cf j).toInt ≤ 4000000000
def CR (g : S_Grd) (s : S_Mo) (pk cf : Nat → Int64) : Prop := Grd_codeCount g = Mo_codes s ∧ (∀ j : Nat, j < 64 → Grd_packed g j = pk j) ∧ CB (Mo_codes s).toInt g cf
theorem c_codes {fu : Nat} {po cs : Nat → Int64} {cut ends : Nat → Int32} {x1 e : Int32} {lo : Int64} {ke : S_Mo → (Nat → Int64) → (Nat → Int64) → Option A7} {z : Nat} (hlo : ∀ j, j < 64 → ¬ po j = (-9000000000000000000) → lo.toInt ≤ (po j).toInt ∧ (po j).toInt ≤ 2000000000) (hl0 : -2000000000 ≤ lo.toInt) (he : e.toInt = (z : Int)) (hz : z ≤ 62) : ∀ (m n n' k : Nat) (x : Int32) (g : S_Grd) (s : S_Mo) (pk cf : Nat → Int64), x.toInt = (k : Int) → k + m = 64 → m < n → m < n' → 0 ≤ (Mo_codes s).toInt → (Mo_codes s).toInt ≤ (k : Int) → GP g po → CR g s pk cf → ∃ (g' : S_Grd) (c' : Int32) (pk' cf' : Nat → Int64), Grd_takeCodes_L88 fu lo e n x g = some (e, g') ∧ Mod_pack_L183 fu po x1 lo e cs cut ends ke n' x s pk cf = ke (Mo_set_codes s c') pk' cf' ∧ GP g' po ∧ CR g' (Mo_set_codes s c') pk' cf' ∧ 0 ≤ c'.toInt ∧ c'.toInt ≤ 64
  | _, 0, _, k, x, g, s, pk, cf, _, _, h, _, _, _, _, _ => absurd h (by omega)
  | _, n + 1, 0, k, x, g, s, pk, cf, _, _, _, h, _, _, _, _ => absurd h (by omega)
  | 0, n + 1, n' + 1, k, x, g, s, pk, cf, hx, hk, _, _, h0, h1, hG, hR => by
    have k64 : (64 : Int32).toInt = 64 := by decide
    have c : (64 : Int32) ≤ x := by rw [i_le]; omega
    refine ⟨g, Mo_codes s, pk, cf, ?_, ?_, hG, hR, h0, by omega⟩
    · rw [Grd_takeCodes_L88, if_pos c]
    · rw [Mod_pack_L183, if_pos c]
  | m + 1, n + 1, n' + 1, k, x, g, s, pk, cf, hx, hk, hn, hn', h0, h1, hG, hR => by
    have k64 : (64 : Int32).toInt = 64 := by decide
    have k1 : (1 : Int32).toInt = 1 := by decide
    have hx64 : ¬ (64 : Int32) ≤ x := by rw [i_le]; omega
    obtain ⟨gi, mi, i0, i1⟩ := io_x hx (by omega)
    have hi : o_in (io k) 64 = true := i_in.mpr ⟨i0, i1⟩
    have hin := i_nat i0
    have hj : (io k).toNatClampNeg < 64 := by omega
    obtain ⟨hpt, hpr⟩ := hG (io k).toNatClampNeg hj
    have e1 : (x + 1).toInt = ((k + 1 : Nat) : Int) := by
      rw [i_add (a := x) (b := 1) (by omega) (by omega), k1, hx]
      omega
    obtain ⟨r1, r2, r3⟩ := hR
    by_cases hp : po (io k).toNatClampNeg = (-9000000000000000000)
    · have hl : Grd_takeCodes_L88 fu lo e (n + 1) x g = Grd_takeCodes_L88 fu lo e n (x + 1) (Grd_put_packed g (io k).toNatClampNeg (-9000000000000000000)) := by
        rw [Grd_takeCodes_L88, if_neg hx64, bd_s gi, bd_s (takeCode_m hi (hpt.trans hp))]
      have hr : Mod_pack_L183 fu po x1 lo e cs cut ends ke (n' + 1) x s pk cf = Mod_pack_L183 fu po x1 lo e cs cut ends ke n' (x + 1) s (vp_updL pk (io k).toNatClampNeg (-9000000000000000000)) cf := by
        rw [Mod_pack_L183, if_neg hx64, bd_s mi, gd_t hi, bd_s mi, if_pos hp]
        unfold Mod_pack_j238
        rw [gd_t hi]
        show (if po (io k).toNatClampNeg = (-9000000000000000000) then _ else _) = _
        rw [if_pos hp]
        rfl
      have R1 : CR (Grd_put_packed g (io k).toNatClampNeg (-9000000000000000000)) s (vp_updL pk (io k).toNatClampNeg (-9000000000000000000)) cf := by
        refine ⟨r1, fun j hj => ?_, r3⟩
        show vp_updL (Grd_packed g) (io k).toNatClampNeg (-9000000000000000000) j = _
        by_cases ej : j = (io k).toNatClampNeg
        · rw [ej, updL_at, updL_at]
        · rw [updL_ne ej, updL_ne ej]
          exact r2 j hj
      obtain ⟨g', c', pk', cf', q1, q2, q3, q4, q5, q6⟩ := c_codes hlo hl0 he hz m n n' (k + 1) (x + 1) (Grd_put_packed g (io k).toNatClampNeg (-9000000000000000000)) s _ cf e1 (by omega) (by omega) (by omega) h0 (by omega) hG R1
      exact ⟨g', c', pk', cf', hl.trans q1, hr.trans q2, q3, q4, q5, q6⟩
    · have hc : o_in (Grd_codeCount g) 64 = true := by
        rw [r1]
        exact i_in.mpr (by omega)
      have hcm : o_in (Mo_codes s) 64 = true := i_in.mpr (by omega)
      have hcn := i_nat h0
      have hl : Grd_takeCodes_L88 fu lo e (n + 1) x g = Grd_takeCodes_L88 fu lo e n (x + 1) (Grd_set_codeCount (Grd_put_packed (Grd_put_codes (Grd_put_packed g (io k).toNatClampNeg (-9000000000000000000)) (Grd_codeCount g).toNatClampNeg (cdv (Grd_points g (io k).toNatClampNeg) lo e)) (io k).toNatClampNeg (lo + (cdv (Grd_points g (io k).toNatClampNeg) lo e <<< ((e : Int32).toInt64 &&& 63)))) (Grd_codeCount g + 1)) := by
        rw [Grd_takeCodes_L88, if_neg hx64, bd_s gi, bd_s (takeCode_v hi hc (by rw [hpt]; exact hp))]
      have hr : Mod_pack_L183 fu po x1 lo e cs cut ends ke (n' + 1) x s pk cf = Mod_pack_L183 fu po x1 lo e cs cut ends ke n' (x + 1) (Mo_set_codes s (Mo_codes s + 1)) (vp_updL pk (io k).toNatClampNeg (lo + (cdv (po (io k).toNatClampNeg) lo e <<< ((e : Int32).toInt64 &&& 63)))) (vp_updL cf (Mo_codes s).toNatClampNeg (cdv (po (io k).toNatClampNeg) lo e)) := by
        rw [Mod_pack_L183, if_neg hx64, bd_s mi, gd_t hi, bd_s mi, if_neg hp]
        unfold Mod_pack_j238
        rw [gd_t hi]
        show (if po (io k).toNatClampNeg = (-9000000000000000000) then _ else _) = _
        rw [if_neg hp, gd_t hcm]
        rfl
      have ec : (Mo_codes s + 1).toInt = (Mo_codes s).toInt + 1 := by
        clear e1
        rw [i_add (a := Mo_codes s) (b := 1) (by omega) (by omega), k1]
      have hcd : 0 ≤ (cdv (po (io k).toNatClampNeg) lo e).toInt ∧ (cdv (po (io k).toNatClampNeg) lo e).toInt ≤ 4000000000 := by
        obtain ⟨b1, b2⟩ := hlo _ hj hp
        have es := i64_sub (a := po (io k).toNatClampNeg) (b := lo) (by omega) (by omega)
        unfold cdv
        rw [sh_e _ he (by omega), es]
        have d0 : 0 ≤ (po (io k).toNatClampNeg).toInt - lo.toInt := by omega
        exact ⟨Int.ediv_nonneg d0 (Int.le_of_lt (pw_pos z)), Int.le_trans (Int.ediv_le_self _ d0) (by omega)⟩
      have R1 : CR (Grd_set_codeCount (Grd_put_packed (Grd_put_codes (Grd_put_packed g (io k).toNatClampNeg (-9000000000000000000)) (Grd_codeCount g).toNatClampNeg (cdv (Grd_points g (io k).toNatClampNeg) lo e)) (io k).toNatClampNeg (lo + (cdv (Grd_points g (io k).toNatClampNeg) lo e <<< ((e : Int32).toInt64 &&& 63)))) (Grd_codeCount g + 1)) (Mo_set_codes s (Mo_codes s + 1)) (vp_updL pk (io k).toNatClampNeg (lo + (cdv (po (io k).toNatClampNeg) lo e <<< ((e : Int32).toInt64 &&& 63)))) (vp_updL cf (Mo_codes s).toNatClampNeg (cdv (po (io k).toNatClampNeg) lo e)) := by
        refine ⟨?_, fun j hj => ?_, fun j hj => ?_⟩
        · show Grd_codeCount g + 1 = Mo_codes s + 1
          rw [r1]
        · show vp_updL (vp_updL (Grd_packed g) (io k).toNatClampNeg (-9000000000000000000)) (io k).toNatClampNeg (lo + (cdv (Grd_points g (io k).toNatClampNeg) lo e <<< ((e : Int32).toInt64 &&& 63))) j = _
          rw [hpt]
          by_cases ej : j = (io k).toNatClampNeg
          · rw [ej, updL_at, updL_at]
          · rw [updL_ne ej, updL_ne ej, updL_ne ej]
            exact r2 j hj
        · have hj : (j : Int) < (Mo_codes s + 1).toInt := hj
          rw [ec] at hj
          show vp_updL (Grd_codes g) (Grd_codeCount g).toNatClampNeg (cdv (Grd_points g (io k).toNatClampNeg) lo e) j = _ ∧ _
          rw [hpt, r1]
          by_cases ej : j = (Mo_codes s).toNatClampNeg
          · rw [ej, updL_at, updL_at]
            exact ⟨rfl, hcd⟩
          · rw [updL_ne ej, updL_ne ej]
            refine r3 j ?_
            clear e1 ec
            omega
      have hc1 : 0 ≤ (Mo_codes (Mo_set_codes s (Mo_codes s + 1))).toInt := by
        show 0 ≤ (Mo_codes s + 1).toInt
        rw [ec]
        clear e1 ec
        omega
      have hc2 : (Mo_codes (Mo_set_codes s (Mo_codes s + 1))).toInt ≤ ((k + 1 : Nat) : Int) := by
        show (Mo_codes s + 1).toInt ≤ _
        rw [ec]
        clear e1 ec
        omega
      obtain ⟨g', c', pk', cf', q1, q2, q3, q4, q5, q6⟩ := c_codes hlo hl0 he hz m n n' (k + 1) (x + 1) _ (Mo_set_codes s (Mo_codes s + 1)) _ _ e1 (by clear e1 ec hc1 hc2; omega) (by clear e1 ec hc1 hc2; omega) (by clear e1 ec hc1 hc2; omega) hc1 hc2 (show GP (Grd_set_codeCount (Grd_put_packed (Grd_put_codes (Grd_put_packed g (io k).toNatClampNeg (-9000000000000000000)) (Grd_codeCount g).toNatClampNeg (cdv (Grd_points g (io k).toNatClampNeg) lo e)) (io k).toNatClampNeg (lo + (cdv (Grd_points g (io k).toNatClampNeg) lo e <<< ((e : Int32).toInt64 &&& 63)))) (Grd_codeCount g + 1)) po from hG) R1
      exact ⟨g', c', pk', cf', hl.trans q1, hr.trans q2, q3, q4, q5, q6⟩
-- the groups
def SGr (a b : S_Grd) : Prop := Grd_points a = Grd_points b ∧ Grd_packed a = Grd_packed b ∧ Grd_codeCount a = Grd_codeCount b ∧ Grd_codes a = Grd_codes b
theorem SGr.trans {a b c : S_Grd} (h : SGr a b) (g : SGr b c) : SGr a c := ⟨h.1.trans g.1, h.2.1.trans g.2.1, h.2.2.1.trans g.2.2.1, h.2.2.2.trans g.2.2.2⟩
def D1 (j c : Nat) (g : S_Grd) (cs : Nat → Int64) (cut : Nat → Int32) : Prop := (Grd_cheapest g j).toInt = (cs j).toInt ∧ 0 ≤ (cs j).toInt ∧ (cs j).toInt ≤ 42 * ((c : Int) - (j : Int)) ∧ (j < c → Grd_firstEnds g j = cut j ∧ (j : Int) < (cut j).toInt ∧ (cut j).toInt ≤ (c : Int))
def DR (lo c : Nat) (g : S_Grd) (cs : Nat → Int64) (cut : Nat → Int32) : Prop := ∀ j : Nat, lo ≤ j → j ≤ c → D1 j c g cs cut
theorem c_inner {fu i c : Nat} {po pk cf : Nat → Int64} {ends : Nat → Int32} {x1 x2 x6 y1 : Int32} {s : S_Mo} {ke : (Nat → Int64) → (Nat → Int32) → Option A7} (hf : 12000 ≤ fu) (hc : (Mo_codes s).toInt = (c : Int)) (hc64 : c ≤ 64) (hi : i < c) (h1 : x1.toInt = (i : Int)) (hp : x2.toInt = y1.toInt + 11) (hy0 : 1 ≤ y1.toInt) (hy1 : y1.toInt ≤ 31) : ∀ (m n n' j : Nat) (x3 x5 : Int64) (x7 x12 : Int32) (g : S_Grd) (cs : Nat → Int64) (cut : Nat → Int32), x12.toInt = (j : Int) → x7.toInt = (j : Int) + 1 → j + m = c → i ≤ j → m < n → m < n' → Grd_codeCount g = Mo_codes s → CB (c : Int) g cf → 0 ≤ x3.toInt → x3.toInt ≤ x5.toInt → x5.toInt ≤ 4000000000 → (j = i → x3 = cf i ∧ x5 = cf i) → DR (i + 1) c g cs cut → ((j = i ∧ (Grd_cheapest g i).toInt = 1000000) ∨ (i < j ∧ D1 i c g cs cut)) → ∃ (g' : S_Grd) (cs' : Nat → Int64) (cut' : Nat → Int32), Grd_cutFrom_L28 fu x1 x2 n x3 x5 x7 g = some g' ∧ Mod_pack_L328 fu po y1 x6 x1 s pk cf ends ke n' x3 x5 x12 cs cut = ke cs' cut' ∧ SGr g' g ∧ DR i c g' cs' cut'
  | _, 0, _, j, x3, x5, x7, x12, g, cs, cut, _, _, _, _, h, _, _, _, _, _, _, _, _, _ => absurd h (by omega)
  | _, n + 1, 0, j, x3, x5, x7, x12, g, cs, cut, _, _, _, _, _, h, _, _, _, _, _, _, _, _ => absurd h (by omega)
  | 0, n + 1, n' + 1, j, x3, x5, x7, x12, g, cs, cut, e12, e7, hj, hij, _, _, hcc, hB, _, _, _, _, hD, hK => by
    refine ⟨g, cs, cut, ?_, ?_, ⟨rfl, rfl, rfl, rfl⟩, fun t ht ht' => ?_⟩
    · rw [Grd_cutFrom_L28, if_pos (by rw [i_lt, hcc, hc]; omega)]
    · rw [Mod_pack_L328, if_pos (by rw [i_le, hc]; omega)]
    · by_cases et : t = i
      · rw [et]
        rcases hK with ⟨hK, _⟩ | ⟨_, hK⟩
        · exact absurd hK (by omega)
        · exact hK
      · exact hD t (by omega) ht'
  | m + 1, n + 1, n' + 1, j, x3, x5, x7, x12, g, cs, cut, e12, e7, hj, hij, hn, hn', hcc, hB, a0, a1, a2, hfst, hD, hK => by
    have k1 : (1 : Int32).toInt = 1 := by decide
    have e7m : (x7 - 1).toInt = (j : Int) := by
      rw [i_sub (a := x7) (b := 1) (by omega) (by omega), e7, k1]
      omega
    have eq7 : x7 = x12 + 1 := i_eq.mpr (by
      clear e7m
      rw [e7, i_add (a := x12) (b := 1) (by omega) (by omega), e12, k1])
    have g7m : o_in (x7 - 1) 64 = true := i_in.mpr (by rw [e7m]; clear e7m; omega)
    have n7m : (x7 - 1).toNatClampNeg = j := by
      have := i_nat (a := x7 - 1) (by rw [e7m]; clear e7m; omega)
      rw [e7m] at this
      clear e7m
      omega
    clear e7m
    have g12 : o_in x12 64 = true := i_in.mpr (by omega)
    have n12 : x12.toNatClampNeg = j := by have := i_nat (a := x12) (by omega); omega
    have g7 : o_in x7 65 = true := i_in.mpr (by omega)
    have n7 : x7.toNatClampNeg = j + 1 := by have := i_nat (a := x7) (by omega); omega
    have g1 : o_in x1 65 = true := i_in.mpr (by omega)
    have n1 : x1.toNatClampNeg = i := by have := i_nat (a := x1) (by omega); omega
    have g121 : o_in (x12 + 1) 65 = true := by rw [← eq7]; exact g7
    have n121 : (x12 + 1).toNatClampNeg = j + 1 := by rw [← eq7]; exact n7
    obtain ⟨hcd, b0, b1⟩ := hB j (by omega)
    -- least and greatest
    obtain ⟨u6, hu6⟩ : ∃ u : Int64, u = if cf j < x3 then cf j else x3 := ⟨_, rfl⟩
    obtain ⟨u8, hu8⟩ : ∃ u : Int64, u = if cf j < x5 then x5 else cf j := ⟨_, rfl⟩
    have t6 : 0 ≤ u6.toInt ∧ u6.toInt ≤ x3.toInt ∧ u6.toInt ≤ (cf j).toInt := by
      rw [hu6]
      by_cases c1 : cf j < x3
      · rw [if_pos c1]; rw [i64_lt] at c1; omega
      · rw [if_neg c1]; rw [i64_lt] at c1; omega
    have t8 : x5.toInt ≤ u8.toInt ∧ (cf j).toInt ≤ u8.toInt ∧ u8.toInt ≤ 4000000000 := by
      rw [hu8]
      by_cases c1 : cf j < x5
      · rw [if_pos c1]; rw [i64_lt] at c1; omega
      · rw [if_neg c1]; rw [i64_lt] at c1; omega
    have m8 : (if cf j ≤ x5 then x5 else cf j) = u8 := by
      rw [hu8]
      by_cases c1 : cf j < x5
      · rw [if_pos c1, if_pos (by rw [i64_le]; rw [i64_lt] at c1; omega)]
      · rw [if_neg c1]
        by_cases c2 : cf j ≤ x5
        · rw [if_pos c2]
          rw [i64_lt] at c1
          rw [i64_le] at c2
          exact i64_eq.mpr (by omega)
        · rw [if_neg c2]
    have ed := i64_sub (a := u8) (b := u6) (by omega) (by omega)
    have e62 : ((2 ^ 62 : Nat) : Int) = 4611686018427387904 := by decide
    obtain ⟨k, q, ex, em, hq, hk, hBL⟩ := bl_both (v := u8 - u6) hf (by rw [ed]; omega) (by rw [ed, e62]; omega)
    -- the cost
    have hD1 := hD (j + 1) (by omega) (by omega)
    obtain ⟨d1, d2, d3, d4⟩ := hD1
    obtain ⟨W, hW⟩ : ∃ W : Int, W = ((j : Int) + 1 - (i : Int)) * (k : Int) := ⟨_, rfl⟩
    have hW0 : 0 ≤ W := by
      rw [hW]
      exact Int.mul_nonneg (by omega) (by omega)
    have hW1 : W ≤ 65 * 62 := by
      rw [hW]
      exact Int.mul_le_mul (by omega) (by omega) (by omega) (by omega)
    have eU : (x2 + (x7 - x1) * q + Grd_cheapest g (j + 1)).toInt = y1.toInt + 11 + W + (cs (j + 1)).toInt := by
      have f1 := i_sub (a := x7) (b := x1) (by omega) (by omega)
      have f2 : (x7 - x1).toInt * q.toInt = W := by
        rw [f1, e7, h1, hq, hW]
      have f3 := i_mul (a := x7 - x1) (b := q) (by rw [f2]; omega) (by rw [f2]; omega)
      rw [f2] at f3
      have f4 : (x2 + (x7 - x1) * q).toInt = y1.toInt + 11 + W := by
        rw [i_add (a := x2) (b := (x7 - x1) * q) (by rw [f3]; clear f1 f2 f3; omega) (by rw [f3]; clear f1 f2 f3; omega), f3, hp]
      rw [i_add (a := x2 + (x7 - x1) * q) (b := Grd_cheapest g (j + 1)) (by rw [f4, d1]; clear f1 f2 f3 f4; omega) (by rw [f4, d1]; clear f1 f2 f3 f4; omega), f4, d1]
    have eV : (y1.toInt64 + 11 + (x12.toInt64 + 1 - x1.toInt64) * q.toInt64 + cs (j + 1)).toInt = y1.toInt + 11 + W + (cs (j + 1)).toInt := by
      clear eU
      have l1 : (1 : Int64).toInt = 1 := by decide
      have l11 : (11 : Int64).toInt = 11 := by decide
      have f0 : (x12.toInt64 + 1).toInt = (j : Int) + 1 := by
        rw [i64_add (a := x12.toInt64) (b := 1) (by rw [i_to64, l1]; omega) (by rw [i_to64, l1]; omega), i_to64, e12, l1]
      have f1 : (x12.toInt64 + 1 - x1.toInt64).toInt = (j : Int) + 1 - (i : Int) := by
        rw [i64_sub (a := x12.toInt64 + 1) (b := x1.toInt64) (by rw [f0, i_to64, h1]; clear f0; omega) (by rw [f0, i_to64, h1]; clear f0; omega), f0, i_to64, h1]
      have f2 : (x12.toInt64 + 1 - x1.toInt64).toInt * q.toInt64.toInt = W := by
        rw [f1, i_to64, hq, hW]
      have f3 := i64_mul (a := x12.toInt64 + 1 - x1.toInt64) (b := q.toInt64) (by rw [f2]; clear f0 f1 f2; omega) (by rw [f2]; clear f0 f1 f2; omega)
      rw [f2] at f3
      have f4 : (y1.toInt64 + 11).toInt = y1.toInt + 11 := by
        rw [i64_add (a := y1.toInt64) (b := 11) (by rw [i_to64, l11]; clear f0 f1 f2 f3; omega) (by rw [i_to64, l11]; clear f0 f1 f2 f3; omega), i_to64, l11]
      have f5 : (y1.toInt64 + 11 + (x12.toInt64 + 1 - x1.toInt64) * q.toInt64).toInt = y1.toInt + 11 + W := by
        rw [i64_add (a := y1.toInt64 + 11) (b := (x12.toInt64 + 1 - x1.toInt64) * q.toInt64) (by rw [f4, f3]; clear f0 f1 f2 f3 f4; omega) (by rw [f4, f3]; clear f0 f1 f2 f3 f4; omega), f4, f3]
      rw [i64_add (a := y1.toInt64 + 11 + (x12.toInt64 + 1 - x1.toInt64) * q.toInt64) (b := cs (j + 1)) (by rw [f5]; clear f0 f1 f2 f3 f4 f5; omega) (by rw [f5]; clear f0 f1 f2 f3 f4 f5; omega), f5]
    obtain ⟨U, hU⟩ : ∃ U : Int32, U = x2 + (x7 - x1) * q + Grd_cheapest g (j + 1) := ⟨_, rfl⟩
    obtain ⟨V, hV⟩ : ∃ V : Int64, V = y1.toInt64 + 11 + (x12.toInt64 + 1 - x1.toInt64) * q.toInt64 + cs (j + 1) := ⟨_, rfl⟩
    rw [← hU] at eU
    rw [← hV] at eV
    -- both programs, up to the decision
    have hl : Grd_cutFrom_L28 fu x1 x2 (n + 1) x3 x5 x7 g = (if Grd_cheapest g i < U then Grd_cutFrom_L28 fu x1 x2 n u6 u8 (x7 + 1) g else Grd_cutFrom_L28 fu x1 x2 n u6 u8 (x7 + 1) (Grd_put_firstEnds (Grd_put_cheapest g i U) i x7)) := by
      rw [Grd_cutFrom_L28, if_neg (by rw [i_lt, hcc, hc]; omega), gd_t g7m, n7m, hcd, ← hu6]
      show o_gd (o_in (x7 - 1) 64) _ = _
      rw [gd_t g7m, ← hu8]
      show o_bd (X_bitLength fu (u8 - u6)) _ = _
      rw [bd_s ex, gd_t g7, n7]
      show o_gd (o_in x1 65) (if Grd_cheapest g x1.toNatClampNeg < (x2 + (x7 - x1) * q + Grd_cheapest g (j + 1)) then _ else _) = _
      rw [gd_t g1, n1, ← hU]
      by_cases c1 : Grd_cheapest g i < U
      · rw [if_pos c1, if_pos c1]
        rfl
      · rw [if_neg c1, if_neg c1, gd_t g1]
        show o_gd (o_in x1 65) _ = _
        rw [gd_t g1]
        rfl
    have j389 : Mod_pack_L328 fu po y1 x6 x1 s pk cf ends ke (n' + 1) x3 x5 x12 cs cut = Mod_pack_j389 fu po (fun v0 v1 v2 v3 v4 => Mod_pack_L328 fu po y1 x6 x1 s pk cf ends ke n' v0 v1 v2 v3 v4) ke y1 x6 x1 s pk cf ends u6 x12 u8 cs cut := by
      have j362 : ∀ t : Int64, Mod_pack_j362 fu po (fun v0 v1 v2 v3 v4 => Mod_pack_L328 fu po y1 x6 x1 s pk cf ends ke n' v0 v1 v2 v3 v4) ke y1 x6 x1 s pk cf ends x5 x12 t cs cut = Mod_pack_j389 fu po (fun v0 v1 v2 v3 v4 => Mod_pack_L328 fu po y1 x6 x1 s pk cf ends ke n' v0 v1 v2 v3 v4) ke y1 x6 x1 s pk cf ends t x12 u8 cs cut := by
        intro t
        unfold Mod_pack_j362
        rw [gd_t g12, n12, ← m8]
        by_cases c1 : cf j ≤ x5
        · rw [if_pos c1, if_pos c1]
        · rw [if_neg c1, if_neg c1, gd_t g12]
      rw [Mod_pack_L328, if_neg (by rw [i_le, hc]; omega), gd_t g12, n12, hu6]
      by_cases c1 : cf j < x3
      · rw [if_pos c1, if_neg (by rw [i64_le]; rw [i64_lt] at c1; omega), gd_t g12, j362]
      · rw [if_neg c1, if_pos (by rw [i64_le]; rw [i64_lt] at c1; omega), j362]
    have j449 : Mod_pack_j449 fu po (fun v0 v1 v2 v3 v4 => Mod_pack_L328 fu po y1 x6 x1 s pk cf ends ke n' v0 v1 v2 v3 v4) ke y1 x6 x1 s pk cf ends u6 u8 x12 V cs cut = Mod_pack_L328 fu po y1 x6 x1 s pk cf ends ke n' u6 u8 (x12 + 1) (vp_updL cs i V) (upd cut i (x12 + 1)) := by
      unfold Mod_pack_j449
      rw [gd_t g1, n1]
      show o_gd (o_in x1 65) _ = _
      rw [gd_t g1]
      rfl
    have hr : Mod_pack_L328 fu po y1 x6 x1 s pk cf ends ke (n' + 1) x3 x5 x12 cs cut = (if x12 = x1 then Mod_pack_L328 fu po y1 x6 x1 s pk cf ends ke n' u6 u8 (x12 + 1) (vp_updL cs i V) (upd cut i (x12 + 1)) else if cs i < V then Mod_pack_L328 fu po y1 x6 x1 s pk cf ends ke n' u6 u8 (x12 + 1) cs cut else Mod_pack_L328 fu po y1 x6 x1 s pk cf ends ke n' u6 u8 (x12 + 1) (vp_updL cs i V) (upd cut i (x12 + 1))) := by
      rw [j389]
      unfold Mod_pack_j389
      rw [bd_s em, gd_t g121, n121, ← hV]
      show (if x12 = x1 then _ else _) = _
      by_cases c1 : x12 = x1
      · rw [if_pos c1, if_pos c1, j449]
      · rw [if_neg c1, if_neg c1, gd_t g1, n1]
        by_cases c2 : cs i < V
        · rw [if_pos c2, if_pos c2]
          rfl
        · rw [if_neg c2, if_neg c2, j449]
    clear j389 j449
    have n7p : (x7 + 1).toInt = ((j + 1 : Nat) : Int) + 1 := by
      clear eU eV
      rw [i_add (a := x7) (b := 1) (by omega) (by omega), e7, k1]
      omega
    have n12p : (x12 + 1).toInt = ((j + 1 : Nat) : Int) := by
      rw [← eq7, e7]
      clear n7p
      omega
    -- taken
    have took : (U.toInt ≤ 42 * ((c : Int) - (i : Int))) → ∃ (g' : S_Grd) (cs' : Nat → Int64) (cut' : Nat → Int32), Grd_cutFrom_L28 fu x1 x2 n u6 u8 (x7 + 1) (Grd_put_firstEnds (Grd_put_cheapest g i U) i x7) = some g' ∧ Mod_pack_L328 fu po y1 x6 x1 s pk cf ends ke n' u6 u8 (x12 + 1) (vp_updL cs i V) (upd cut i (x12 + 1)) = ke cs' cut' ∧ SGr g' g ∧ DR i c g' cs' cut' := by
      intro hb
      have D' : DR (i + 1) c (Grd_put_firstEnds (Grd_put_cheapest g i U) i x7) (vp_updL cs i V) (upd cut i (x12 + 1)) := by
        intro t ht ht'
        have ne : t ≠ i := by omega
        obtain ⟨w1, w2, w3, w4⟩ := hD t ht ht'
        refine ⟨?_, ?_, ?_, fun hlt => ?_⟩
        · show (upd (Grd_cheapest g) i U t).toInt = _
          rw [upd_ne ne, updL_ne ne]
          exact w1
        · rw [updL_ne ne]
          exact w2
        · rw [updL_ne ne]
          exact w3
        · show upd (Grd_firstEnds g) i x7 t = _ ∧ _
          rw [upd_ne ne, upd_ne ne]
          exact w4 hlt
      have K' : D1 i c (Grd_put_firstEnds (Grd_put_cheapest g i U) i x7) (vp_updL cs i V) (upd cut i (x12 + 1)) := by
        refine ⟨?_, ?_, ?_, fun _ => ?_⟩
        · show (upd (Grd_cheapest g) i U i).toInt = _
          rw [upd_at, updL_at, eU, eV]
        · rw [updL_at, eV]
          clear n7p n12p eU eV hb
          omega
        · rw [updL_at, eV, ← eU]
          exact hb
        · show upd (Grd_firstEnds g) i x7 i = _ ∧ _
          rw [upd_at, upd_at, ← eq7, e7]
          clear n7p n12p eU eV hb
          exact ⟨rfl, by omega, by omega⟩
      obtain ⟨g', cs', cut', r1, r2, r3, r4⟩ := c_inner hf hc hc64 hi h1 hp hy0 hy1 m n n' (j + 1) u6 u8 (x7 + 1) (x12 + 1) (Grd_put_firstEnds (Grd_put_cheapest g i U) i x7) (vp_updL cs i V) (upd cut i (x12 + 1)) n12p n7p (by clear n7p n12p eU eV hb; omega) (by clear n7p n12p eU eV hb; omega) (by clear n7p n12p eU eV hb; omega) (by clear n7p n12p eU eV hb; omega) hcc hB t6.1 (by clear n7p n12p eU eV hb; omega) t8.2.2 (fun e => absurd e (by clear n7p n12p eU eV hb; omega)) D' (Or.inr ⟨by clear n7p n12p eU eV hb; omega, K'⟩)
      exact ⟨g', cs', cut', r1, r2, r3, r4⟩
    rcases hK with ⟨ej, hK⟩ | ⟨ej, hK⟩
    · -- the first of the group
      have c1 : x12 = x1 := i_eq.mpr (by rw [e12, h1, ej])
      obtain ⟨y3, y5⟩ := hfst ej
      have z6 : u6 = cf i := by rw [hu6, ej, y3, if_neg (by rw [i64_lt]; exact Int.lt_irrefl _)]
      have z8 : u8 = cf i := by rw [hu8, ej, y5, if_neg (by rw [i64_lt]; exact Int.lt_irrefl _)]
      have k0 : k = 0 := by
        obtain ⟨_, B2⟩ := hBL
        rcases B2 with B2 | B2
        · exact B2
        · rw [ed, z6, z8] at B2
          have := pw_pos (k - 1)
          omega
      have W0 : W = 0 := by rw [hW, k0]; exact Int.mul_zero _
      have hUb : U.toInt ≤ 42 * ((c : Int) - (i : Int)) := by
        rw [eU]
        clear n7p n12p eU eV
        omega
      have c2 : ¬ Grd_cheapest g i < U := by
        rw [i_lt, hK]
        clear n7p n12p eU eV
        omega
      rw [if_neg c2] at hl
      rw [if_pos c1] at hr
      obtain ⟨g', cs', cut', r1, r2, r3, r4⟩ := took hUb
      exact ⟨g', cs', cut', hl.trans r1, hr.trans r2, r3, r4⟩
    · have c1 : ¬ x12 = x1 := fun e => by rw [i_eq, e12, h1] at e; omega
      rw [if_neg c1] at hr
      obtain ⟨w1, w2, w3, w4⟩ := hK
      by_cases c2 : Grd_cheapest g i < U
      · have c3 : cs i < V := by rw [i64_lt, eV, ← eU, ← w1]; exact i_lt.mp c2
        rw [if_pos c2] at hl
        rw [if_pos c3] at hr
        obtain ⟨g', cs', cut', r1, r2, r3, r4⟩ := c_inner hf hc hc64 hi h1 hp hy0 hy1 m n n' (j + 1) u6 u8 (x7 + 1) (x12 + 1) g cs cut n12p n7p (by clear n7p n12p eU eV; omega) (by clear n7p n12p eU eV; omega) (by clear n7p n12p eU eV; omega) (by clear n7p n12p eU eV; omega) hcc hB t6.1 (by clear n7p n12p eU eV; omega) t8.2.2 (fun e => absurd e (by clear n7p n12p eU eV; omega)) hD (Or.inr ⟨by clear n7p n12p eU eV; omega, w1, w2, w3, w4⟩)
        exact ⟨g', cs', cut', hl.trans r1, hr.trans r2, r3, r4⟩
      · have c3 : ¬ cs i < V := by rw [i64_lt, eV, ← eU, ← w1]; exact fun h => c2 (i_lt.mpr h)
        rw [if_neg c2] at hl
        rw [if_neg c3] at hr
        have hUb : U.toInt ≤ 42 * ((c : Int) - (i : Int)) := by
          rw [i_lt, w1] at c2
          clear n7p n12p eU eV
          omega
        obtain ⟨g', cs', cut', r1, r2, r3, r4⟩ := took hUb
        exact ⟨g', cs', cut', hl.trans r1, hr.trans r2, r3, r4⟩

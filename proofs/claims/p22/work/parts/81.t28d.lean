theorem c_outer {fu c : Nat} {po pk cf : Nat → Int64} {ends : Nat → Int32} {x6 a0 : Int32} {s : S_Mo} {ke : (Nat → Int64) → (Nat → Int32) → Option A7} {kg : S_Grd → Option S_Grd} (hf : 12000 ≤ fu) (hc : (Mo_codes s).toInt = (c : Int)) (hc64 : c ≤ 64) (hy0 : 1 ≤ a0.toInt) (hy1 : a0.toInt ≤ 31) : ∀ (m n n' : Nat) (x : Int32) (g : S_Grd) (cs : Nat → Int64) (cut : Nat → Int32), x.toInt = (m : Int) - 1 → m ≤ c → m < n → m < n' → Grd_codeCount g = Mo_codes s → CB (c : Int) g cf → DR m c g cs cut → ∃ (g' : S_Grd) (cs' : Nat → Int64) (cut' : Nat → Int32), Grd_cut_L17 fu a0 kg n x g = kg g' ∧ Mod_pack_L301 fu po a0 x6 s pk cf ends ke n' x cs cut = ke cs' cut' ∧ SGr g' g ∧ DR 0 c g' cs' cut'
  | _, 0, _, x, g, cs, cut, _, _, h, _, _, _, _ => absurd h (by omega)
  | _, n + 1, 0, x, g, cs, cut, _, _, _, h, _, _, _ => absurd h (by omega)
  | 0, n + 1, n' + 1, x, g, cs, cut, hx, _, _, _, hcc, hB, hD => by
    have k0 : (0 : Int32).toInt = 0 := by decide
    have c1 : x < 0 := by rw [i_lt]; omega
    refine ⟨g, cs, cut, ?_, ?_, ⟨rfl, rfl, rfl, rfl⟩, hD⟩
    · rw [Grd_cut_L17, if_pos c1]
    · rw [Mod_pack_L301, if_pos c1]
  | m + 1, n + 1, n' + 1, x, g, cs, cut, hx, hm, hn, hn', hcc, hB, hD => by
    have k0 : (0 : Int32).toInt = 0 := by decide
    have k1 : (1 : Int32).toInt = 1 := by decide
    have km : ((-1) : Int32).toInt = -1 := by decide
    have k11 : (11 : Int32).toInt = 11 := by decide
    have hx : x.toInt = (m : Int) := by omega
    have c1 : ¬ x < 0 := by rw [i_lt]; omega
    have g64 : o_in x 64 = true := i_in.mpr (by omega)
    have g65 : o_in x 65 = true := i_in.mpr (by omega)
    have nx : x.toNatClampNeg = m := by have := i_nat (a := x) (by omega); omega
    have ea : (a0 + 11).toInt = a0.toInt + 11 := by
      rw [i_add (a := a0) (b := 11) (by omega) (by omega), k11]
    have e1 : (x + 1).toInt = (m : Int) + 1 := by
      clear ea
      rw [i_add (a := x) (b := 1) (by omega) (by omega), k1, hx]
    have e2 : (x + (-1)).toInt = (m : Int) - 1 := by
      clear ea e1
      rw [i_add (a := x) (b := (-1)) (by omega) (by omega), km, hx]
      omega
    obtain ⟨hcd, b0, b1⟩ := hB m (by clear ea e1 e2; omega)
    have D' : DR (m + 1) c (Grd_put_cheapest g m 1000000) cs cut := by
      intro t ht ht'
      have ne : t ≠ m := by clear ea e1 e2; omega
      obtain ⟨w1, w2, w3, w4⟩ := hD t ht ht'
      refine ⟨?_, w2, w3, w4⟩
      show (upd (Grd_cheapest g) m 1000000 t).toInt = _
      rw [upd_ne ne]
      exact w1
    have K' : (Grd_cheapest (Grd_put_cheapest g m 1000000) m).toInt = 1000000 := by
      show (upd (Grd_cheapest g) m 1000000 m).toInt = _
      rw [upd_at]
      decide
    obtain ⟨g1, cs1, cut1, r1, r2, r3, r4⟩ := c_inner (po := po) (pk := pk) (ends := ends) (x6 := x6) (ke := fun zMcost zMcut => Mod_pack_j475 fu po (fun v0 v1 v2 => Mod_pack_L301 fu po a0 x6 s pk cf ends ke n' v0 v1 v2) ke a0 x6 s pk cf ends x zMcost zMcut) hf hc hc64 (by clear ea e1 e2; omega : m < c) hx ea hy0 hy1 (c - m) fu fu m (cf m) (cf m) (x + 1) x (Grd_put_cheapest g m 1000000) cs cut hx e1 (by clear ea e1 e2; omega) (Nat.le_refl m) (by clear ea e1 e2; omega) (by clear ea e1 e2; omega) hcc hB b0 (Int.le_refl _) b1 (fun _ => ⟨rfl, rfl⟩) D' (Or.inl ⟨rfl, K'⟩)
    have hl : Grd_cut_L17 fu a0 kg (n + 1) x g = Grd_cut_L17 fu a0 kg n (x + (-1)) g1 := by
      have ef : Grd_cutFrom fu x (a0 + 11) g = some g1 := by
        unfold Grd_cutFrom
        rw [gd_t g64, gd_t g64, gd_t g65, nx, hcd]
        exact r1
      rw [Grd_cut_L17, if_neg c1, bd_s ef]
    have hr : Mod_pack_L301 fu po a0 x6 s pk cf ends ke (n' + 1) x cs cut = Mod_pack_L301 fu po a0 x6 s pk cf ends ke n' (x + (-1)) cs1 cut1 := by
      rw [Mod_pack_L301, if_neg c1, gd_t g64, gd_t g64, nx]
      exact r2
    obtain ⟨s1, s2, s3, s4⟩ := r3
    obtain ⟨g', cs', cut', q1, q2, q3, q4⟩ := c_outer (po := po) (pk := pk) (ends := ends) (x6 := x6) (ke := ke) (kg := kg) hf hc hc64 hy0 hy1 m n n' (x + (-1)) g1 cs1 cut1 e2 (by clear ea e1 e2; omega) (by clear ea e1 e2; omega) (by clear ea e1 e2; omega) (s3.trans hcc) (fun t ht => by rw [s4]; exact hB t ht) r4
    exact ⟨g', cs', cut', hl.trans q1, hr.trans q2, SGr.trans q3 ⟨s1, s2, s3, s4⟩, q4⟩
theorem c_groups {fu c : Nat} {po pk cf cs : Nat → Int64} {cut : Nat → Int32} {x6 : Int32} (hc64 : c ≤ 64) : ∀ (n n' k : Nat) (x : Int32) (g : S_Grd) (s : S_Mo) (ends : Nat → Int32), x.toInt = (k : Int) → k ≤ c → c - k < n → c - k < n' → Grd_codeCount g = Mo_codes s → (Mo_codes s).toInt = (c : Int) → Grd_groupCount g = Mo_groups s → 0 ≤ (Mo_groups s).toInt → (Mo_groups s).toInt ≤ (k : Int) → (∀ t : Nat, (t : Int) < (Mo_groups s).toInt → Grd_groupEnds g t = ends t) → DR 0 c g cs cut → ∃ (g' : S_Grd) (v : Int32) (ends' : Nat → Int32), Grd_cut_L53 fu n x g = some g' ∧ Mod_pack_L489 fu po x6 pk cf cs cut n' x s ends = some (x6, Mo_set_groups s v, pk, cf, cs, cut, ends') ∧ SGr g' g ∧ Grd_groupBits g' = Grd_groupBits g ∧ Grd_groupCount g' = v ∧ 0 ≤ v.toInt ∧ v.toInt ≤ 64 ∧ (∀ t : Nat, (t : Int) < v.toInt → Grd_groupEnds g' t = ends' t)
  | 0, _, k, x, g, s, ends, _, _, h, _, _, _, _, _, _, _, _ => absurd h (by omega)
  | n + 1, 0, k, x, g, s, ends, _, _, _, h, _, _, _, _, _, _, _ => absurd h (by omega)
  | n + 1, n' + 1, k, x, g, s, ends, hx, hk, hn, hn', hcc, hc, hgc, h0, h1, hE, hD => by
    have k1 : (1 : Int32).toInt = 1 := by decide
    have k64 : (64 : Int32).toInt = 64 := by decide
    by_cases ce : k = c
    · have a1 : Grd_codeCount g ≤ x := by rw [i_le, hcc, hc]; omega
      have a2 : Mo_codes s ≤ x := by rw [i_le, hc]; omega
      refine ⟨g, Mo_groups s, ends, ?_, ?_, ⟨rfl, rfl, rfl, rfl⟩, rfl, hgc, h0, by omega, hE⟩
      · rw [Grd_cut_L53, if_pos a1]
      · rw [Mod_pack_L489, if_pos a2]
    · have a1 : ¬ Grd_codeCount g ≤ x := by rw [i_le, hcc, hc]; omega
      have a2 : ¬ Mo_codes s ≤ x := by rw [i_le, hc]; omega
      have a3 : ¬ (64 : Int32) ≤ Grd_groupCount g := by rw [i_le, hgc]; omega
      have g65 : o_in x 65 = true := i_in.mpr (by omega)
      have nx : x.toNatClampNeg = k := by have := i_nat (a := x) (by omega); omega
      have gg : o_in (Grd_groupCount g) 64 = true := by rw [hgc]; exact i_in.mpr (by omega)
      have gm : o_in (Mo_groups s) 64 = true := i_in.mpr (by omega)
      have ng := i_nat h0
      obtain ⟨_, _, _, w⟩ := hD k (by omega) hk
      obtain ⟨w1, w2, w3⟩ := w (by omega)
      have hl : Grd_cut_L53 fu (n + 1) x g = Grd_cut_L53 fu n (cut k) (Grd_set_groupCount (Grd_put_groupEnds g (Mo_groups s).toNatClampNeg (cut k)) (Mo_groups s + 1)) := by
        rw [Grd_cut_L53, if_neg a1, if_neg a3, gd_t g65, gd_t gg, nx]
        show o_gd (o_in x 65) (Grd_cut_L53 fu n (Grd_firstEnds g k) (Grd_set_groupCount (Grd_put_groupEnds g (Grd_groupCount g).toNatClampNeg (Grd_firstEnds g k)) (Grd_groupCount g + 1))) = _
        rw [gd_t g65, hgc, w1]
      have hr : Mod_pack_L489 fu po x6 pk cf cs cut (n' + 1) x s ends = Mod_pack_L489 fu po x6 pk cf cs cut n' (cut k) (Mo_set_groups s (Mo_groups s + 1)) (upd ends (Mo_groups s).toNatClampNeg (cut k)) := by
        rw [Mod_pack_L489, if_neg a2, gd_t g65, gd_t gm, nx]
        show o_gd (o_in x 65) _ = _
        rw [gd_t g65]
      have e1 : (Mo_groups s + 1).toInt = (Mo_groups s).toInt + 1 := by
        rw [i_add (a := Mo_groups s) (b := 1) (by omega) (by omega), k1]
      obtain ⟨k', hk'⟩ : ∃ k' : Nat, (cut k).toInt = (k' : Int) := ⟨(cut k).toInt.toNat, by omega⟩
      obtain ⟨g', v, ends', q1, q2, q3, q4, q5, q6, q7, q8⟩ := c_groups hc64 n n' k' (cut k) (Grd_set_groupCount (Grd_put_groupEnds g (Mo_groups s).toNatClampNeg (cut k)) (Mo_groups s + 1)) (Mo_set_groups s (Mo_groups s + 1)) (upd ends (Mo_groups s).toNatClampNeg (cut k)) hk' (by omega) (by omega) (by omega) hcc hc rfl (by show 0 ≤ (Mo_groups s + 1).toInt; rw [e1]; clear e1; omega) (by show (Mo_groups s + 1).toInt ≤ _; rw [e1]; clear e1; omega) (by
        intro t ht
        have ht : (t : Int) < (Mo_groups s + 1).toInt := ht
        rw [e1] at ht
        show upd (Grd_groupEnds g) (Mo_groups s).toNatClampNeg (cut k) t = _
        by_cases et : t = (Mo_groups s).toNatClampNeg
        · rw [et, upd_at, upd_at]
        · rw [upd_ne et, upd_ne et]
          exact hE t (by clear e1; omega)) hD
      exact ⟨g', v, ends', hl.trans q1, hr.trans q2, q3, q4, q5, q6, q7, q8⟩
-- packing on both sides
def RGd (g : S_Grd) (s : S_Mo) (po pk cs : Nat → Int64) (ends : Nat → Int32) : Prop := GP g po ∧ (∀ j : Nat, j < 64 → Grd_packed g j = pk j) ∧ Grd_codeCount g = Mo_codes s ∧ (((Mo_codes s).toInt = -1 ∧ Grd_groupBits g = (-1) ∧ Grd_groupCount g = 0) ∨ (0 ≤ (Mo_codes s).toInt ∧ (Grd_groupBits g).toInt = (cs 0).toInt ∧ 0 ≤ (cs 0).toInt ∧ (cs 0).toInt ≤ 2688 ∧ Grd_groupCount g = Mo_groups s ∧ ∀ t : Nat, (t : Int) < (Mo_groups s).toInt → Grd_groupEnds g t = ends t))
theorem c_cut {fu c : Nat} {g1 : S_Grd} {s1 : S_Mo} {po pk1 cf1 cs : Nat → Int64} {cut ends : Nat → Int32} {a0 y : Int32} (hf : 12000 ≤ fu) (ha : 1 ≤ a0.toInt) (hb : a0.toInt ≤ 31) (r1 : Grd_codeCount g1 = Mo_codes s1) (hc : (Mo_codes s1).toInt = (c : Int)) (hc64 : c ≤ 64) (r3 : CB (c : Int) g1 cf1) : ∃ (g3 : S_Grd) (v : Int32) (cs2 : Nat → Int64) (cut2 ends3 : Nat → Int32), Grd_cut fu a0 g1 = some g3 ∧ Mod_pack_j283 fu po a0 y s1 pk1 cf1 cs cut ends = some (y, Mo_set_groups s1 v, pk1, cf1, cs2, cut2, ends3) ∧ SGr g3 g1 ∧ (Grd_groupBits g3).toInt = (cs2 0).toInt ∧ 0 ≤ (cs2 0).toInt ∧ (cs2 0).toInt ≤ 2688 ∧ Grd_groupCount g3 = v ∧ (∀ t : Nat, (t : Int) < v.toInt → Grd_groupEnds g3 t = ends3 t) := by
  have k1 : (1 : Int32).toInt = 1 := by decide
  have kn : (0 : Int32).toNatClampNeg = 0 := by decide
  have gc : o_in (Mo_codes s1) 65 = true := i_in.mpr (by omega)
  have nc : (Mo_codes s1).toNatClampNeg = c := by have := i_nat (a := Mo_codes s1) (by omega); omega
  have ec1 : (Mo_codes s1 - 1).toInt = (c : Int) - 1 := by
    rw [i_sub (a := Mo_codes s1) (b := 1) (by omega) (by omega), k1, hc]
  have D0 : DR c c (Grd_put_cheapest g1 c 0) (vp_updL cs c 0) cut := by
    clear ec1
    intro t ht ht'
    have et : t = c := by omega
    have z32 : (0 : Int32).toInt = 0 := by decide
    have z64 : (0 : Int64).toInt = 0 := by decide
    refine ⟨?_, ?_, ?_, fun h => absurd h (by omega)⟩
    · show (upd (Grd_cheapest g1) c 0 t).toInt = _
      rw [et, upd_at, updL_at, z32, z64]
    · rw [et, updL_at, z64]
      exact Int.le_refl 0
    · rw [et, updL_at, z64]
      omega
  obtain ⟨g2, cs2, cut2, v1, v2, v3, v4⟩ := c_outer (fu := fu) (po := po) (pk := pk1) (cf := cf1) (ends := ends) (x6 := y) (s := s1) (ke := fun zMcost zMcut => Mod_pack_j481 fu po y s1 pk1 cf1 zMcost zMcut ends) (kg := fun zGrd => Grd_cut_j36 fu zGrd) hf hc hc64 ha hb c fu fu (Mo_codes s1 - 1) (Grd_put_cheapest g1 c 0) (vp_updL cs c 0) cut ec1 (Nat.le_refl c) (by clear ec1; omega) (by clear ec1; omega) r1 r3 D0
  obtain ⟨s1', s2, s3, s4⟩ := v3
  have s3 : Grd_codeCount g2 = Mo_codes s1 := s3.trans r1
  obtain ⟨d1, d2, d3, _⟩ := v4 0 (Nat.le_refl 0) (by clear ec1; omega)
  have D2 : DR 0 c (Grd_set_groupCount (Grd_set_groupBits g2 (Grd_cheapest g2 0)) 0) cs2 cut2 := v4
  have z0 : 0 ≤ (0 : Int32).toInt := by decide
  have z1 : (0 : Int32).toInt ≤ ((0 : Nat) : Int) := by decide
  obtain ⟨g3, v, ends3, y1, y2, y3, y4, y5, y6, y7, y8⟩ := c_groups (fu := fu) (po := po) (pk := pk1) (cf := cf1) (cs := cs2) (cut := cut2) (x6 := y) hc64 fu fu 0 0 (Grd_set_groupCount (Grd_set_groupBits g2 (Grd_cheapest g2 0)) 0) (Mo_set_groups s1 0) ends (by decide) (by clear ec1; omega) (by clear ec1; omega) (by clear ec1; omega) s3 hc rfl z0 z1 (fun t ht => by
    have ht : (t : Int) < (0 : Int32).toInt := ht
    clear ec1
    omega) D2
  refine ⟨g3, v, cs2, cut2, ends3, ?_, ?_, ?_, ?_, d2, ?_, y5, y8⟩
  · unfold Grd_cut
    rw [r1, gd_t gc, nc]
    show Grd_cut_L17 fu a0 (fun zGrd => Grd_cut_j36 fu zGrd) fu (Grd_codeCount g1 - 1) (Grd_put_cheapest g1 c 0) = _
    rw [r1, v1]
    unfold Grd_cut_j36
    rw [gd_t (by decide), kn]
    exact y1
  · unfold Mod_pack_j283
    rw [gd_t gc, nc]
    show Mod_pack_L301 fu po a0 y s1 pk1 cf1 ends (fun zMcost zMcut => Mod_pack_j481 fu po y s1 pk1 cf1 zMcost zMcut ends) fu (Mo_codes s1 - 1) (vp_updL cs c 0) cut = _
    rw [v2]
    unfold Mod_pack_j481
    exact y2
  · obtain ⟨t1, t2, t3, t4⟩ := y3
    exact ⟨t1.trans s1', t2.trans s2, t3.trans (s3.trans r1.symm), t4.trans s4⟩
  · have y4 : Grd_groupBits g3 = Grd_cheapest g2 0 := y4
    rw [y4]
    exact d1
  · have d3 : (cs2 0).toInt ≤ 42 * ((c : Int) - ((0 : Nat) : Int)) := d3
    clear ec1
    omega
theorem c_take {fu : Nat} {g : S_Grd} {s : S_Mo} {po pk cf cs : Nat → Int64} {cut ends : Nat → Int32} {a0 : Int32} {lo hi : Int64} (hf : 12000 ≤ fu) (ha : 1 ≤ a0.toInt) (hb : a0.toInt ≤ 31) (G : GP g po) (Pk : ∀ j : Nat, j < 64 → Grd_packed g j = pk j) (L : LH po 64 lo hi) : ∃ (y : Int32) (g1 : S_Grd) (c' : Int32) (pk1 cf1 : Nat → Int64), Grd_takeCodes_j65 fu a0 lo hi g = some (y, g1) ∧ Mod_pack_L154 fu po a0 lo hi s pk cf cs cut ends (fun y6 => Mod_pack_j175 fu po a0 lo y6 s pk cf cs cut ends) fu 0 = Mod_pack_j283 fu po a0 y (Mo_set_codes s c') pk1 cf1 cs cut ends ∧ GP g1 po ∧ Grd_codeCount g1 = c' ∧ (∀ j : Nat, j < 64 → Grd_packed g1 j = pk1 j) ∧ CB c'.toInt g1 cf1 ∧ 0 ≤ c'.toInt ∧ c'.toInt ≤ 64 := by
  have k0 : (0 : Int32).toInt = 0 := by decide
  have pr : ∀ j, j < 64 → ¬ po j = (-9000000000000000000) → -2000000000 ≤ (po j).toInt ∧ (po j).toInt ≤ 2000000000 := by
    intro j hj hm
    rcases (G j hj).2 with h | h
    · exact absurd h hm
    · exact h
  obtain ⟨⟨ja, ja1, ja2, ja3⟩, La, ⟨jb, jb1, jb2, jb3⟩, Lb⟩ := L
  have rlo := pr ja ja1 ja2
  have rhi := pr jb jb1 jb2
  rw [← ja3] at rlo
  rw [← jb3] at rhi
  have lh : lo.toInt ≤ hi.toInt := Int.le_trans (La jb jb1 jb2) (by rw [jb3]; exact Int.le_refl _)
  have ed := i64_sub (a := hi) (b := lo) (by omega) (by omega)
  have e62 : ((2 ^ 62 : Nat) : Int) = 4611686018427387904 := by decide
  obtain ⟨z, qz, ex, em, hz, hz62, hBL⟩ := bl_both (v := hi - lo) hf (by rw [ed]; omega) (by rw [ed, e62]; omega)
  obtain ⟨b, hbn⟩ : ∃ b : Nat, a0.toInt = (b : Int) := ⟨a0.toInt.toNat, by omega⟩
  obtain ⟨y, hy, eY⟩ := m_L154 (fu := fu) (po := po) (pk := pk) (cf := cf) (cs := cs) (cut := cut) (ends := ends) (s := s) (ke := fun y6 => Mod_pack_j175 fu po a0 lo y6 s pk cf cs cut ends) hbn (by omega) (by rw [ed]; omega) hz62 hBL (z - b) fu 0 0 (by decide) (by omega) (by omega)
  have estep : (if 0 < (qz - a0) then (qz - a0) else 0) = y := by
    have es := i_sub (a := qz) (b := a0) (by omega) (by omega)
    by_cases c : 0 < (qz - a0)
    · rw [if_pos c]
      rw [i_lt, es, k0] at c
      exact i_eq.mpr (by rw [es, hy]; omega)
    · rw [if_neg c]
      rw [i_lt, es, k0] at c
      exact i_eq.mpr (by rw [hy, k0]; omega)
  have R0 : CR (Grd_set_codeCount g 0) (Mo_set_codes s 0) pk cf := ⟨rfl, Pk, fun j hj => by
    have hj : (j : Int) < (0 : Int32).toInt := hj
    omega⟩
  have z0 : 0 ≤ (0 : Int32).toInt := by decide
  have z1 : (0 : Int32).toInt ≤ ((0 : Nat) : Int) := by decide
  obtain ⟨g1, c', pk1, cf1, w1, w2, w3, w4, w5, w6⟩ := c_codes (fu := fu) (cs := cs) (cut := cut) (ends := ends) (x1 := a0) (ke := fun zMo zMpacked zMcodeOf => Mod_pack_j283 fu po a0 y zMo zMpacked zMcodeOf cs cut ends) (fun j hj hm => ⟨La j hj hm, (pr j hj hm).2⟩) rlo.1 hy (by omega) 64 fu fu 0 0 (Grd_set_codeCount g 0) (Mo_set_codes s 0) pk cf (by decide) rfl (by omega) (by omega) z0 z1 G R0
  obtain ⟨r1, r2, r3⟩ := w4
  refine ⟨y, g1, c', pk1, cf1, ?_, ?_, w3, r1, r2, r3, w5, w6⟩
  · unfold Grd_takeCodes_j65
    rw [bd_s ex, estep]
    exact w1
  · rw [eY]
    unfold Mod_pack_j175
    exact w2
theorem c_pack {fu : Nat} {sX : S_X} {g : S_Grd} {s : S_Mo} {po pk cf cs : Nat → Int64} {cut ends : Nat → Int32} {a0 : Int32} (hf : 12000 ≤ fu) (R : RGd g s po pk cs ends) : ∃ (q : Int32 × Int32 × S_Grd) (p : A7), X_pack fu sX a0 g = some q ∧ Mod_pack fu po a0 s pk cf cs cut ends = some p ∧ Mo_thrown p.2.1 = q.1 ∧ (q.1 = 0 ∨ q.1 = 1 ∨ q.1 = 2) ∧ (q.1 = 0 → q.2.1 = p.1) ∧ RGd q.2.2 p.2.1 po p.2.2.1 p.2.2.2.2.1 p.2.2.2.2.2.2 := by
  have k1 : (1 : Int32).toInt = 1 := by decide
  have k31 : (31 : Int32).toInt = 31 := by decide
  obtain ⟨lo, hi, eM, hM⟩ := m_L12 (fu := fu) (a0 := a0) (s := s) (po := po) (pk := pk) (cf := cf) (cs := cs) (cut := cut) (ends := ends) (ke := fun y2 y4 => Mod_pack_j110 fu po a0 y2 y4 s pk cf cs cut ends) 64 fu 0 (-9000000000000000000) (-9000000000000000000) 0 (by decide) rfl (by omega) (Or.inl ⟨fun j hj => absurd hj (by omega), rfl, rfl⟩)
  have eM : Mod_pack fu po a0 s pk cf cs cut ends = Mod_pack_j110 fu po a0 lo hi s pk cf cs cut ends := by
    unfold Mod_pack
    exact eM
  have bad : ∀ t : Int32, ¬ t ≤ 0 → Mod_pack_j139 fu po a0 lo hi t s pk cf cs cut ends = some (0, Mo_set_thrown s t, pk, cf, cs, cut, ends) := by
    intro t ht
    unfold Mod_pack_j139
    show (if t ≤ 0 then _ else _) = _
    rw [if_neg ht]
  have good : ∀ t : Int32, t ≤ 0 → Mod_pack_j139 fu po a0 lo hi t s pk cf cs cut ends = Mod_pack_L154 fu po a0 lo hi (Mo_set_thrown s t) pk cf cs cut ends (fun y6 => Mod_pack_j175 fu po a0 lo y6 (Mo_set_thrown s t) pk cf cs cut ends) fu 0 := by
    intro t ht
    unfold Mod_pack_j139
    show (if t ≤ 0 then _ else _) = _
    rw [if_pos ht]
  by_cases ca : a0 < 1
  · refine ⟨(1, 0, g), (0, Mo_set_thrown s 1, pk, cf, cs, cut, ends), ?_, ?_, rfl, Or.inr (Or.inl rfl), fun e => absurd (show (1 : Int32) = 0 from e) (by decide), R⟩
    · unfold X_pack
      rw [if_pos ca]
    · rw [eM]
      unfold Mod_pack_j110 Mod_pack_j122
      rw [if_pos ca]
      exact bad 1 (by decide)
  by_cases cb : a0 ≤ 31
  · have ha : 1 ≤ a0.toInt := by
      rw [i_lt, k1] at ca
      omega
    have hb : a0.toInt ≤ 31 := by rw [i_le, k31] at cb; exact cb
    obtain ⟨G, Pk, Cc, Rr⟩ := R
    obtain ⟨q1, e1, h1⟩ := x_bare (fu := fu) G 64 fu 0 0 (by decide) rfl (by omega) (fun j hj => absurd hj (by omega))
    have e1 : Grd_isBare fu g = some q1 := by
      unfold Grd_isBare
      exact e1
    rcases h1 with ⟨h1, h2⟩ | ⟨h1, j0, h2, h3⟩
    · have hlo : lo = (-9000000000000000000) := by
        rcases hM with ⟨_, h, _⟩ | ⟨⟨j, hj, hj2, _⟩, _⟩
        · exact h
        · exact absurd (h2 j hj) hj2
      refine ⟨(2, 0, g), (0, Mo_set_thrown s 2, pk, cf, cs, cut, ends), ?_, ?_, rfl, Or.inr (Or.inr rfl), fun e => absurd (show (2 : Int32) = 0 from e) (by decide), ⟨G, Pk, Cc, Rr⟩⟩
      · unfold X_pack
        rw [if_neg ca, if_pos cb, bd_s e1, if_neg (by rw [h1]; decide)]
      · rw [eM]
        unfold Mod_pack_j110
        rw [if_neg ca, if_pos cb, if_pos hlo]
        exact bad 2 (by decide)
    · have L : LH po 64 lo hi := by
        rcases hM with ⟨h, _⟩ | h
        · exact absurd (h j0 h2) h3
        · exact h
      obtain ⟨lo', hi', eC, hC⟩ := x_L12 (fu := fu) (a0 := a0) (ke := fun y2 y4 => Grd_takeCodes_j65 fu a0 y2 y4 g) G 64 fu 0 2000000000 (-2000000000) 0 (by decide) rfl (by omega) (Or.inl ⟨fun j hj => absurd hj (by omega), rfl, rfl⟩)
      have eC : Grd_takeCodes fu a0 g = Grd_takeCodes_j65 fu a0 lo' hi' g := by
        unfold Grd_takeCodes
        exact eC
      have L' : LH po 64 lo' hi' := by
        rcases hC with ⟨h, _⟩ | h
        · exact absurd (h j0 h2) h3
        · exact h
      obtain ⟨u1, u2⟩ := LH_uniq L' L
      rw [u1, u2] at eC
      have nlo : ¬ lo = (-9000000000000000000) := by
        obtain ⟨⟨ja, _, ja2, ja3⟩, _⟩ := L
        rw [ja3]
        exact ja2
      obtain ⟨y, g1, c', pk1, cf1, w1, w2, w3, r1, r2, r3, w5, w6⟩ := c_take (s := Mo_set_thrown s 0) (cf := cf) (cs := cs) (cut := cut) (ends := ends) hf ha hb G Pk L
      obtain ⟨c, hc⟩ : ∃ c : Nat, c'.toInt = (c : Int) := ⟨c'.toInt.toNat, by omega⟩
      obtain ⟨s1, hs1⟩ : ∃ s1, s1 = Mo_set_codes (Mo_set_thrown s 0) c' := ⟨_, rfl⟩
      have cs1 : Mo_codes s1 = c' := by rw [hs1]
      have th1 : Mo_thrown s1 = 0 := by rw [hs1]
      rw [← hs1] at w2
      obtain ⟨g3, v, cs2, cut2, ends3, x1, x2, x3, x4, x5, x6, x7, x8⟩ := c_cut (g1 := g1) (s1 := s1) (po := po) (pk1 := pk1) (cf1 := cf1) (cs := cs) (cut := cut) (ends := ends) (y := y) hf ha hb (r1.trans cs1.symm) (by rw [cs1]; exact hc) (by omega) (by rw [← hc]; exact r3)
      refine ⟨(0, y, g3), (y, Mo_set_groups s1 v, pk1, cf1, cs2, cut2, ends3), ?_, ?_, th1, Or.inl rfl, fun _ => rfl, ?_⟩
      · unfold X_pack
        rw [if_neg ca, if_pos cb, bd_s e1, if_pos h1, eC, bd_s w1]
        show o_bd (Grd_cut fu a0 g1) _ = _
        rw [bd_s x1]
      · rw [eM]
        unfold Mod_pack_j110
        rw [if_neg ca, if_pos cb, if_neg nlo, good 0 (by decide), w2, x2]
      · obtain ⟨t1, t2, t3, t4⟩ := x3
        refine ⟨fun j hj => ?_, fun j hj => ?_, ?_, Or.inr ⟨?_, x4, x5, x6, x7, x8⟩⟩
        · show Grd_points g3 j = _ ∧ _
          rw [t1]
          exact w3 j hj
        · show Grd_packed g3 j = _
          rw [t2]
          exact r2 j hj
        · show Grd_codeCount g3 = Mo_codes s1
          rw [t3, cs1]
          exact r1
        · show 0 ≤ (Mo_codes s1).toInt
          rw [cs1]
          exact w5
  · refine ⟨(1, 0, g), (0, Mo_set_thrown s 1, pk, cf, cs, cut, ends), ?_, ?_, rfl, Or.inr (Or.inl rfl), fun e => absurd (show (1 : Int32) = 0 from e) (by decide), R⟩
    · unfold X_pack
      rw [if_neg ca, if_neg cb]
    · rw [eM]
      unfold Mod_pack_j110 Mod_pack_j122
      rw [if_neg ca, if_neg cb]
      exact bad 1 (by decide)

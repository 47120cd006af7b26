-- writing PACKED: what is kept of subset 0
def FFR (Fl : S_Fld) (s : S_Mo) (fk fw fs : Nat → Int32) (fb : Nat → Int64) : Prop := Mo_firstFields s = Fld_count Fl ∧ ∀ i : Nat, (i : Int) < (Fld_count Fl).toInt → fk i = Fld_kinds Fl i ∧ fw i = Fld_widths Fl i ∧ fs i = Fld_scales Fl i ∧ fb i = Fld_references Fl i
theorem keep_L {fu : Nat} {ki wd sc : Nat → Int32} {ba : Nat → Int64} {s : S_Mo} {R : S_Mo × (Nat → Int32) × (Nat → Int32) × (Nat → Int32) × (Nat → Int64)} (h0 : 0 ≤ (Mo_fields s).toInt) (h100 : (Mo_fields s).toInt ≤ 100) : ∀ (n k : Nat) (x : Int32) (fk fw fs : Nat → Int32) (fb : Nat → Int64), x.toInt = (k : Int) → (k : Int) ≤ (Mo_fields s).toInt → (∀ j, j < k → fk j = ki j ∧ fw j = wd j ∧ fs j = sc j ∧ fb j = ba j) → Mod_keepFirst_L10 fu ki wd sc ba s n x fk fw fs fb = some R → R.1 = s ∧ ∀ j : Nat, (j : Int) < (Mo_fields s).toInt → R.2.1 j = ki j ∧ R.2.2.1 j = wd j ∧ R.2.2.2.1 j = sc j ∧ R.2.2.2.2 j = ba j
  | 0, k, x, fk, fw, fs, fb, _, _, _, h => by
    rw [Mod_keepFirst_L10] at h
    cases h
  | n + 1, k, x, fk, fw, fs, fb, hx, hk, hv, h => by
    have k1 : (1 : Int32).toInt = 1 := by decide
    rw [Mod_keepFirst_L10] at h
    by_cases c : (k : Int) = (Mo_fields s).toInt
    · have c1 : Mo_fields s ≤ x := by rw [i_le]; omega
      rw [if_pos c1] at h
      cases h
      exact ⟨rfl, fun j hj => hv j (by omega)⟩
    · have c1 : ¬ Mo_fields s ≤ x := by rw [i_le]; omega
      have nx : x.toNatClampNeg = k := by
        have := i_nat (a := x) (by omega)
        omega
      rw [if_neg c1, nx] at h
      unfold o_lt at h
      dsimp only at h
      have h := oe_gd (oe_gd (oe_gd (oe_gd (oe_gd (oe_gd (oe_gd (oe_gd h)))))))
      have e1 : (x + 1).toInt = ((k + 1 : Nat) : Int) := by
        rw [i_add (a := x) (b := 1) (by omega) (by omega), hx, k1]
        rfl
      refine keep_L h0 h100 n (k + 1) (x + 1) _ _ _ _ e1 (by clear e1; omega) (fun j hj => ?_) h
      by_cases cj : j = k
      · rw [cj]
        exact ⟨upd_at _ _ _, upd_at _ _ _, upd_at _ _ _, updL_at _ _ _⟩
      · obtain ⟨y1, y2, y3, y4⟩ := hv j (by clear e1; omega)
        exact ⟨(upd_ne cj).trans y1, (upd_ne cj).trans y2, (upd_ne cj).trans y3, (show vp_updL fb k (ba k) j = fb j from if_neg cj).trans y4⟩
-- the first other field
theorem icb_x {Fl : S_Fld} {x : Int32} {i : Nat} (hx : x.toInt = (i : Int)) (hi : i < 100) : Fld_isCountOrBit Fl x = some (if Fld_kinds Fl i = 2 ∨ Fld_kinds Fl i = 3 then 1 else 0) := by
  have g : o_in x 100 = true := i_in.mpr (by omega)
  have nx : x.toNatClampNeg = i := by
    have := i_nat (a := x) (by omega)
    omega
  unfold Fld_isCountOrBit
  rw [gd_t g, nx]
  by_cases c2 : Fld_kinds Fl i = 2
  · rw [if_pos c2, if_pos (Or.inl c2)]
  · rw [if_neg c2, gd_t g]
    by_cases c3 : Fld_kinds Fl i = 3
    · rw [if_pos c3, if_pos (Or.inr c3)]
    · rw [if_neg c3, if_neg (fun e => e.elim c2 c3)]
theorem fo_L {fu N : Nat} {Fl : S_Fld} {row row' : Nat → Int64} {q : Int32} (hN : (Fld_count Fl).toInt = (N : Int)) (h100 : N ≤ 100) : ∀ (n i : Nat) (x : Int32), x.toInt = (i : Int) → i ≤ N → (∀ j, j < i → (Fld_kinds Fl j = 2 ∨ Fld_kinds Fl j = 3) → row j = row' j) → Fld_firstOther_L2 fu 100 100 Fl row row' n x = some q → (q = (-1) ∧ ∀ j, j < N → (Fld_kinds Fl j = 2 ∨ Fld_kinds Fl j = 3) → row j = row' j) ∨ (¬ q = (-1) ∧ ∃ i0 : Nat, i0 < N ∧ (Fld_kinds Fl i0 = 2 ∨ Fld_kinds Fl i0 = 3) ∧ ¬ row i0 = row' i0 ∧ ∀ j, j < i0 → (Fld_kinds Fl j = 2 ∨ Fld_kinds Fl j = 3) → row j = row' j)
  | 0, i, x, _, _, _, h => by
    rw [Fld_firstOther_L2] at h
    cases h
  | n + 1, i, x, hx, hi, hA, h => by
    have k1 : (1 : Int32).toInt = 1 := by decide
    have km : ((-1) : Int32).toInt = -1 := by decide
    rw [Fld_firstOther_L2] at h
    by_cases c : i = N
    · have c1 : Fld_count Fl ≤ x := by rw [i_le]; omega
      rw [if_pos c1] at h
      cases h
      rw [c] at hA
      exact Or.inl ⟨rfl, hA⟩
    · have c1 : ¬ Fld_count Fl ≤ x := by rw [i_le]; omega
      have nx : x.toNatClampNeg = i := by
        have := i_nat (a := x) (by omega)
        omega
      have e1 : (x + 1).toInt = ((i + 1 : Nat) : Int) := by
        rw [i_add (a := x) (b := 1) (by omega) (by omega), hx, k1]
        rfl
      rw [if_neg c1, bd_s (icb_x hx (by omega))] at h
      have go : ((Fld_kinds Fl i = 2 ∨ Fld_kinds Fl i = 3) → row i = row' i) → Fld_firstOther_L2 fu 100 100 Fl row row' n (x + 1) = some q → (q = (-1) ∧ ∀ j, j < N → (Fld_kinds Fl j = 2 ∨ Fld_kinds Fl j = 3) → row j = row' j) ∨ (¬ q = (-1) ∧ ∃ i0 : Nat, i0 < N ∧ (Fld_kinds Fl i0 = 2 ∨ Fld_kinds Fl i0 = 3) ∧ ¬ row i0 = row' i0 ∧ ∀ j, j < i0 → (Fld_kinds Fl j = 2 ∨ Fld_kinds Fl j = 3) → row j = row' j) := by
        intro ha g
        refine fo_L hN h100 n (i + 1) (x + 1) e1 (by clear e1; omega) (fun j hj hk => ?_) g
        by_cases cj : j = i
        · rw [cj] at hk ⊢
          exact ha hk
        · exact hA j (by clear e1; omega) hk
      by_cases ck : Fld_kinds Fl i = 2 ∨ Fld_kinds Fl i = 3
      · rw [if_pos ck, if_neg (show ¬ (1 : Int32) = 0 by decide), nx] at h
        have h := oe_gd (oe_gd h)
        by_cases cv : row i = row' i
        · rw [if_pos cv] at h
          exact go (fun _ => cv) h
        · rw [if_neg cv] at h
          cases h
          refine Or.inr ⟨fun e => ?_, i, by clear e1; omega, ck, cv, hA⟩
          rw [i_eq, km] at e
          clear e1
          omega
      · rw [if_neg ck, if_pos rfl] at h
        exact go (fun e => absurd e ck) h
-- isLike
theorem il_x {s : S_Mo} {va : Nat → Int64} {ki wd sc : Nat → Int32} {ba : Nat → Int64} {fk fw fs : Nat → Int32} {fb : Nat → Int64} {x : Int32} {i k : Nat} {q : Int32} (hx : x.toInt = (i : Int)) (hi : i < 100) (hs : (Mo_subset s).toInt = (k : Int)) (hk : k < 8) (h : Mod_isLike s va ki wd sc ba fk fw fs fb x = some q) : ((ki i = fk i ∧ wd i = fw i ∧ sc i = fs i ∧ ba i = fb i ∧ ((ki i = 2 ∨ ki i = 3) → va (100 * k + i) = va i)) → ¬ q = 0) ∧ (((ki i = 2 ∨ ki i = 3) ∧ ¬ va (100 * k + i) = va i) → q = 0) := by
  have n : x.toNatClampNeg = i := by
    have := i_nat (a := x) (by omega)
    omega
  have ix := (idx_k hs hk hx hi).1
  have j25 : ∀ t0 : Int32, (t0 = 0 ↔ ¬ (ki i = 2 ∨ ki i = 3)) → Mod_isLike_j25 s va ki wd sc ba fk fw fs fb x t0 = some q → ((ki i = fk i ∧ wd i = fw i ∧ sc i = fs i ∧ ba i = fb i ∧ ((ki i = 2 ∨ ki i = 3) → va (100 * k + i) = va i)) → ¬ q = 0) ∧ (((ki i = 2 ∨ ki i = 3) ∧ ¬ va (100 * k + i) = va i) → q = 0) := by
    intro t0 ht g
    unfold Mod_isLike_j25 at g
    have g := oe_gd (oe_gd g)
    rw [n] at g
    by_cases d1 : ki i = fk i
    · rw [if_pos d1] at g
      have g := oe_gd (oe_gd g)
      by_cases d2 : wd i = fw i
      · rw [if_pos d2] at g
        have g := oe_gd (oe_gd g)
        by_cases d3 : sc i = fs i
        · rw [if_pos d3] at g
          have g := oe_gd (oe_gd g)
          by_cases d4 : ba i = fb i
          · rw [if_pos d4] at g
            by_cases d5 : t0 = 0
            · rw [if_pos d5] at g
              cases g
              exact ⟨fun _ => by decide, fun e => absurd e.1 (ht.1 d5)⟩
            · rw [if_neg d5, ix] at g
              have g := oe_gd (oe_gd g)
              by_cases d6 : va (100 * k + i) = va i
              · rw [if_pos d6] at g
                cases g
                exact ⟨fun _ => by decide, fun e => absurd d6 e.2⟩
              · rw [if_neg d6] at g
                cases g
                refine ⟨fun e => ?_, fun _ => rfl⟩
                have : ki i = 2 ∨ ki i = 3 := by
                  by_cases z : ki i = 2 ∨ ki i = 3
                  · exact z
                  · exact absurd (ht.2 z) d5
                exact absurd (e.2.2.2.2 this) d6
          · rw [if_neg d4] at g
            cases g
            exact ⟨fun e => absurd e.2.2.2.1 d4, fun _ => rfl⟩
        · rw [if_neg d3] at g
          cases g
          exact ⟨fun e => absurd e.2.2.1 d3, fun _ => rfl⟩
      · rw [if_neg d2] at g
        cases g
        exact ⟨fun e => absurd e.2.1 d2, fun _ => rfl⟩
    · rw [if_neg d1] at g
      cases g
      exact ⟨fun e => absurd e.1 d1, fun _ => rfl⟩
  unfold Mod_isLike at h
  have h := oe_gd h
  rw [n] at h
  by_cases c2 : ki i = 2
  · rw [if_pos c2] at h
    exact j25 1 ⟨fun e => absurd e (by decide), fun e => absurd (Or.inl c2) e⟩ h
  · rw [if_neg c2] at h
    have h := oe_gd h
    by_cases c3 : ki i = 3
    · rw [if_pos c3] at h
      exact j25 1 ⟨fun e => absurd e (by decide), fun e => absurd (Or.inr c3) e⟩ h
    · rw [if_neg c3] at h
      exact j25 0 ⟨fun _ e => e.elim c2 c3, fun _ => rfl⟩ h

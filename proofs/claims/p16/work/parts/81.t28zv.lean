-- opening the tape, on both sides
theorem bc_n {tp : S_Bits} {n : Nat} (h : (Bits_length tp).toInt = 8 * (n : Int)) (hn : n ≤ 1000) : ∃ q : Int32, Bits_byteCount 1000 tp = some q ∧ q.toInt = (n : Int) := by
  have k7 : (7 : Int32).toInt = 7 := by decide
  refine ⟨(Bits_length tp + 7) / 8, rfl, ?_⟩
  have e : (Bits_length tp + 7).toInt = 8 * (n : Int) + 7 := by
    rw [i_add (a := Bits_length tp) (b := 7) (by omega) (by omega), h, k7]
  rw [i_div8 (by rw [e]; clear e; omega), e]
  clear e
  omega
theorem rows_L {fu : Nat} {tp : S_Bits} {x1 : Int32} {Re : S_Rea} {ke : (Nat → Nat → Int64) → Option (Int32 × S_Rea × (Nat → Nat → Int64))} (hf : 12000 ≤ fu) : ∀ (n kk : Nat) (y : Int32) (RR : Nat → Nat → Int64), y.toInt = (kk : Int) → kk ≤ 8 → 8 - kk < n → (∀ a j : Nat, a < kk → j < 100 → RR a j = (-9000000000000000000)) → ∃ RR' : Nat → Nat → Int64, Rea_open_L101 fu tp x1 Re ke n y RR = ke RR' ∧ ∀ a j : Nat, a < 8 → j < 100 → RR' a j = (-9000000000000000000)
  | 0, kk, y, RR, hy, hk, hn, h => absurd hn (by omega)
  | n + 1, kk, y, RR, hy, hk, hn, h => by
    have k1 : (1 : Int32).toInt = 1 := by decide
    have k8 : (8 : Int32).toInt = 8 := by decide
    by_cases c : kk = 8
    · have c1 : (8 : Int32) ≤ y := by rw [i_le]; omega
      refine ⟨RR, ?_, by rw [c] at h; exact h⟩
      rw [Rea_open_L101, if_pos c1]
    · have c1 : ¬ (8 : Int32) ≤ y := by rw [i_le]; omega
      have g8 : o_in y 8 = true := i_in.mpr (by omega)
      have ny : y.toNatClampNeg = kk := by
        have := i_nat (a := y) (by omega)
        omega
      obtain ⟨q, eq, hq⟩ := yy_fillJ (fu := fu) (m := 100) (v := -9000000000000000000) (f := RR kk) hf (by decide)
      have y1 : (y + 1).toInt = ((kk + 1 : Nat) : Int) := by
        rw [i_add (a := y) (b := 1) (by omega) (by omega), hy, k1]
        rfl
      obtain ⟨RR', g1, g2⟩ := rows_L (fu := fu) (tp := tp) (x1 := x1) (Re := Re) (ke := ke) hf n (kk + 1) (y + 1) (gr_set RR kk q) y1 (by clear y1; omega) (by clear y1; omega) (fun a j ha hj => by
        show (if a = kk then q else RR a) j = _
        by_cases ca : a = kk
        · rw [if_pos ca]
          exact hq j hj
        · rw [if_neg ca]
          exact h a j (by clear y1; omega) hj)
      refine ⟨RR', ?_, g2⟩
      rw [Rea_open_L101, if_neg c1, gd_t g8, ny, bd_s eq]
      exact g1
def OpR (tp : S_Bits) (tape : Nat → Int32) (s : S_Mo) (r : Int32 × S_Mo × (Nat → Int32)) (Re' : S_Rea) (RR' : Nat → Nat → Int64) : Prop := ∃ (z : Int32) (m : Nat), r.2.1 = Mo_set_many s z ∧ z.toInt = (m : Int) ∧ m ≤ 40000 ∧ Rea_packed Re' = (if tape 0 = 67 then 1 else 0) ∧ Rea_subsets Re' = tape 1 ∧ 1 ≤ (tape 1).toInt ∧ (tape 1).toInt ≤ 8 ∧ (Rea_at Re').toInt = 32 ∧ (Rea_end Re').toInt = 32 + (m : Int) ∧ BiR tp r.2.2 (m : Int) ∧ ∀ a j : Nat, a < 8 → j < 100 → RR' a j = (-9000000000000000000)
theorem open_both {fu : Nat} {tp : S_Bits} {tape : Nat → Int32} {x1 : Int32} {s : S_Mo} {bi : Nat → Int32} {Re : S_Rea} {RR : Nat → Nat → Int64} {r : Int32 × S_Mo × (Nat → Int32)} (hf : 12000 ≤ fu) (T : TpR tp tape x1) (At : ∀ j : Nat, 0 ≤ (tape j).toInt ∧ (tape j).toInt ≤ 255) (h : Mod_unpack fu tape x1 s bi = some r) : ∃ (b : Int32) (Re' : S_Rea) (RR' : Nat → Nat → Int64), Rea_open fu tp Re RR = some (b, Re', RR') ∧ Rea_fault Re' = 0 ∧ ((b = 0 ∧ r.1 = 0 ∧ Mo_fault r.2.1 = Mo_fault s) ∨ (b = 1 ∧ ¬ r.1 = 0 ∧ OpR tp tape s r Re' RR')) := by
  have k0 : (0 : Int32).toInt = 0 := by decide
  have k1 : (1 : Int32).toInt = 1 := by decide
  have k4 : (4 : Int32).toInt = 4 := by decide
  have k7 : (7 : Int32).toInt = 7 := by decide
  have k8 : (8 : Int32).toInt = 8 := by decide
  have k32 : (32 : Int32).toInt = 32 := by decide
  obtain ⟨T1, T2, T3, T4, _⟩ := T
  obtain ⟨n, hn⟩ : ∃ n : Nat, x1.toInt = (n : Int) := ⟨x1.toInt.toNat, by omega⟩
  obtain ⟨q, eq, hq⟩ := bc_n (tp := tp) (n := n) (by rw [T1, hn]) (by omega)
  unfold Mod_unpack at h
  by_cases c4 : x1 < 4
  · rw [if_pos c4] at h
    cases h
    have nq : ¬ (4 : Int32) ≤ q := by
      rw [i_lt] at c4
      rw [i_le]
      omega
    refine ⟨0, Rea_set_place (Rea_set_fault Re 0) (-1), RR, ?_, rfl, Or.inl ⟨rfl, rfl, rfl⟩⟩
    unfold Rea_open o_lt
    dsimp only
    rw [bd_s eq, if_neg nq]
  · have c4' := c4
    rw [i_lt] at c4'
    have cq : (4 : Int32) ≤ q := by
      rw [i_le]
      omega
    rw [if_neg c4] at h
    have h := oe_gd h
    have b0 : Bits_bytes tp 0 = tape 0 := T4 0 (by omega)
    have b1 : Bits_bytes tp 1 = tape 1 := T4 1 (by omega)
    have b2 : Bits_bytes tp 2 = tape 2 := T4 2 (by omega)
    have b3 : Bits_bytes tp 3 = tape 3 := T4 3 (by omega)
    have a1 := At 1
    have a2 := At 2
    have a3 := At 3
    have m1 := i_mull 256 (tape 2) 256 (by decide) (by omega) (by omega)
    have em : (256 * tape 2 + tape 3).toInt = 256 * (tape 2).toInt + (tape 3).toInt := by
      rw [i_add (a := 256 * tape 2) (b := tape 3) (by rw [m1]; clear m1; omega) (by rw [m1]; clear m1; omega), m1]
    have ee1 : (32 + 256 * tape 2).toInt = 32 + 256 * (tape 2).toInt := by
      clear em
      rw [i_add (a := 32) (b := 256 * tape 2) (by rw [m1, k32]; clear m1; omega) (by rw [m1, k32]; clear m1; omega), m1, k32]
    have ee : (32 + 256 * tape 2 + tape 3).toInt = 32 + (256 * (tape 2).toInt + (tape 3).toInt) := by
      clear em m1
      rw [i_add (a := 32 + 256 * tape 2) (b := tape 3) (by rw [ee1]; clear ee1; omega) (by rw [ee1]; clear ee1; omega), ee1]
      clear ee1
      omega
    clear m1 ee1
    obtain ⟨m, hm⟩ : ∃ m : Nat, 256 * (tape 2).toInt + (tape 3).toInt = (m : Int) := ⟨(256 * (tape 2).toInt + (tape 3).toInt).toNat, by clear em ee; omega⟩
    rw [hm] at em ee
    have hm6 : m ≤ 65535 := by clear em ee; omega
    -- the class's head
    obtain ⟨t, ht⟩ : ∃ t : Int32, t = (if tape 0 = 67 then 1 else 0) := ⟨_, rfl⟩
    have t01 : t = 0 ∨ t = 1 := by
      rw [ht]
      by_cases c : tape 0 = 67
      · rw [if_pos c]
        exact Or.inr rfl
      · rw [if_neg c]
        exact Or.inl rfl
    obtain ⟨Re1, hRe1⟩ : ∃ Re1, Re1 = Rea_set_end (Rea_set_at (Rea_set_packed (Rea_set_subsets (Rea_set_place (Rea_set_fault Re 0) (-1)) (tape 1)) t) 32) (32 + 256 * tape 2 + tape 3) := ⟨_, rfl⟩
    obtain ⟨RR', g1, g2⟩ := rows_L (fu := fu) (tp := tp) (x1 := tape 0) (Re := Re1) (ke := fun zRR => Rea_open_j125 fu tp (tape 0) Re1 zRR) hf fu 0 0 RR (by decide) (by omega) (by clear em ee; omega) (fun a j ha _ => absurd ha (by omega))
    have hop : Rea_open fu tp Re RR = Rea_open_j125 fu tp (tape 0) Re1 RR' := by
      have j58 : Rea_open_j58 fu tp (tape 0) t (Rea_set_subsets (Rea_set_place (Rea_set_fault Re 0) (-1)) (tape 1)) RR = Rea_open_j125 fu tp (tape 0) Re1 RR' := by
        unfold Rea_open_j58 o_lt
        dsimp only
        have gb : o_bool t = true := by
          rcases t01 with y | y <;> rw [y] <;> decide
        rw [gd_t gb, gd_t (show o_in 2 1000 = true by decide), gd_t (show o_in 3 1000 = true by decide)]
        have n2 : (2 : Int32).toNatClampNeg = 2 := by decide
        have n3 : (3 : Int32).toNatClampNeg = 3 := by decide
        rw [n2, n3, b2, b3]
        show Rea_open_L101 fu tp (tape 0) (Rea_set_end (Rea_set_at (Rea_set_packed (Rea_set_subsets (Rea_set_place (Rea_set_fault Re 0) (-1)) (tape 1)) t) 32) (32 + 256 * tape 2 + tape 3)) (fun zRR => Rea_open_j125 fu tp (tape 0) (Rea_set_end (Rea_set_at (Rea_set_packed (Rea_set_subsets (Rea_set_place (Rea_set_fault Re 0) (-1)) (tape 1)) t) 32) (32 + 256 * tape 2 + tape 3)) zRR) fu 0 RR = _
        rw [← hRe1]
        exact g1
      unfold Rea_open o_lt
      dsimp only
      have n0 : (0 : Int32).toNatClampNeg = 0 := by decide
      have n1 : (1 : Int32).toNatClampNeg = 1 := by decide
      rw [bd_s eq, if_pos cq, gd_t (show o_in 0 1000 = true by decide), gd_t (show o_in 1 1000 = true by decide), n0, n1, b0, b1]
      by_cases c67 : tape 0 = 67
      · rw [if_pos c67] at ht ⊢
        rw [ht] at j58
        exact j58
      · rw [if_neg c67] at ht ⊢
        rw [ht] at j58
        exact j58
    have hfl : Rea_fault Re1 = 0 := by rw [hRe1]
    have hpk : Rea_packed Re1 = t := by rw [hRe1]
    have hsu : Rea_subsets Re1 = tape 1 := by rw [hRe1]
    have hat : (Rea_at Re1).toInt = 32 := by rw [hRe1]; exact k32
    have hen : (Rea_end Re1).toInt = 32 + (m : Int) := by rw [hRe1]; exact ee
    clear ee
    rw [hop]
    -- behind the form's number
    have tail : ∀ r : Int32 × S_Mo × (Nat → Int32), Mod_unpack_j27 fu tape x1 s bi = some r → ∃ (b : Int32) (Re' : S_Rea) (RR'' : Nat → Nat → Int64), Rea_open_j138 fu tp Re1 RR' = some (b, Re', RR'') ∧ Rea_fault Re' = 0 ∧ ((b = 0 ∧ r.1 = 0 ∧ Mo_fault r.2.1 = Mo_fault s) ∨ (b = 1 ∧ ¬ r.1 = 0 ∧ OpR tp tape s r Re' RR'')) := by
      intro r h
      unfold Mod_unpack_j27 o_lt at h
      dsimp only at h
      have n1 : (1 : Int32).toNatClampNeg = 1 := by decide
      have n2 : (2 : Int32).toNatClampNeg = 2 := by decide
      have n3 : (3 : Int32).toNatClampNeg = 3 := by decide
      have h := oe_gd h
      rw [n1] at h
      by_cases s1 : tape 1 < 1
      · rw [if_pos s1] at h
        cases h
        refine ⟨0, Re1, RR', ?_, hfl, Or.inl ⟨rfl, rfl, rfl⟩⟩
        unfold Rea_open_j138
        rw [hsu, if_pos s1]
      · rw [if_neg s1] at h
        have h := oe_gd h
        by_cases s8 : tape 1 ≤ 8
        · have s8' : ¬ (8 : Int32) < tape 1 := by
            rw [i_le] at s8
            rw [i_lt]
            clear em
            omega
          rw [if_pos s8] at h
          have h := oe_gd (oe_gd h)
          rw [n2, n3] at h
          have h : (if x1 = 4 + ((256 * tape 2 + tape 3 + 7) / 8) then Mod_unpack_L93 fu tape x1 (Mo_set_many s (256 * tape 2 + tape 3)) fu 1 0 bi else some (0, Mo_set_many s (256 * tape 2 + tape 3), bi)) = some r := h
          have e7 : (256 * tape 2 + tape 3 + 7).toInt = (m : Int) + 7 := by
            rw [i_add (a := 256 * tape 2 + tape 3) (b := 7) (by rw [em, k7]; clear em; omega) (by rw [em, k7]; clear em; omega), em, k7]
          have e8 : ((256 * tape 2 + tape 3 + 7) / 8).toInt = (((m + 7) / 8 : Nat) : Int) := by
            rw [i_div8 (by rw [e7]; clear e7 em; omega), e7]
            clear e7 em
            omega
          have e9 : (4 + (256 * tape 2 + tape 3 + 7) / 8).toInt = 4 + (((m + 7) / 8 : Nat) : Int) := by
            rw [i_add (a := 4) (b := (256 * tape 2 + tape 3 + 7) / 8) (by rw [e8, k4]; clear e7 e8 em; omega) (by rw [e8, k4]; clear e7 e8 em; omega), e8, k4]
          have f7 : (Rea_end Re1 + 7).toInt = 32 + (m : Int) + 7 := by
            clear e7 e8 e9 em
            rw [i_add (a := Rea_end Re1) (b := 7) (by omega) (by omega), hen, k7]
          have f8 : ((Rea_end Re1 + 7) / 8).toInt = 4 + (((m + 7) / 8 : Nat) : Int) := by
            clear e7 e8 e9 em
            rw [i_div8 (by rw [f7]; clear f7; omega), f7]
            clear f7
            omega
          by_cases cn : x1 = 4 + ((256 * tape 2 + tape 3 + 7) / 8)
          · rw [if_pos cn] at h
            have cn' := cn
            rw [i_eq, e9, hn] at cn'
            have cq8 : q = (Rea_end Re1 + 7) / 8 := i_eq.mpr (by rw [f8, hq]; clear e7 e8 e9 f7 f8 em; omega)
            clear e7 e8 e9 f7 f8
            have hm8 : m + 32 ≤ 8 * n ∧ 8 * n ≤ m + 39 := by clear em; omega
            have e4 : (x1 - 4).toInt = (n : Int) - 4 := by
              clear em
              rw [i_sub (a := x1) (b := 4) (by omega) (by omega), hn, k4]
            have eT : (8 * (x1 - 4)).toInt = ((8 * (n - 4) : Nat) : Int) := by
              rw [i_mull 8 (x1 - 4) 8 k8 (by rw [e4]; clear e4 em; omega) (by rw [e4]; clear e4 em; omega), e4]
              clear e4 em
              omega
            clear e4
            obtain ⟨y1, y2, y3, y4⟩ := unp_L (T := 8 * (n - 4)) (m := m) (s := Mo_set_many s (256 * tape 2 + tape 3)) eT (by clear eT em; omega) em (by clear eT em; omega) fu 0 1 0 bi r (by decide) (by omega) (Or.inr rfl) (fun j hj _ => absurd hj (by omega)) ⟨fun _ j _ hj => absurd hj (by omega), fun _ => rfl⟩ h
            clear eT
            have ew : (Bits_length tp - Rea_end Re1).toInt = 8 * (n : Int) - 32 - (m : Int) := by
              clear em
              rw [i_sub (a := Bits_length tp) (b := Rea_end Re1) (by omega) (by omega), T1, hen, hn]
              omega
            have ea : (Rea_end Re1 + (Bits_length tp - Rea_end Re1)).toInt = 8 * (n : Int) := by
              rw [i_add (a := Rea_end Re1) (b := Bits_length tp - Rea_end Re1) (by rw [ew]; clear ew em; omega) (by rw [ew]; clear ew em; omega), ew, hen]
              clear ew em
              omega
            clear ew
            have hbt : ∀ k : Nat, k < 8 * (n - 4) → bt (Bits_bytes tp) k = bt tape k := by
              intro k hk
              unfold bt
              rw [T4 (4 + k / 8) (by clear em ea; omega)]
            obtain ⟨u, z1, z2⟩ := numz_L (fu := fu) (tp := tp) (a0 := Rea_end Re1) (w := Bits_length tp - Rea_end Re1) (by rw [T1]; clear em ea; omega) (8 * n - 32 - m) fu m 0 0 (Rea_end Re1) hen (by rw [ea]; clear em ea; omega) (by rw [T1]; clear em ea; omega) (by clear em ea; omega) (by clear em ea; omega) (by decide) (by decide)
            have z1 : Bits_numberAt fu 1000 tp (Rea_end Re1) (Bits_length tp - Rea_end Re1) = some u := z1
            have hall : u = 0 ↔ r.1 = 1 := by
              rw [z2, y4]
              refine ⟨fun a j h1 h2 => ?_, fun a => ⟨rfl, fun q h1 h2 => ?_⟩⟩
              · rw [← hbt j h2]
                exact a.2 j h1 (by clear em ea; omega)
              · rw [hbt q (by clear em ea; omega)]
                exact a q h1 (by clear em ea; omega)
            have hj : Rea_open_j138 fu tp Re1 RR' = (if u = 0 then some (1, Re1, RR') else some (0, Re1, RR')) := by
              unfold Rea_open_j138
              rw [hsu, if_neg s1, if_neg s8', bd_s eq, if_pos cq8, bd_s z1]
            rw [hj]
            rcases y1 with y1 | y1
            · have nu : ¬ u = 0 := fun e => by
                have := hall.1 e
                rw [y1] at this
                exact absurd this (by decide)
              rw [if_neg nu]
              refine ⟨0, Re1, RR', rfl, hfl, Or.inl ⟨rfl, y1, ?_⟩⟩
              rw [y2]
            · rw [if_pos (hall.2 y1)]
              refine ⟨1, Re1, RR', rfl, hfl, Or.inr ⟨rfl, by rw [y1]; decide, 256 * tape 2 + tape 3, m, y2, em, by clear em ea; omega, by rw [hpk]; exact ht, hsu, ?_, ?_, hat, hen, ?_, g2⟩⟩
              · rw [i_lt] at s1
                clear em ea
                omega
              · rw [i_le] at s8
                clear em ea
                omega
              · intro k x hk hx
                have hk' : k < m := by clear em ea; omega
                have e := y3 k (by clear em ea; omega) hk'
                rw [e]
                refine ⟨bt_01 tape k, ?_⟩
                rw [bit_c (k := k) hx (by rw [T1]; clear em ea; omega) (by rw [T1]; clear em ea; omega), hbt k (by clear em ea; omega)]
          · rw [if_neg cn] at h
            cases h
            have cq8 : ¬ q = (Rea_end Re1 + 7) / 8 := by
              intro e
              apply cn
              rw [i_eq, e9, hn]
              rw [i_eq, f8, hq] at e
              exact e
            refine ⟨0, Re1, RR', ?_, hfl, Or.inl ⟨rfl, rfl, rfl⟩⟩
            unfold Rea_open_j138
            rw [hsu, if_neg s1, if_neg s8', bd_s eq, if_neg cq8]
        · have s8' : (8 : Int32) < tape 1 := by
            rw [i_le] at s8
            rw [i_lt]
            clear em
            omega
          rw [if_neg s8] at h
          cases h
          refine ⟨0, Re1, RR', ?_, hfl, Or.inl ⟨rfl, rfl, rfl⟩⟩
          unfold Rea_open_j138
          rw [hsu, if_neg s1, if_pos s8']
    have n0 : (0 : Int32).toNatClampNeg = 0 := by decide
    rw [n0] at h
    unfold Rea_open_j125
    rw [hpk]
    by_cases c66 : tape 0 = 66
    · have c67 : ¬ tape 0 = 67 := by rw [c66]; decide
      rw [if_pos c66] at h
      rw [if_neg c67] at ht
      rw [ht, if_pos rfl, if_pos c66]
      exact tail r h
    · rw [if_neg c66] at h
      have h := oe_gd h
      by_cases c67 : tape 0 = 67
      · rw [if_pos c67] at h ht
        rw [ht, if_neg (by decide)]
        exact tail r h
      · rw [if_neg c67] at h ht
        cases h
        rw [ht, if_pos rfl, if_neg c66]
        exact ⟨0, Re1, RR', rfl, hfl, Or.inl ⟨rfl, rfl, rfl⟩⟩

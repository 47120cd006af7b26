-- field, reference, find: class and reference
theorem has_x {Fl : S_Fld} {a : Int32} : Fld_has Fl a = some (if 0 ≤ a.toInt ∧ a.toInt < (Fld_count Fl).toInt then 1 else 0) := by
  have k0 : (0 : Int32).toInt = 0 := by decide
  unfold Fld_has
  by_cases c1 : a < 0
  · rw [if_pos c1]
    rw [i_lt] at c1
    rw [if_neg (by omega)]
  · rw [if_neg c1]
    by_cases c2 : Fld_count Fl ≤ a
    · rw [if_pos c2]
      rw [i_le] at c2
      rw [if_neg (by omega)]
    · rw [if_neg c2]
      rw [i_lt] at c1
      rw [i_le] at c2
      rw [if_pos (by omega)]
abbrev GQ : Type := Int32 × S_Prog × S_Walk × S_Fld × S_Lps
theorem field_both {fu : Nat} {t : S_Tab} {P : S_Prog} {X : S_X} {VAL : Nat → Nat → Int64} {W : S_Walk} {Fl : S_Fld} {L : S_Lps} {th sc rf wi ls le : Nat → Int32} {va : Nat → Int64} {bi : Nat → Int32} {a0 : Int32} {s : S_Mo} {rd : Nat → Int64} {li ne en be lf tu fo op ki co wd sca lk rp : Nat → Int32} {ba : Nat → Int64} {ea pa : Nat → Int32} {a1 a2 : Int32} {R : A20} (hf : 12000 ≤ fu) (It_ : I_Tab t) (IP : I_Prog P) (IW : I_Walk W) (IF : I_Fld Fl) (IL : I_Lps L) (Iw : A_Mwidths wi) (Is : A_Mscales sc) (Ils : A_Mlists ls) (Ile : A_Mlengths le) (I : I_Mo s) (Ifo : A_MfoundOps fo) (Iop : A_Mops op) (Aw : A_Mwidth wd) (Ae : A_MelementAt ea) (Ap : A_MpointAt pa) (T : TbR t (Mo_used s) th sc rf wi ls le) (V : RwR VAL va) (h : Mod_field fu th sc rf wi ls le va bi a0 a1 a2 s rd li ne en be lf tu fo op ki co wd sca lk rp ba ea pa = some R) : ∃ Q : GQ, X_field fu X VAL t a0 a1 a2 P W Fl L = some Q ∧ Q.1 = R.1 := by
  have k0 : (0 : Int32).toInt = 0 := by decide
  unfold Mod_field o_lt at h
  dsimp only at h
  by_cases c1 : a1 < 0
  · rw [if_pos c1] at h
    cases h
    obtain ⟨⟨b, P', W', Fl', L'⟩, e, _⟩ := t_X_walkOver (fu := fu) (sX := X) (sVAL := VAL) (a0 := a0) hf It_ IP IW IF IL
    rw [i_lt] at c1
    unfold X_field
    rw [bd_s e]
    by_cases cb : b = 0
    · rw [if_pos cb]
      exact ⟨_, rfl, rfl⟩
    · have hx0 : Fld_has Fl' a1 = some 0 := by rw [has_x, if_neg (by omega)]
      rw [if_neg cb, bd_s hx0, if_pos rfl]
      exact ⟨_, rfl, rfl⟩
  · rw [if_neg c1] at h
    obtain ⟨R2, eA, h⟩ := oi_bd h
    obtain ⟨b, P', W', Fl', L', e, hA⟩ := ask_both (X := X) (P := P) (W := W) (Fl := Fl) (L := L) (s := Mo_set_thrown s 0) hf It_ IP Iw Is Ils Ile (I_Mo_set_thrown I) Ifo Iop Aw Ae Ap T V eA
    rw [i_lt] at c1
    unfold X_field
    rw [bd_s e]
    rcases hA with ⟨g1, g2⟩ | ⟨g1, g2, g3, g4, g5⟩
    · have n : ¬ a1 < R2.1 := by rw [g2, i_lt]; omega
      rw [if_neg n] at h
      cases h
      rw [if_pos g1]
      exact ⟨_, rfl, rfl⟩
    · rw [if_neg (show ¬ b = 0 by rw [g1]; decide)]
      by_cases c2 : a1 < R2.1
      · have c2' := c2
        rw [i_lt] at c2'
        have g : o_in a1 100 = true := i_in.mpr (by omega)
        have gg : o_in a1 101 = true := i_in.mpr (by omega)
        have na : (a1.toNatClampNeg : Int) < R2.1.toInt := by
          have := i_nat (a := a1) (by omega)
          omega
        obtain ⟨y1, y2, y3, y4, y5, y6, y7⟩ := g5 a1.toNatClampNeg na
        rw [if_pos c2] at h
        have hx1 : Fld_has Fl' a1 = some 1 := by rw [has_x, g2, if_pos ⟨by omega, c2'⟩]
        rw [bd_s hx1, if_neg (show ¬ (1 : Int32) = 0 by decide)]
        dsimp only
        by_cases d0 : a2 = 0
        · rw [if_pos d0, gd_t gg] at h
          cases h
          rw [if_pos d0, gd_t g]
          exact ⟨_, rfl, y1⟩
        rw [if_neg d0] at h ⊢
        by_cases d1 : a2 = 1
        · rw [if_pos d1, gd_t gg] at h
          cases h
          rw [if_pos d1, gd_t g]
          exact ⟨_, rfl, y2⟩
        rw [if_neg d1] at h ⊢
        by_cases d2 : a2 = 2
        · rw [if_pos d2, gd_t gg] at h
          cases h
          rw [if_pos d2, gd_t g]
          exact ⟨_, rfl, y3⟩
        rw [if_neg d2] at h ⊢
        by_cases d3 : a2 = 3
        · rw [if_pos d3, gd_t gg] at h
          cases h
          rw [if_pos d3, gd_t g]
          exact ⟨_, rfl, y4⟩
        rw [if_neg d3] at h ⊢
        by_cases d4 : a2 = 4
        · rw [if_pos d4, gd_t gg] at h
          cases h
          rw [if_pos d4, gd_t g]
          exact ⟨_, rfl, y6⟩
        rw [if_neg d4] at h ⊢
        by_cases d5 : a2 = 5
        · rw [if_pos d5, gd_t gg] at h
          cases h
          rw [if_pos d5, gd_t g]
          exact ⟨_, rfl, y7⟩
        rw [if_neg d5] at h ⊢
        cases h
        exact ⟨_, rfl, rfl⟩
      · rw [if_neg c2] at h
        cases h
        rw [i_lt] at c2
        have hx0 : Fld_has Fl' a1 = some 0 := by rw [has_x, g2, if_neg (by omega)]
        rw [bd_s hx0, if_pos rfl]
        exact ⟨_, rfl, rfl⟩
abbrev HQ : Type := Int64 × S_Prog × S_Walk × S_Fld × S_Lps
abbrev B20 : Type := Int64 × A19
theorem reference_both {fu : Nat} {t : S_Tab} {P : S_Prog} {X : S_X} {VAL : Nat → Nat → Int64} {W : S_Walk} {Fl : S_Fld} {L : S_Lps} {th sc rf wi ls le : Nat → Int32} {va : Nat → Int64} {bi : Nat → Int32} {a0 : Int32} {s : S_Mo} {rd : Nat → Int64} {li ne en be lf tu fo op ki co wd sca lk rp : Nat → Int32} {ba : Nat → Int64} {ea pa : Nat → Int32} {a1 : Int32} {R : B20} (hf : 12000 ≤ fu) (It_ : I_Tab t) (IP : I_Prog P) (IW : I_Walk W) (IF : I_Fld Fl) (IL : I_Lps L) (Iw : A_Mwidths wi) (Is : A_Mscales sc) (Ils : A_Mlists ls) (Ile : A_Mlengths le) (I : I_Mo s) (Ifo : A_MfoundOps fo) (Iop : A_Mops op) (Aw : A_Mwidth wd) (Ae : A_MelementAt ea) (Ap : A_MpointAt pa) (T : TbR t (Mo_used s) th sc rf wi ls le) (V : RwR VAL va) (h : Mod_reference fu th sc rf wi ls le va bi a0 a1 s rd li ne en be lf tu fo op ki co wd sca lk rp ba ea pa = some R) : ∃ Q : HQ, X_reference fu X VAL t a0 a1 P W Fl L = some Q ∧ Q.1 = R.1 := by
  have k0 : (0 : Int32).toInt = 0 := by decide
  unfold Mod_reference o_lt at h
  dsimp only at h
  by_cases c1 : a1 < 0
  · rw [if_pos c1] at h
    cases h
    obtain ⟨⟨b, P', W', Fl', L'⟩, e, _⟩ := t_X_walkOver (fu := fu) (sX := X) (sVAL := VAL) (a0 := a0) hf It_ IP IW IF IL
    rw [i_lt] at c1
    unfold X_reference
    rw [bd_s e]
    by_cases cb : b = 0
    · rw [if_pos cb]
      exact ⟨_, rfl, rfl⟩
    · have hx0 : Fld_has Fl' a1 = some 0 := by rw [has_x, if_neg (by omega)]
      rw [if_neg cb, bd_s hx0, if_pos rfl]
      exact ⟨_, rfl, rfl⟩
  · rw [if_neg c1] at h
    obtain ⟨R2, eA, h⟩ := oi_bd h
    obtain ⟨b, P', W', Fl', L', e, hA⟩ := ask_both (X := X) (P := P) (W := W) (Fl := Fl) (L := L) (s := Mo_set_thrown s 0) hf It_ IP Iw Is Ils Ile (I_Mo_set_thrown I) Ifo Iop Aw Ae Ap T V eA
    rw [i_lt] at c1
    unfold X_reference
    rw [bd_s e]
    rcases hA with ⟨g1, g2⟩ | ⟨g1, g2, g3, g4, g5⟩
    · have n : ¬ a1 < R2.1 := by rw [g2, i_lt]; omega
      rw [if_neg n] at h
      cases h
      rw [if_pos g1]
      exact ⟨_, rfl, rfl⟩
    · rw [if_neg (show ¬ b = 0 by rw [g1]; decide)]
      by_cases c2 : a1 < R2.1
      · have c2' := c2
        rw [i_lt] at c2'
        have g : o_in a1 100 = true := i_in.mpr (by omega)
        have gg : o_in a1 101 = true := i_in.mpr (by omega)
        have na : (a1.toNatClampNeg : Int) < R2.1.toInt := by
          have := i_nat (a := a1) (by omega)
          omega
        obtain ⟨y1, y2, y3, y4, y5, y6, y7⟩ := g5 a1.toNatClampNeg na
        rw [if_pos c2, gd_t gg] at h
        cases h
        have hx1 : Fld_has Fl' a1 = some 1 := by rw [has_x, g2, if_pos ⟨by omega, c2'⟩]
        rw [bd_s hx1, if_neg (show ¬ (1 : Int32) = 0 by decide), gd_t g]
        exact ⟨_, rfl, y5⟩
      · rw [if_neg c2] at h
        cases h
        rw [i_lt] at c2
        have hx0 : Fld_has Fl' a1 = some 0 := by rw [has_x, g2, if_neg (by omega)]
        rw [bd_s hx0, if_pos rfl]
        exact ⟨_, rfl, rfl⟩
theorem find_L {fu N : Nat} {X : S_X} {VAL : Nat → Nat → Int64} {t : S_Tab} {x2 x3 x4 x5 : Int32} {P : S_Prog} {W : S_Walk} {Fl : S_Fld} {L : S_Lps} {th sc rf wi ls le : Nat → Int32} {va : Nat → Int64} {bi : Nat → Int32} {s : S_Mo} {rd : Nat → Int64} {li ne en be lf tu fo op ki co wd sca lk rp : Nat → Int32} {ba : Nat → Int64} {ea pa : Nat → Int32} {R : A20} (hc : Fld_count Fl = x5) (hN : x5.toInt = (N : Int)) (h100 : N ≤ 100) (hF : ∀ i : Nat, i < N → Fld_kinds Fl i = ki i ∧ Fld_codes Fl i = co i ∧ Fld_repetitions Fl i = rp i) : ∀ (n n' k : Nat) (y x : Int32), x.toInt = (k : Int) → k ≤ N → N - k < n → Mod_find_L18 fu th sc rf wi ls le va bi x2 x3 x4 x5 s rd li ne en be lf tu fo op ki co wd sca lk rp ba ea pa n' y x = some R → ∃ Q : GQ, X_find_L16 fu X VAL t x2 x3 x4 P W Fl L n y x = some Q ∧ Q.1 = R.1
  | 0, n', k, y, x, _, _, hn, _ => absurd hn (by omega)
  | n + 1, 0, k, y, x, _, _, _, h => by
    rw [Mod_find_L18] at h
    cases h
  | n + 1, n' + 1, k, y, x, hx, hk, hn, h => by
    have k1 : (1 : Int32).toInt = 1 := by decide
    rw [Mod_find_L18] at h
    rw [X_find_L16, hc]
    by_cases c : k = N
    · have c1 : x5 ≤ x := by rw [i_le]; omega
      rw [if_pos c1] at h ⊢
      cases h
      exact ⟨_, rfl, rfl⟩
    · have c1 : ¬ x5 ≤ x := by rw [i_le]; omega
      have g : o_in x 100 = true := i_in.mpr (by omega)
      have gg : o_in x 101 = true := i_in.mpr (by omega)
      have nx : x.toNatClampNeg = k := by
        have := i_nat (a := x) (by omega)
        omega
      obtain ⟨f1, f2, f3⟩ := hF k (by omega)
      have e1 : (x + 1).toInt = ((k + 1 : Nat) : Int) := by
        rw [i_add (a := x) (b := 1) (by omega) (by omega), hx, k1]
        rfl
      have ih : ∀ y', Mod_find_L18 fu th sc rf wi ls le va bi x2 x3 x4 x5 s rd li ne en be lf tu fo op ki co wd sca lk rp ba ea pa n' y' (x + 1) = some R → ∃ Q : GQ, X_find_L16 fu X VAL t x2 x3 x4 P W Fl L n y' (x + 1) = some Q ∧ Q.1 = R.1 := fun y' g0 => find_L hc hN h100 hF n n' (k + 1) y' (x + 1) e1 (by clear e1; omega) (by clear e1; omega) g0
      rw [if_neg c1, gd_t gg, nx] at h
      rw [if_neg c1]
      have no : Fld_isElementOf Fl x x2 x3 = some 0 → Mod_find_L18 fu th sc rf wi ls le va bi x2 x3 x4 x5 s rd li ne en be lf tu fo op ki co wd sca lk rp ba ea pa n' y (x + 1) = some R → ∃ Q : GQ, (o_bd (Fld_isElementOf Fl x x2 x3) fun q2 => (if q2 = 0 then X_find_j61 fu X VAL t (fun v0 v1 => X_find_L16 fu X VAL t x2 x3 x4 P W Fl L n v0 v1) x2 x3 x4 P W Fl L y x else if y = x4 then some ((x, P, W, Fl, L)) else X_find_j61 fu X VAL t (fun v0 v1 => X_find_L16 fu X VAL t x2 x3 x4 P W Fl L n v0 v1) x2 x3 x4 P W Fl L (y + 1) x)) = some Q ∧ Q.1 = R.1 := by
        intro e0 g0
        rw [bd_s e0, if_pos rfl]
        exact ih y g0
      have yes : Fld_isElementOf Fl x x2 x3 = some 1 → Mod_find_j65 fu th sc rf wi ls le va bi (fun v0 v1 => Mod_find_L18 fu th sc rf wi ls le va bi x2 x3 x4 x5 s rd li ne en be lf tu fo op ki co wd sca lk rp ba ea pa n' v0 v1) x2 x3 x4 x5 s rd li ne en be lf tu fo op ki co wd sca lk rp ba ea pa y x = some R → ∃ Q : GQ, (o_bd (Fld_isElementOf Fl x x2 x3) fun q2 => (if q2 = 0 then X_find_j61 fu X VAL t (fun v0 v1 => X_find_L16 fu X VAL t x2 x3 x4 P W Fl L n v0 v1) x2 x3 x4 P W Fl L y x else if y = x4 then some ((x, P, W, Fl, L)) else X_find_j61 fu X VAL t (fun v0 v1 => X_find_L16 fu X VAL t x2 x3 x4 P W Fl L n v0 v1) x2 x3 x4 P W Fl L (y + 1) x)) = some Q ∧ Q.1 = R.1 := by
        intro e0 g0
        rw [bd_s e0, if_neg (show ¬ (1 : Int32) = 0 by decide)]
        unfold Mod_find_j65 at g0
        by_cases cy : y = x4
        · rw [if_pos cy] at g0 ⊢
          cases g0
          exact ⟨_, rfl, rfl⟩
        · rw [if_neg cy] at g0 ⊢
          exact ih (y + 1) g0
      by_cases d1 : ki k = 0
      · rw [if_pos d1, gd_t gg] at h
        by_cases d2 : co k = x2
        · rw [if_pos d2] at h
          by_cases d3 : x3 = (-1)
          · rw [if_pos d3] at h
            refine yes ?_ h
            unfold Fld_isElementOf
            rw [gd_t g, nx, f1, if_pos d1, gd_t g, f2, if_pos d2, if_pos d3]
          · rw [if_neg d3, gd_t gg] at h
            by_cases d4 : rp k = x3
            · rw [if_pos d4] at h
              refine yes ?_ h
              unfold Fld_isElementOf
              rw [gd_t g, nx, f1, if_pos d1, gd_t g, f2, if_pos d2, if_neg d3, gd_t g, f3, if_pos d4]
            · rw [if_neg d4] at h
              refine no ?_ h
              unfold Fld_isElementOf
              rw [gd_t g, nx, f1, if_pos d1, gd_t g, f2, if_pos d2, if_neg d3, gd_t g, f3, if_neg d4]
        · rw [if_neg d2] at h
          refine no ?_ h
          unfold Fld_isElementOf
          rw [gd_t g, nx, f1, if_pos d1, gd_t g, f2, if_neg d2]
      · rw [if_neg d1] at h
        refine no ?_ h
        unfold Fld_isElementOf
        rw [gd_t g, nx, f1, if_neg d1]
theorem find_both {fu : Nat} {t : S_Tab} {P : S_Prog} {X : S_X} {VAL : Nat → Nat → Int64} {W : S_Walk} {Fl : S_Fld} {L : S_Lps} {th sc rf wi ls le : Nat → Int32} {va : Nat → Int64} {bi : Nat → Int32} {a0 : Int32} {s : S_Mo} {rd : Nat → Int64} {li ne en be lf tu fo op ki co wd sca lk rp : Nat → Int32} {ba : Nat → Int64} {ea pa : Nat → Int32} {a1 a2 a3 : Int32} {R : A20} (hf : 12000 ≤ fu) (It_ : I_Tab t) (IP : I_Prog P) (IW : I_Walk W) (IF : I_Fld Fl) (IL : I_Lps L) (Iw : A_Mwidths wi) (Is : A_Mscales sc) (Ils : A_Mlists ls) (Ile : A_Mlengths le) (I : I_Mo s) (Ifo : A_MfoundOps fo) (Iop : A_Mops op) (Aw : A_Mwidth wd) (Ae : A_MelementAt ea) (Ap : A_MpointAt pa) (T : TbR t (Mo_used s) th sc rf wi ls le) (V : RwR VAL va) (h : Mod_find fu th sc rf wi ls le va bi a0 a1 a2 a3 s rd li ne en be lf tu fo op ki co wd sca lk rp ba ea pa = some R) : ∃ Q : GQ, X_find fu X VAL t a0 a1 a2 a3 P W Fl L = some Q ∧ Q.1 = R.1 := by
  have k0 : (0 : Int32).toInt = 0 := by decide
  unfold Mod_find o_lt at h
  dsimp only at h
  obtain ⟨R2, eA, h⟩ := oi_bd h
  obtain ⟨b, P', W', Fl', L', e, hA⟩ := ask_both (X := X) (P := P) (W := W) (Fl := Fl) (L := L) (s := Mo_set_thrown s 0) hf It_ IP Iw Is Ils Ile (I_Mo_set_thrown I) Ifo Iop Aw Ae Ap T V eA
  unfold X_find
  rw [bd_s e]
  rcases hA with ⟨g1, g2⟩ | ⟨g1, g2, g3, g4, g5⟩
  · rw [if_pos g1]
    obtain ⟨m, hm⟩ : ∃ m, fu = m + 1 := ⟨fu - 1, by omega⟩
    have h2 : ∀ q, q = m + 1 → Mod_find_L18 fu th sc rf wi ls le va bi a1 a2 a3 R2.1 R2.2.1 R2.2.2.1 R2.2.2.2.1 R2.2.2.2.2.1 R2.2.2.2.2.2.1 R2.2.2.2.2.2.2.1 R2.2.2.2.2.2.2.2.1 R2.2.2.2.2.2.2.2.2.1 R2.2.2.2.2.2.2.2.2.2.1 R2.2.2.2.2.2.2.2.2.2.2.1 R2.2.2.2.2.2.2.2.2.2.2.2.1 R2.2.2.2.2.2.2.2.2.2.2.2.2.1 R2.2.2.2.2.2.2.2.2.2.2.2.2.2.1 R2.2.2.2.2.2.2.2.2.2.2.2.2.2.2.1 R2.2.2.2.2.2.2.2.2.2.2.2.2.2.2.2.1 R2.2.2.2.2.2.2.2.2.2.2.2.2.2.2.2.2.1 R2.2.2.2.2.2.2.2.2.2.2.2.2.2.2.2.2.2.1 R2.2.2.2.2.2.2.2.2.2.2.2.2.2.2.2.2.2.2.1 R2.2.2.2.2.2.2.2.2.2.2.2.2.2.2.2.2.2.2.2 q 0 0 = some R → R.1 = (-1) := by
      intro q hq g
      rw [hq, Mod_find_L18, g2, if_pos (show (0 : Int32) ≤ 0 by decide)] at g
      cases g
      rfl
    exact ⟨_, rfl, (h2 fu hm h).symm⟩
  · rw [if_neg (show ¬ b = 0 by rw [g1]; decide)]
    obtain ⟨N, hN⟩ : ∃ N : Nat, R2.1.toInt = (N : Int) := ⟨R2.1.toInt.toNat, by omega⟩
    exact find_L (N := N) g2 hN (by omega) (fun i hi => by
      obtain ⟨y1, y2, y3, y4, y5, y6, y7⟩ := g5 i (by omega)
      exact ⟨y1, y2, y7⟩) fu fu 0 0 0 (by decide) (by omega) (by omega) h
-- the beginning
theorem va_init {VAL : Nat → Nat → Int64} {va : Nat → Int64} (h1 : VZ VAL) (h2 : ∀ j, j < 800 → va j = (-9000000000000000000)) : RwR VAL va := fun k j hk hj => (h1 k hk j hj).trans (h2 (100 * k + j) (by omega)).symm
theorem yw_Bits_init : So Bits_init_1000 (fun r => ∀ j, Bits_bytes r j = 0) := So.one (fun _ => rfl)
theorem yw_X_init {fu : Nat} (hf : 12000 ≤ fu) : So (X_init fu) (fun r => ∀ j, Bits_bytes r.2.2.2.2.2.2.2.2.1 j = 0) := by
  unfold X_init
  refine So.bd yy_Tab_init fun q1 _ => So.bd t_Prog_init fun q2 _ => So.bd t_Walk_init fun q3 _ => So.bd t_Wri_init fun q4 _ => So.bd yw_Bits_init fun q5 h5 => ?_
  have hre : So Rea_init (fun _ => True) := So.one trivial
  refine So.bd hre fun q6 _ => So.bd (yy_Grd_init hf) fun q7 _ => So.lt (So.lt ?_)
  refine t_xi_L hf (fun m => ?_) fu 0 0 _ rfl (by omega) (by omega)
  unfold X_init_j138
  exact So.lt (So.lt (So.one h5))

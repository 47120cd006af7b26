-- reading: the ends
theorem rd_L206 {fu : Nat} {th sc rf wi ls le tp : Nat → Int32} {s : S_Mo} {rd : Nat → Int64} {li ne en be lf tu fo op ki co wd sca lk rp : Nat → Int32} {ba : Nat → Int64} {ea pa : Nat → Int32} {bi : Nat → Int32} {R : A22} : ∀ (n k : Nat) (x : Int32) (va : Nat → Int64), x.toInt = (k : Int) → k ≤ 800 → (∀ j, j < k → va j = rd j) → Mod_read_L206 fu th sc rf wi ls le tp s rd li ne en be lf tu fo op ki co wd sca lk rp ba ea pa bi n x va = some R → R.1 = Mo_subsets s ∧ R.2.1 = s ∧ ∀ j, j < 800 → R.2.2.1 j = rd j
  | 0, k, x, va, _, _, _, h => by
    rw [Mod_read_L206] at h
    cases h
  | n + 1, k, x, va, hx, hk, hv, h => by
    have k1 : (1 : Int32).toInt = 1 := by decide
    have k8 : (800 : Int32).toInt = 800 := by decide
    rw [Mod_read_L206] at h
    by_cases c : k = 800
    · have c1 : (800 : Int32) ≤ x := by rw [i_le]; omega
      rw [if_pos c1] at h
      cases h
      rw [c] at hv
      exact ⟨rfl, rfl, hv⟩
    · have c1 : ¬ (800 : Int32) ≤ x := by rw [i_le]; omega
      rw [if_neg c1] at h
      have h := oe_gd (oe_gd h)
      have nx : x.toNatClampNeg = k := by
        have := i_nat (a := x) (by omega)
        omega
      unfold o_lt at h
      rw [nx] at h
      have e1 : (x + 1).toInt = ((k + 1 : Nat) : Int) := by
        rw [i_add (a := x) (b := 1) (by omega) (by omega), hx, k1]
        rfl
      refine rd_L206 n (k + 1) (x + 1) _ e1 (by clear e1; omega) (fun j hj => ?_) h
      show (if j = k then rd k else va j) = rd j
      by_cases cj : j = k
      · rw [if_pos cj, cj]
      · rw [if_neg cj]
        exact hv j (by clear e1; omega)
theorem rd_tail {fu : Nat} {th sc rf wi ls le tp : Nat → Int32} {s : S_Mo} {va rd : Nat → Int64} {li ne en be lf tu fo op ki co wd sca lk rp : Nat → Int32} {ba : Nat → Int64} {ea pa : Nat → Int32} {bi : Nat → Int32} {R : A22} (h : Mod_read_j151 fu th sc rf wi ls le tp s va rd li ne en be lf tu fo op ki co wd sca lk rp ba ea pa bi = some R) : ((Mo_fault s = 0 ∧ Mo_many s ≤ Mo_at s) → R.1 = Mo_subsets s ∧ Mo_thrown R.2.1 = 0 ∧ ∀ j, j < 800 → R.2.2.1 j = rd j) ∧ ((¬ Mo_fault s ≤ 0 ∨ (Mo_fault s = 0 ∧ ¬ Mo_many s ≤ Mo_at s)) → Mo_thrown R.2.1 = 1 ∧ R.2.2.1 = va) := by
  have bad : ∀ s' : S_Mo, ¬ Mo_fault s' ≤ 0 → Mod_read_j179 fu th sc rf wi ls le tp s' va rd li ne en be lf tu fo op ki co wd sca lk rp ba ea pa bi = some R → Mo_thrown R.2.1 = 1 ∧ R.2.2.1 = va := by
    intro s' c g
    unfold Mod_read_j179 at g
    rw [if_neg c] at g
    unfold Mod_read_j192 o_lt at g
    dsimp only at g
    rw [if_neg (show ¬ (1 : Int32) ≤ 0 by decide)] at g
    cases g
    exact ⟨rfl, rfl⟩
  unfold Mod_read_j151 at h
  refine ⟨fun e => ?_, fun e => ?_⟩
  · rw [if_pos e.1, if_pos e.2] at h
    unfold Mod_read_j179 at h
    rw [if_pos (show Mo_fault s ≤ 0 by rw [e.1]; decide)] at h
    unfold Mod_read_j192 o_lt at h
    dsimp only at h
    rw [if_pos (show (0 : Int32) ≤ 0 by decide)] at h
    obtain ⟨g1, g2, g3⟩ := rd_L206 fu 0 0 va (by decide) (by omega) (fun j hj => absurd hj (by omega)) h
    exact ⟨g1, by rw [g2], g3⟩
  · rcases e with e | ⟨e1, e2⟩
    · have n0 : ¬ Mo_fault s = 0 := fun z => e (by rw [z]; decide)
      rw [if_neg n0] at h
      exact bad s e h
    · rw [if_pos e1, if_neg e2] at h
      obtain ⟨s7, e7, h⟩ := oi_bd h
      exact bad s7 (wrongAt_pos (by decide) e7) h
-- the class
theorem cl_L93 {fu : Nat} {t : S_Tab} {X : S_X} {P : S_Prog} {W : S_Walk} {Fl : S_Fld} {L : S_Lps} {Re : S_Rea} {RR : Nat → Nat → Int64} {tp : S_Bits} : ∀ (n k : Nat) (x : Int32) (VAL : Nat → Nat → Int64), x.toInt = (k : Int) → k ≤ 8 → 8 - k < n → (∀ a j : Nat, a < k → j < 100 → VAL a j = RR a j) → ∃ VAL' : Nat → Nat → Int64, X_read_L93 fu t X P W Fl L Re RR tp n x VAL = some (0, Rea_subsets Re, X, VAL', P, W, Fl, L, Re, RR, tp) ∧ ∀ a j : Nat, a < 8 → j < 100 → VAL' a j = RR a j
  | 0, k, x, VAL, hx, hk, hn, h => absurd hn (by omega)
  | n + 1, k, x, VAL, hx, hk, hn, h => by
    have k1 : (1 : Int32).toInt = 1 := by decide
    have k8 : (8 : Int32).toInt = 8 := by decide
    by_cases c : k = 8
    · have c1 : (8 : Int32) ≤ x := by rw [i_le]; omega
      refine ⟨VAL, ?_, by rw [c] at h; exact h⟩
      rw [X_read_L93, if_pos c1]
    · have c1 : ¬ (8 : Int32) ≤ x := by rw [i_le]; omega
      have g8 : o_in x 8 = true := i_in.mpr (by omega)
      have nx : x.toNatClampNeg = k := by
        have := i_nat (a := x) (by omega)
        omega
      have e1 : (x + 1).toInt = ((k + 1 : Nat) : Int) := by
        rw [i_add (a := x) (b := 1) (by omega) (by omega), hx, k1]
        rfl
      have n0 : (0 : Int32).toNatClampNeg = 0 := by decide
      have n100 : (100 : Int32).toNatClampNeg = 100 := by decide
      obtain ⟨VAL', g1, g2⟩ := cl_L93 (fu := fu) (t := t) (X := X) (P := P) (W := W) (Fl := Fl) (L := L) (Re := Re) (RR := RR) (tp := tp) n (k + 1) (x + 1) (gr_set VAL k (va_cpy (RR k) (VAL k) 0 0 100)) e1 (by clear e1; omega) (by clear e1; omega) (fun a j ha hj => by
        show (if a = k then va_cpy (RR k) (VAL k) 0 0 100 else VAL a) j = RR a j
        by_cases ca : a = k
        · rw [if_pos ca, ca]
          show (if 0 ≤ j ∧ j < 0 + 100 then RR k (0 + (j - 0)) else VAL k j) = RR k j
          rw [if_pos ⟨Nat.zero_le _, by clear e1; omega⟩, Nat.sub_zero, Nat.zero_add]
        · rw [if_neg ca]
          exact h a j (by clear e1; omega) hj)
      refine ⟨VAL', ?_, g2⟩
      rw [X_read_L93, if_neg c1, gd_t g8, gd_t g8, gd_t (show o_cp 0 0 100 100 100 = true by decide), nx, n0, n100]
      exact g1
abbrev XQ : Type := Int32 × Int32 × S_X × (Nat → Nat → Int64) × S_Prog × S_Walk × S_Fld × S_Lps × S_Rea × (Nat → Nat → Int64) × S_Bits
theorem cl_tail {fu : Nat} {t : S_Tab} {X : S_X} {VAL : Nat → Nat → Int64} {P : S_Prog} {W : S_Walk} {Fl : S_Fld} {L : S_Lps} {Re : S_Rea} {RR : Nat → Nat → Int64} {tp : S_Bits} (hf : 12000 ≤ fu) : ∃ Q : XQ, X_read_j67 fu t X VAL P W Fl L Re RR tp = some Q ∧ (Bits_length Q.2.2.2.2.2.2.2.2.2.2 = 0 ∧ ∀ j, j < 1000 → Bits_bytes Q.2.2.2.2.2.2.2.2.2.2 j = 0) ∧ (X_faultNumber X = 0 → Q.1 = 0 ∧ Q.2.1 = Rea_subsets Re ∧ ∀ a j : Nat, a < 8 → j < 100 → Q.2.2.2.1 a j = RR a j) ∧ (¬ X_faultNumber X = 0 → Q.1 = 1 ∧ Q.2.2.2.1 = VAL) := by
  obtain ⟨q, eq, hq⟩ := yy_fillI (fu := fu) (m := 1000) (v := 0) (f := Bits_bytes tp) hf (by decide)
  have eb : Bits_empty fu 1000 tp = some (Bits_set_length (Bits_set_bytes tp q) 0) := by
    unfold Bits_empty
    rw [bd_s eq]
    rfl
  unfold X_read_j67
  rw [bd_s eb]
  by_cases c : X_faultNumber X = 0
  · rw [if_pos c]
    obtain ⟨VAL', g1, g2⟩ := cl_L93 (fu := fu) (t := t) (X := X) (P := P) (W := W) (Fl := Fl) (L := L) (Re := Re) (RR := RR) (tp := Bits_set_length (Bits_set_bytes tp q) 0) fu 0 0 VAL (by decide) (by omega) (by omega) (fun a j ha _ => absurd ha (by omega))
    exact ⟨_, g1, ⟨rfl, hq⟩, fun _ => ⟨rfl, rfl, g2⟩, fun e => absurd c e⟩
  · rw [if_neg c]
    exact ⟨_, rfl, ⟨rfl, hq⟩, fun e => absurd e c, fun _ => ⟨rfl, rfl⟩⟩
theorem ew_x {Fl : S_Fld} {k b : Int32} {W : S_Walk} {Re : S_Rea} : ∃ (W' : S_Walk) (Re' : S_Rea), Rea_endWalk Fl k b W Re = some (W', Re') ∧ Rea_subsets Re' = Rea_subsets Re ∧ ((Walk_fault W = 0 ∧ (b = 0 ∨ Rea_end Re ≤ Rea_at Re) ∧ W' = W ∧ Re' = Re) ∨ ((¬ Walk_fault W = 0 ∨ (¬ b = 0 ∧ ¬ Rea_end Re ≤ Rea_at Re)) ∧ ¬ Rea_fault Re' = 0)) := by
  have j : ∀ W1 : S_Walk, ¬ Walk_fault W1 = 0 → ∃ (W' : S_Walk) (Re' : S_Rea), Rea_endWalk_j35 Fl k W1 Re = some (W', Re') ∧ Rea_subsets Re' = Rea_subsets Re ∧ ¬ Rea_fault Re' = 0 := by
    intro W1 c
    refine ⟨W1, Rea_set_place (Rea_set_fault Re (Walk_fault W1)) (100 * k + Walk_place W1), ?_, rfl, c⟩
    unfold Rea_endWalk_j35 o_lt
    dsimp only
    rw [if_neg c]
    rfl
  have j0 : Walk_fault W = 0 → Rea_endWalk_j35 Fl k W Re = some (W, Re) := by
    intro c
    unfold Rea_endWalk_j35
    rw [if_pos c]
  unfold Rea_endWalk
  by_cases c : Walk_fault W = 0
  · rw [if_pos c]
    by_cases cb : b = 0
    · rw [if_pos cb]
      exact ⟨W, Re, j0 c, rfl, Or.inl ⟨c, Or.inl cb, rfl, rfl⟩⟩
    · rw [if_neg cb]
      by_cases ce : Rea_end Re ≤ Rea_at Re
      · rw [if_pos ce]
        exact ⟨W, Re, j0 c, rfl, Or.inl ⟨c, Or.inr ce, rfl, rfl⟩⟩
      · rw [if_neg ce]
        have ef : Walk_fail 12 (Fld_count Fl) W = some (Walk_set_place (Walk_set_fault W 12) (Fld_count Fl)) := rfl
        rw [bd_s ef]
        obtain ⟨W', Re', g1, g2, g3⟩ := j (Walk_set_place (Walk_set_fault W 12) (Fld_count Fl)) (by show ¬ (12 : Int32) = 0; decide)
        exact ⟨W', Re', g1, g2, Or.inr ⟨Or.inr ⟨cb, ce⟩, g3⟩⟩
  · rw [if_neg c]
    obtain ⟨W', Re', g1, g2, g3⟩ := j W c
    exact ⟨W', Re', g1, g2, Or.inr ⟨Or.inl c, g3⟩⟩

abbrev FUEL : Nat := 5000
theorem X_some : (X_init FUEL).isSome = true := by decide +kernel
theorem M_some : (Mod_init FUEL).isSome = true := by decide +kernel
def X0 := (X_init FUEL).get X_some
def M0 := (Mod_init FUEL).get M_some
def st0 : ST := (X0.1, X0.2.1, X0.2.2.1, X0.2.2.2.1, X0.2.2.2.2.1, X0.2.2.2.2.2.1, X0.2.2.2.2.2.2.1, X0.2.2.2.2.2.2.2.1, X0.2.2.2.2.2.2.2.2.1, X0.2.2.2.2.2.2.2.2.2.1, X0.2.2.2.2.2.2.2.2.2.2.1, X0.2.2.2.2.2.2.2.2.2.2.2.1, X0.2.2.2.2.2.2.2.2.2.2.2.2, M0.1, M0.2.1, M0.2.2.1, M0.2.2.2.1, M0.2.2.2.2.1, M0.2.2.2.2.2.1, M0.2.2.2.2.2.2.1, M0.2.2.2.2.2.2.2.1, M0.2.2.2.2.2.2.2.2.1, M0.2.2.2.2.2.2.2.2.2.1, M0.2.2.2.2.2.2.2.2.2.2.1, M0.2.2.2.2.2.2.2.2.2.2.2.1, M0.2.2.2.2.2.2.2.2.2.2.2.2.1, M0.2.2.2.2.2.2.2.2.2.2.2.2.2.1, M0.2.2.2.2.2.2.2.2.2.2.2.2.2.2.1, M0.2.2.2.2.2.2.2.2.2.2.2.2.2.2.2.1, M0.2.2.2.2.2.2.2.2.2.2.2.2.2.2.2.2.1, M0.2.2.2.2.2.2.2.2.2.2.2.2.2.2.2.2.2.1, M0.2.2.2.2.2.2.2.2.2.2.2.2.2.2.2.2.2.2.1, M0.2.2.2.2.2.2.2.2.2.2.2.2.2.2.2.2.2.2.2.1, M0.2.2.2.2.2.2.2.2.2.2.2.2.2.2.2.2.2.2.2.2.1, M0.2.2.2.2.2.2.2.2.2.2.2.2.2.2.2.2.2.2.2.2.2.1, M0.2.2.2.2.2.2.2.2.2.2.2.2.2.2.2.2.2.2.2.2.2.2.1, M0.2.2.2.2.2.2.2.2.2.2.2.2.2.2.2.2.2.2.2.2.2.2.2.1, M0.2.2.2.2.2.2.2.2.2.2.2.2.2.2.2.2.2.2.2.2.2.2.2.2.1, M0.2.2.2.2.2.2.2.2.2.2.2.2.2.2.2.2.2.2.2.2.2.2.2.2.2.1, M0.2.2.2.2.2.2.2.2.2.2.2.2.2.2.2.2.2.2.2.2.2.2.2.2.2.2.1, M0.2.2.2.2.2.2.2.2.2.2.2.2.2.2.2.2.2.2.2.2.2.2.2.2.2.2.2.1, M0.2.2.2.2.2.2.2.2.2.2.2.2.2.2.2.2.2.2.2.2.2.2.2.2.2.2.2.2.1, M0.2.2.2.2.2.2.2.2.2.2.2.2.2.2.2.2.2.2.2.2.2.2.2.2.2.2.2.2.2.1, M0.2.2.2.2.2.2.2.2.2.2.2.2.2.2.2.2.2.2.2.2.2.2.2.2.2.2.2.2.2.2.1, M0.2.2.2.2.2.2.2.2.2.2.2.2.2.2.2.2.2.2.2.2.2.2.2.2.2.2.2.2.2.2.2.1, M0.2.2.2.2.2.2.2.2.2.2.2.2.2.2.2.2.2.2.2.2.2.2.2.2.2.2.2.2.2.2.2.2.1, M0.2.2.2.2.2.2.2.2.2.2.2.2.2.2.2.2.2.2.2.2.2.2.2.2.2.2.2.2.2.2.2.2.2.1, M0.2.2.2.2.2.2.2.2.2.2.2.2.2.2.2.2.2.2.2.2.2.2.2.2.2.2.2.2.2.2.2.2.2.2.1, M0.2.2.2.2.2.2.2.2.2.2.2.2.2.2.2.2.2.2.2.2.2.2.2.2.2.2.2.2.2.2.2.2.2.2.2.1, M0.2.2.2.2.2.2.2.2.2.2.2.2.2.2.2.2.2.2.2.2.2.2.2.2.2.2.2.2.2.2.2.2.2.2.2.2.1, M0.2.2.2.2.2.2.2.2.2.2.2.2.2.2.2.2.2.2.2.2.2.2.2.2.2.2.2.2.2.2.2.2.2.2.2.2.2.1, M0.2.2.2.2.2.2.2.2.2.2.2.2.2.2.2.2.2.2.2.2.2.2.2.2.2.2.2.2.2.2.2.2.2.2.2.2.2.2, (fun (_ : Nat) => (0 : Int64)))
theorem fX : ST_X st0 = (0, -1) := by decide +kernel
theorem eMo (s : S_Mo) : s = (s.1, s.2.1, s.2.2.1, s.2.2.2.1, s.2.2.2.2.1, s.2.2.2.2.2.1, s.2.2.2.2.2.2.1, s.2.2.2.2.2.2.2.1, s.2.2.2.2.2.2.2.2.1, s.2.2.2.2.2.2.2.2.2.1, s.2.2.2.2.2.2.2.2.2.2.1, s.2.2.2.2.2.2.2.2.2.2.2.1, s.2.2.2.2.2.2.2.2.2.2.2.2.1, s.2.2.2.2.2.2.2.2.2.2.2.2.2.1, s.2.2.2.2.2.2.2.2.2.2.2.2.2.2.1, s.2.2.2.2.2.2.2.2.2.2.2.2.2.2.2.1, s.2.2.2.2.2.2.2.2.2.2.2.2.2.2.2.2.1, s.2.2.2.2.2.2.2.2.2.2.2.2.2.2.2.2.2.1, s.2.2.2.2.2.2.2.2.2.2.2.2.2.2.2.2.2.2.1, s.2.2.2.2.2.2.2.2.2.2.2.2.2.2.2.2.2.2.2.1, s.2.2.2.2.2.2.2.2.2.2.2.2.2.2.2.2.2.2.2.2.1, s.2.2.2.2.2.2.2.2.2.2.2.2.2.2.2.2.2.2.2.2.2.1, s.2.2.2.2.2.2.2.2.2.2.2.2.2.2.2.2.2.2.2.2.2.2) := rfl
theorem fMo_0 : (ST_Mo st0).1 = 0 := by decide +kernel
theorem fMo_1 : (ST_Mo st0).2.1 = 3 := by decide +kernel
theorem fMo_2 : (ST_Mo st0).2.2.1 = 0 := by decide +kernel
theorem fMo_3 : (ST_Mo st0).2.2.2.1 = -1 := by decide +kernel
theorem fMo_4 : (ST_Mo st0).2.2.2.2.1 = 0 := by decide +kernel
theorem fMo_5 : (ST_Mo st0).2.2.2.2.2.1 = 0 := by decide +kernel
theorem fMo_6 : (ST_Mo st0).2.2.2.2.2.2.1 = 0 := by decide +kernel
theorem fMo_7 : (ST_Mo st0).2.2.2.2.2.2.2.1 = 0 := by decide +kernel
theorem fMo_8 : (ST_Mo st0).2.2.2.2.2.2.2.2.1 = 0 := by decide +kernel
theorem fMo_9 : (ST_Mo st0).2.2.2.2.2.2.2.2.2.1 = 0 := by decide +kernel
theorem fMo_10 : (ST_Mo st0).2.2.2.2.2.2.2.2.2.2.1 = 0 := by decide +kernel
theorem fMo_11 : (ST_Mo st0).2.2.2.2.2.2.2.2.2.2.2.1 = 0 := by decide +kernel
theorem fMo_12 : (ST_Mo st0).2.2.2.2.2.2.2.2.2.2.2.2.1 = 0 := by decide +kernel
theorem fMo_13 : (ST_Mo st0).2.2.2.2.2.2.2.2.2.2.2.2.2.1 = 0 := by decide +kernel
theorem fMo_14 : (ST_Mo st0).2.2.2.2.2.2.2.2.2.2.2.2.2.2.1 = 0 := by decide +kernel
theorem fMo_15 : (ST_Mo st0).2.2.2.2.2.2.2.2.2.2.2.2.2.2.2.1 = 0 := by decide +kernel
theorem fMo_16 : (ST_Mo st0).2.2.2.2.2.2.2.2.2.2.2.2.2.2.2.2.1 = 0 := by decide +kernel
theorem fMo_17 : (ST_Mo st0).2.2.2.2.2.2.2.2.2.2.2.2.2.2.2.2.2.1 = 0 := by decide +kernel
theorem fMo_18 : (ST_Mo st0).2.2.2.2.2.2.2.2.2.2.2.2.2.2.2.2.2.2.1 = 0 := by decide +kernel
theorem fMo_19 : (ST_Mo st0).2.2.2.2.2.2.2.2.2.2.2.2.2.2.2.2.2.2.2.1 = 0 := by decide +kernel
theorem fMo_20 : (ST_Mo st0).2.2.2.2.2.2.2.2.2.2.2.2.2.2.2.2.2.2.2.2.1 = 0 := by decide +kernel
theorem fMo_21 : (ST_Mo st0).2.2.2.2.2.2.2.2.2.2.2.2.2.2.2.2.2.2.2.2.2.1 = -1 := by decide +kernel
theorem fMo_22 : (ST_Mo st0).2.2.2.2.2.2.2.2.2.2.2.2.2.2.2.2.2.2.2.2.2.2 = 0 := by decide +kernel
theorem fMo : ST_Mo st0 = (0, 3, 0, -1, 0, 0, 0, 0, 0, 0, 0, 0, 0, 0, 0, 0, 0, 0, 0, 0, 0, -1, 0) := by
  have h := eMo (ST_Mo st0)
  rw [fMo_0, fMo_1, fMo_2, fMo_3, fMo_4, fMo_5, fMo_6, fMo_7, fMo_8, fMo_9, fMo_10, fMo_11, fMo_12, fMo_13, fMo_14, fMo_15, fMo_16, fMo_17, fMo_18, fMo_19, fMo_20, fMo_21, fMo_22] at h
  exact h
theorem g1 : o_in ((0 : Int32) + 1) 6 = true := by decide
theorem g2 : o_in ((0 : Int32) + 2) 6 = true := by decide
theorem g3 : o_in ((0 : Int32) + 3) 6 = true := by decide
theorem g4 : o_in ((0 : Int32) + 4) 6 = true := by decide
theorem g5 : o_in ((0 : Int32) + 5) 6 = true := by decide
theorem og {α : Type} {b : Bool} {k : Option α} (h : b = true) : o_gd b k = k := by unfold o_gd; rw [if_pos h]
theorem ob {α β : Type} {a : α} {f : α → Option β} : o_bd (some a) f = f a := rfl
theorem ol {α β : Type} {x : α} {f : α → β} : o_lt x f = f x := rfl
theorem in_of {a b : Int32} {n : Nat} (h0 : ¬ a < 0) (h1 : a < b) (hb : b.toInt = n) : o_in a n = true := by
  have h2 := Int32.lt_iff_toInt_lt.mp h1
  have h3 : ¬ a.toInt < 0 := fun h => h0 (Int32.lt_iff_toInt_lt.mpr h)
  have h4 : ¬ n ≤ a.toNatClampNeg := by
    show ¬ n ≤ a.toInt.toNat
    omega
  unfold o_in
  simp [h0, h4]
theorem lt_le {a b c : Int32} (hb : b.toInt = c.toInt + 1) : a < b ↔ a ≤ c := by
  rw [Int32.lt_iff_toInt_lt, Int32.le_iff_toInt_le]
  omega
theorem nle {a b : Int32} : ¬ a ≤ b ↔ b < a := Int32.not_le
theorem nlt {a b : Int32} : ¬ a < b ↔ b ≤ a := Int32.not_lt
theorem as_nat {a b : Int32} {n : Nat} (h0 : ¬ a < 0) (h1 : a < b) (hb : b.toInt = n) : ∃ j : Nat, j < n ∧ a = Int32.ofNat j := by
  refine ⟨a.toNatClampNeg, ?_, (Int32.ofNat_toNatClampNeg a (Int32.not_lt.mp h0)).symm⟩
  have h2 := Int32.lt_iff_toInt_lt.mp h1
  have h3 : ¬ a.toInt < 0 := fun h => h0 (Int32.lt_iff_toInt_lt.mpr h)
  show a.toInt.toNat < n
  omega
theorem as_m1 {a b : Int32} {n : Nat} (h0 : ¬ a < -1) (h1 : a < b) (hb : b.toInt = n) : a = -1 ∨ ∃ j : Nat, j < n ∧ a = Int32.ofNat j := by
  rcases Classical.em (a = -1) with h | h
  · exact Or.inl h
  · refine Or.inr (as_nat (fun h2 => ?_) h1 hb)
    have e1 : (-1 : Int32).toInt = -1 := by decide
    have h3 := Int32.lt_iff_toInt_lt.mp h2
    have h4 : ¬ a.toInt < (-1 : Int32).toInt := fun z => h0 (Int32.lt_iff_toInt_lt.mpr z)
    have e0 : (0 : Int32).toInt = 0 := by decide
    exact h (Int32.toInt_inj.mp (by omega))
def chk (v c : Int32) : Bool := (match Tab_entryOf v c with | some q => !(decide (q = -1)) && (o_in q 320 && decide (q.toNatClampNeg < 320)) | none => false) && (match Mod_entry v c with | some q => o_in q 320 && decide (q.toNatClampNeg < 320) | none => false)
theorem chk_all : ∀ i : Nat, i < 4 → ∀ j : Nat, j < 64 → chk (Int32.ofNat i) (Int32.ofNat j) = true := by decide +kernel
theorem chk_m : ∀ j : Nat, j < 64 → chk (-1) (Int32.ofNat j) = true := by decide +kernel
theorem ent {v c : Int32} (h1 : ¬ v < -1) (h2 : v < 4) (h3 : ¬ c < 0) (h4 : c < 64) : ∃ q r : Int32, Tab_entryOf v c = some q ∧ ¬ q = -1 ∧ o_in q 320 = true ∧ q.toNatClampNeg < 320 ∧ Mod_entry v c = some r ∧ o_in r 320 = true ∧ r.toNatClampNeg < 320 := by
  have hc : chk v c = true := by
    obtain ⟨j, hj, rfl⟩ := as_nat (n := 64) h3 h4 (by decide)
    rcases as_m1 (n := 4) h1 h2 (by decide) with rfl | ⟨i, hi, rfl⟩
    · exact chk_m j hj
    · exact chk_all i hi j hj
  unfold chk at hc
  cases e1 : Tab_entryOf v c with
  | none => rw [e1] at hc; simp at hc
  | some q =>
    cases e2 : Mod_entry v c with
    | none => rw [e1, e2] at hc; simp at hc
    | some r =>
      rw [e1, e2] at hc
      simp only [Bool.and_eq_true, Bool.not_eq_true', decide_eq_false_iff_not, decide_eq_true_eq] at hc
      exact ⟨q, r, rfl, hc.1.1, hc.1.2.1, hc.1.2.2, rfl, hc.2.1, hc.2.2⟩

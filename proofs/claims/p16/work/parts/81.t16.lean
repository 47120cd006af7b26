-- a field that comes without fault, its value checked (mode 1)
theorem oi_bd {α β : Type} {x : Option α} {f : α → Option β} {r : β} (h : o_bd x f = some r) : ∃ q, x = some q ∧ f q = some r := by
  cases x with
  | none => cases h
  | some a => exact ⟨a, rfl, h⟩
theorem wrongAt_f {a0 a1 : Int32} {s r : S_Mo} (h0 : 0 < a0.toInt) (h : Mod_wrongAt a0 a1 s = some r) : Mo_fault r ≠ 0 := by
  unfold Mod_wrongAt at h
  split at h
  · rw [wrong_eq] at h
    cases h
    exact wr_ge h0
  · rw [wrong_eq] at h
    cases h
    exact wr_ge h0
def VC1 (v : Int64) (k w : Int32) (b : Int64) : Prop := (k = 3 ∧ (v = 0 ∨ v = 1)) ∨ (k ≠ 3 ∧ (v = (-9000000000000000000) ∨ (¬ (v - b < 0) ∧ v - b ≤ ((1 <<< ((w : Int32).toInt64 &&& 63)) - 1) - 1)))
abbrev A10 : Type := Int64 × S_Mo × (Nat → Int64) × (Nat → Int32) × (Nat → Int32) × (Nat → Int32) × (Nat → Int32) × (Nat → Int32) × (Nat → Int32) × (Nat → Int64)
theorem x_j227 {fu : Nat} {va : Nat → Int64} {tu bi : Nat → Int32} {v : Int64} {s : S_Mo} {rd : Nat → Int64} {ki co wd sc lk rp : Nat → Int32} {ba : Nat → Int64} {r : A10} (h : Mod_come_j227 fu va tu bi v s rd ki co wd sc lk rp ba = some r) : (r.1 = v ∨ Mo_fault s ≠ 0) ∧ r.2 = (s, rd, ki, co, wd, sc, lk, rp, ba) := by
  unfold Mod_come_j227 at h
  split at h
  · cases h
    exact ⟨Or.inl rfl, rfl⟩
  · rename_i c
    cases h
    exact ⟨Or.inr (fun e => c (by rw [e]; decide)), rfl⟩
theorem x_j165 {fu : Nat} {va : Nat → Int64} {tu bi : Nat → Int32} {k w : Int32} {b : Int64} {i : Int32} {v : Int64} {s : S_Mo} {rd : Nat → Int64} {ki co wd sc lk rp : Nat → Int32} {ba : Nat → Int64} {r : A10} (h : Mod_come_j165 fu va tu bi k w b i v s rd ki co wd sc lk rp ba = some r) (hm : Mo_mode s = 1) (hr : Mo_fault r.2.1 = 0) (hk : k = 3 → v = 0 ∨ v = 1) : Mo_fault s = 0 ∧ r = (v, s, rd, ki, co, wd, sc, lk, rp, ba) ∧ VC1 v k w b := by
  unfold Mod_come_j165 at h
  have good : Mod_come_j227 fu va tu bi v s rd ki co wd sc lk rp ba = some r → Mo_fault s = 0 ∧ r = (v, s, rd, ki, co, wd, sc, lk, rp, ba) := by
    intro g
    obtain ⟨g1, g2⟩ := x_j227 g
    have hs : Mo_fault s = 0 := by
      rw [g2] at hr
      exact hr
    rcases g1 with g1 | g1
    · exact ⟨hs, Prod.ext g1 g2⟩
    · exact absurd hs g1
  have bad : Mod_come_j219 fu va tu bi i v s rd ki co wd sc lk rp ba = some r → False := by
    intro g
    unfold Mod_come_j219 at g
    obtain ⟨q, e, g⟩ := oi_bd g
    have g2 := (x_j227 g).2
    rw [g2] at hr
    exact wrongAt_f (by decide) e hr
  by_cases c1 : Mo_fault s = 0
  · rw [if_pos c1, if_pos hm] at h
    by_cases c2 : k = 3
    · rw [if_pos c2] at h
      exact ⟨c1, (good h).2, Or.inl ⟨c2, hk c2⟩⟩
    · rw [if_neg c2] at h
      by_cases c3 : v = (-9000000000000000000)
      · rw [if_pos c3] at h
        exact ⟨c1, (good h).2, Or.inr ⟨c2, Or.inl c3⟩⟩
      · rw [if_neg c3] at h
        by_cases c4 : v - b < 0
        · rw [if_pos c4] at h
          exact absurd h (fun g => bad g)
        · rw [if_neg c4] at h
          obtain ⟨q, e, h⟩ := oi_bd h
          cases e
          by_cases c5 : v - b ≤ ((1 <<< ((w : Int32).toInt64 &&& 63)) - 1) - 1
          · rw [if_pos c5] at h
            exact ⟨c1, (good h).2, Or.inr ⟨c2, Or.inr ⟨c4, c5⟩⟩⟩
          · rw [if_neg c5] at h
            exact absurd h (fun g => bad g)
  · rw [if_neg c1] at h
    exact absurd (good h).1 c1
theorem x_j157 {fu : Nat} {va : Nat → Int64} {tu bi : Nat → Int32} {k w : Int32} {b : Int64} {i : Int32} {v : Int64} {s : S_Mo} {rd : Nat → Int64} {ki co wd sc lk rp : Nat → Int32} {ba : Nat → Int64} {r : A10} (h : Mod_come_j157 fu va tu bi k w b i v s rd ki co wd sc lk rp ba = some r) (hr : Mo_fault r.2.1 = 0) : False := by
  unfold Mod_come_j157 at h
  obtain ⟨q, e, h⟩ := oi_bd h
  have hq := wrongAt_f (by decide) e
  unfold Mod_come_j165 at h
  rw [if_neg hq] at h
  have g2 := (x_j227 h).2
  rw [g2] at hr
  exact hq hr
def XC (va : Nat → Int64) (s : S_Mo) (k w : Int32) (b : Int64) (ki wd : Nat → Int32) (ba : Nat → Int64) (r : A10) : Prop := Mo_fault s = 0 ∧ r.1 = va (100 * Mo_subset s + Mo_fields s).toNatClampNeg ∧ VC1 r.1 k w b ∧ r.2.2.2.1 = upd ki (Mo_fields s).toNatClampNeg k ∧ r.2.2.2.2.2.1 = upd wd (Mo_fields s).toNatClampNeg w ∧ r.2.2.2.2.2.2.2.2.2 = vp_updL ba (Mo_fields s).toNatClampNeg b ∧ r.2.1 = Mo_set_fields s (Mo_fields s + 1) ∧ 0 ≤ (Mo_fields s).toInt ∧ (Mo_fields s).toInt < 100
theorem x_come {fu : Nat} {va : Nat → Int64} {tu bi : Nat → Int32} {k c w sc' : Int32} {b : Int64} {l : Int32} {s : S_Mo} {rd : Nat → Int64} {ki co wd sc lk rp : Nat → Int32} {ba : Nat → Int64} {r : A10} (h : Mod_come fu va tu bi k c w sc' b l s rd ki co wd sc lk rp ba = some r) (hm : Mo_mode s = 1) (hr : Mo_fault r.2.1 = 0) (hg : 0 ≤ (Mo_fault s).toInt) : XC va s k w b ki wd ba r := by
  unfold Mod_come at h
  have k0 : (0 : Int32).toInt = 0 := by decide
  by_cases c1 : Mo_fields s = 100
  · rw [if_pos c1] at h
    obtain ⟨q, e, h⟩ := oi_bd h
    have hq := wrongAt_f (by decide) e
    have hqg : ¬ Mo_fault q ≤ 0 := by
      unfold Mod_wrongAt at e
      have : 0 < (Mo_fault q).toInt := by
        split at e
        · rw [wrong_eq] at e
          cases e
          exact wr_fault (by decide)
        · rw [wrong_eq] at e
          cases e
          exact wr_fault (by decide)
      rw [i_le]
      omega
    unfold Mod_come_j21 at h
    rw [if_neg hqg] at h
    cases h
    exact absurd hr hq
  · rw [if_neg c1] at h
    unfold Mod_come_j21 at h
    by_cases c2 : Mo_fault s ≤ 0
    · have hs : Mo_fault s = 0 := by
        rw [i_le] at c2
        exact i_eq.mpr (by omega)
      rw [if_pos c2] at h
      unfold o_lt at h
      have hin : o_in (Mo_fields s) 101 = true := by
        unfold o_gd at h
        split at h
        · assumption
        · cases h
      have hin2 := i_in.mp hin
      have k100 : (100 : Int32).toInt = 100 := by decide
      have hi0 : 0 ≤ (Mo_fields s).toInt := hin2.1
      have hi1 : (Mo_fields s).toInt < 100 := by
        have : (Mo_fields s).toInt ≠ 100 := fun e => c1 (i_eq.mpr (by omega))
        omega
      have h := oe_gd (oe_gd (oe_gd (oe_gd (oe_gd (oe_gd h)))))
      obtain ⟨q15, _, h⟩ := oi_bd h
      have h := oe_gd h
      obtain ⟨q19, e19, h⟩ := oi_bd h
      unfold Mod_valueOf at e19
      have hm2 : ¬ (2 : Int32) ≤ Mo_mode (Mo_set_fields s (Mo_fields s + 1)) := by
        show ¬ (2 : Int32) ≤ Mo_mode s
        rw [hm]
        decide
      rw [if_neg hm2] at e19
      have e19 := oe_gd e19
      cases e19
      dsimp only at h
      have hs2 : Mo_fault (Mo_set_fields s (Mo_fields s + 1)) = 0 := hs
      rw [if_pos hs2] at h
      have hm3 : Mo_mode (Mo_set_fields s (Mo_fields s + 1)) = 1 := hm
      have fin : ∀ (hk : k = 3 → va (100 * Mo_subset (Mo_set_fields s (Mo_fields s + 1)) + Mo_fields s).toNatClampNeg = 0 ∨ va (100 * Mo_subset (Mo_set_fields s (Mo_fields s + 1)) + Mo_fields s).toNatClampNeg = 1) (rp' : Nat → Int32), Mod_come_j165 fu va tu bi k w b (Mo_fields s) (va (100 * Mo_subset (Mo_set_fields s (Mo_fields s + 1)) + Mo_fields s).toNatClampNeg) (Mo_set_fields s (Mo_fields s + 1)) rd (upd ki (Mo_fields s).toNatClampNeg k) (upd co (Mo_fields s).toNatClampNeg c) (upd wd (Mo_fields s).toNatClampNeg w) (upd sc (Mo_fields s).toNatClampNeg sc') (upd lk (Mo_fields s).toNatClampNeg l) rp' (vp_updL ba (Mo_fields s).toNatClampNeg b) = some r → XC va s k w b ki wd ba r := by
        intro hk rp' g
        obtain ⟨g1, g2, g3⟩ := x_j165 g hm3 hr hk
        rw [g2]
        exact ⟨hs, rfl, g3, rfl, rfl, rfl, rfl, hi0, hi1⟩
      have j138 : ∀ rp' : Nat → Int32, Mod_come_j138 fu va tu bi k w b (Mo_fields s) (va (100 * Mo_subset (Mo_set_fields s (Mo_fields s + 1)) + Mo_fields s).toNatClampNeg) (Mo_set_fields s (Mo_fields s + 1)) rd (upd ki (Mo_fields s).toNatClampNeg k) (upd co (Mo_fields s).toNatClampNeg c) (upd wd (Mo_fields s).toNatClampNeg w) (upd sc (Mo_fields s).toNatClampNeg sc') (upd lk (Mo_fields s).toNatClampNeg l) rp' (vp_updL ba (Mo_fields s).toNatClampNeg b) = some r → XC va s k w b ki wd ba r := by
        intro rp' g
        unfold Mod_come_j138 at g
        by_cases c3 : k = 3
        · rw [if_pos c3] at g
          by_cases c4 : va (100 * Mo_subset (Mo_set_fields s (Mo_fields s + 1)) + Mo_fields s).toNatClampNeg = 0
          · rw [if_pos c4] at g
            exact fin (fun _ => Or.inl c4) rp' g
          · rw [if_neg c4] at g
            by_cases c5 : va (100 * Mo_subset (Mo_set_fields s (Mo_fields s + 1)) + Mo_fields s).toNatClampNeg = 1
            · rw [if_pos c5] at g
              exact fin (fun _ => Or.inr c5) rp' g
            · rw [if_neg c5] at g
              exact absurd g (fun g => x_j157 g hr)
        · rw [if_neg c3] at g
          exact fin (fun e => absurd e c3) rp' g
      by_cases c3 : k = 2
      · rw [if_pos c3] at h
        by_cases c4 : va (100 * Mo_subset (Mo_set_fields s (Mo_fields s + 1)) + Mo_fields s).toNatClampNeg < 1
        · rw [if_pos c4] at h
          exact absurd h (fun g => x_j157 g hr)
        · rw [if_neg c4] at h
          by_cases c5 : 30 < va (100 * Mo_subset (Mo_set_fields s (Mo_fields s + 1)) + Mo_fields s).toNatClampNeg
          · rw [if_pos c5] at h
            exact absurd h (fun g => x_j157 g hr)
          · rw [if_neg c5] at h
            exact j138 _ h
      · rw [if_neg c3] at h
        exact j138 _ h
    · rw [if_neg c2] at h
      cases h
      exact absurd (show Mo_fault s ≤ 0 by
        have e : Mo_fault s = 0 := hr
        rw [e]
        decide) c2

-- a field, in the reference
def okv (k : Int32) (v : Int64) : Prop := (k = 2 → ¬ v < 1 ∧ ¬ 30 < v) ∧ (k = 3 → v = 0 ∨ v = 1)
def okr (md k w : Int32) (b v : Int64) : Prop := ¬ md = 1 ∨ k = 3 ∨ v = (-9000000000000000000) ∨ (¬ v - b < 0 ∧ ∃ m, Mod_most w = some m ∧ v - b ≤ m - 1)
theorem wrong_x {a0 a1 : Int32} {s r : S_Mo} (h0 : 0 < a0.toInt) (h : Mod_wrongAt a0 a1 s = some r) : ¬ Mo_fault r = 0 ∧ Mo_fields r = Mo_fields s ∧ Mo_mode r = Mo_mode s := by
  refine ⟨wrongAt_f h0 h, ?_⟩
  have w : ∀ (b : Int32) (r' : S_Mo), Mod_wrong a0 b s = some r' → Mo_fields r' = Mo_fields s ∧ Mo_mode r' = Mo_mode s := by
    intro b r' g
    unfold Mod_wrong o_lt at g
    split at g
    · cases g
      exact ⟨rfl, rfl⟩
    · cases g
      exact ⟨rfl, rfl⟩
  unfold Mod_wrongAt at h
  split at h
  · rw [bd_some] at h
    exact w _ _ h
  · rw [bd_some] at h
    exact w _ _ h
theorem wrongAt_pos {a0 a1 : Int32} {s r : S_Mo} (h0 : 0 < a0.toInt) (h : Mod_wrongAt a0 a1 s = some r) : ¬ Mo_fault r ≤ 0 := by
  have k0 : (0 : Int32).toInt = 0 := by decide
  have w : ∀ (b : Int32) (r' : S_Mo), Mod_wrong a0 b s = some r' → ¬ Mo_fault r' ≤ 0 := by
    intro b r' g
    unfold Mod_wrong o_lt at g
    split at g
    · cases g
      show ¬ a0 ≤ 0
      rw [i_le]
      omega
    · rename_i c
      cases g
      exact c
  unfold Mod_wrongAt at h
  split at h
  · rw [bd_some] at h
    exact w _ _ h
  · rw [bd_some] at h
    exact w _ _ h
theorem j227_inv {fu : Nat} {va : Nat → Int64} {tu bi : Nat → Int32} {x9 : Int64} {s : S_Mo} {rd : Nat → Int64} {ki co wd sca lk rp : Nat → Int32} {ba : Nat → Int64} {q : Int64 × S_Mo × (Nat → Int64) × (Nat → Int32) × (Nat → Int32) × (Nat → Int32) × (Nat → Int32) × (Nat → Int32) × (Nat → Int32) × (Nat → Int64)} (h : Mod_come_j227 fu va tu bi x9 s rd ki co wd sca lk rp ba = some q) : q.2.2 = (rd, ki, co, wd, sca, lk, rp, ba) ∧ q.2.1 = s ∧ (Mo_fault s = 0 → q.1 = x9) := by
  unfold Mod_come_j227 at h
  split at h
  · cases h
    exact ⟨rfl, rfl, fun _ => rfl⟩
  · rename_i c
    cases h
    refine ⟨rfl, rfl, fun e => ?_⟩
    rw [e] at c
    exact absurd (by decide) c
theorem j165_inv {fu : Nat} {va : Nat → Int64} {tu bi : Nat → Int32} {x1 x3 x8 : Int32} {x5 x9 : Int64} {s : S_Mo} {rd : Nat → Int64} {ki co wd sca lk rp : Nat → Int32} {ba : Nat → Int64} {q : Int64 × S_Mo × (Nat → Int64) × (Nat → Int32) × (Nat → Int32) × (Nat → Int32) × (Nat → Int32) × (Nat → Int32) × (Nat → Int32) × (Nat → Int64)} (h : Mod_come_j165 fu va tu bi x1 x3 x5 x8 x9 s rd ki co wd sca lk rp ba = some q) : q.2.2 = (rd, ki, co, wd, sca, lk, rp, ba) ∧ Mo_fields q.2.1 = Mo_fields s ∧ ((Mo_fault s = 0 ∧ okr (Mo_mode s) x1 x3 x5 x9 ∧ q.1 = x9 ∧ q.2.1 = s) ∨ (¬ (Mo_fault s = 0 ∧ okr (Mo_mode s) x1 x3 x5 x9) ∧ ¬ Mo_fault q.2.1 = 0)) := by
  have good : okr (Mo_mode s) x1 x3 x5 x9 → Mo_fault s = 0 → Mod_come_j227 fu va tu bi x9 s rd ki co wd sca lk rp ba = some q → q.2.2 = (rd, ki, co, wd, sca, lk, rp, ba) ∧ Mo_fields q.2.1 = Mo_fields s ∧ ((Mo_fault s = 0 ∧ okr (Mo_mode s) x1 x3 x5 x9 ∧ q.1 = x9 ∧ q.2.1 = s) ∨ (¬ (Mo_fault s = 0 ∧ okr (Mo_mode s) x1 x3 x5 x9) ∧ ¬ Mo_fault q.2.1 = 0)) := by
    intro ok hz g
    obtain ⟨g1, g2, g3⟩ := j227_inv g
    exact ⟨g1, by rw [g2], Or.inl ⟨hz, ok, g3 hz, g2⟩⟩
  have bad : ¬ okr (Mo_mode s) x1 x3 x5 x9 → Mod_come_j219 fu va tu bi x8 x9 s rd ki co wd sca lk rp ba = some q → q.2.2 = (rd, ki, co, wd, sca, lk, rp, ba) ∧ Mo_fields q.2.1 = Mo_fields s ∧ ((Mo_fault s = 0 ∧ okr (Mo_mode s) x1 x3 x5 x9 ∧ q.1 = x9 ∧ q.2.1 = s) ∨ (¬ (Mo_fault s = 0 ∧ okr (Mo_mode s) x1 x3 x5 x9) ∧ ¬ Mo_fault q.2.1 = 0)) := by
    intro no g
    unfold Mod_come_j219 at g
    obtain ⟨s', e, g⟩ := oi_bd g
    have w := wrong_x (by decide) e
    obtain ⟨g1, g2, _⟩ := j227_inv g
    exact ⟨g1, by rw [g2]; exact w.2.1, Or.inr ⟨fun x => no x.2, by rw [g2]; exact w.1⟩⟩
  unfold Mod_come_j165 at h
  by_cases c1 : Mo_fault s = 0
  · rw [if_pos c1] at h
    by_cases c2 : Mo_mode s = 1
    · rw [if_pos c2] at h
      by_cases c3 : x1 = 3
      · rw [if_pos c3] at h
        exact good (Or.inr (Or.inl c3)) c1 h
      · rw [if_neg c3] at h
        by_cases c4 : x9 = (-9000000000000000000)
        · rw [if_pos c4] at h
          exact good (Or.inr (Or.inr (Or.inl c4))) c1 h
        · rw [if_neg c4] at h
          by_cases c5 : x9 - x5 < 0
          · rw [if_pos c5] at h
            refine bad (fun ok => ?_) h
            rcases ok with k | k | k | k
            · exact k c2
            · exact c3 k
            · exact c4 k
            · exact k.1 c5
          · rw [if_neg c5] at h
            obtain ⟨m, em, h⟩ := oi_bd h
            by_cases c6 : x9 - x5 ≤ m - 1
            · rw [if_pos c6] at h
              exact good (Or.inr (Or.inr (Or.inr ⟨c5, m, em, c6⟩))) c1 h
            · rw [if_neg c6] at h
              refine bad (fun ok => ?_) h
              rcases ok with k | k | k | ⟨_, m', em', k⟩
              · exact k c2
              · exact c3 k
              · exact c4 k
              · rw [em] at em'
                cases em'
                exact c6 k
    · rw [if_neg c2] at h
      exact good (Or.inl c2) c1 h
  · rw [if_neg c1] at h
    obtain ⟨g1, g2, _⟩ := j227_inv h
    exact ⟨g1, by rw [g2], Or.inr ⟨fun x => c1 x.1, by rw [g2]; exact c1⟩⟩
theorem come_inv {fu i : Nat} {va : Nat → Int64} {tu bi : Nat → Int32} {a0 a1 a2 a3 a5 : Int32} {a4 : Int64} {s : S_Mo} {rd : Nat → Int64} {ki co wd sca lk rp : Nat → Int32} {ba : Nat → Int64} {q : Int64 × S_Mo × (Nat → Int64) × (Nat → Int32) × (Nat → Int32) × (Nat → Int32) × (Nat → Int32) × (Nat → Int32) × (Nat → Int32) × (Nat → Int64)} (hz : Mo_fault s = 0) (hi : (Mo_fields s).toInt = (i : Int)) (h100 : i < 100) (h : Mod_come fu va tu bi a0 a1 a2 a3 a4 a5 s rd ki co wd sca lk rp ba = some q) : ∃ (rep : Int32) (v : Int64) (s1 : S_Mo) (rd1 : Nat → Int64), Mod_repetition fu s tu = some rep ∧ Mod_valueOf fu va (upd ki i a0) (upd wd i a2) (vp_updL ba i a4) bi (Mo_fields s) (Mo_set_fields s (Mo_fields s + 1)) rd = some (v, s1, rd1) ∧ q.2.2 = (rd1, upd ki i a0, upd co i a1, upd wd i a2, upd sca i a3, upd lk i a5, upd rp i rep, vp_updL ba i a4) ∧ Mo_fields q.2.1 = Mo_fields s1 ∧ ((Mo_fault s1 = 0 ∧ okv a0 v ∧ okr (Mo_mode s1) a0 a2 a4 v ∧ q.1 = v ∧ q.2.1 = s1) ∨ (¬ (Mo_fault s1 = 0 ∧ okv a0 v ∧ okr (Mo_mode s1) a0 a2 a4 v) ∧ ¬ Mo_fault q.2.1 = 0)) := by
  have kh : (100 : Int32).toInt = 100 := by decide
  have k0 : (0 : Int32).toInt = 0 := by decide
  have nh : ¬ Mo_fields s = 100 := by rw [i_eq]; omega
  have fz : Mo_fault s ≤ 0 := by rw [hz]; decide
  have n : (Mo_fields s).toNatClampNeg = i := by
    have := i_nat (a := Mo_fields s) (by omega)
    omega
  unfold Mod_come at h
  rw [if_neg nh] at h
  unfold Mod_come_j21 o_lt at h
  rw [if_pos fz, n] at h
  have h := oe_gd (oe_gd (oe_gd (oe_gd (oe_gd (oe_gd h)))))
  obtain ⟨rep, er, h⟩ := oi_bd h
  have h := oe_gd h
  obtain ⟨⟨v, s1, rd1⟩, ev, h⟩ := oi_bd h
  dsimp only at h
  refine ⟨rep, v, s1, rd1, er, ev, ?_⟩
  have j165 : okv a0 v → Mod_come_j165 fu va tu bi a0 a2 a4 (Mo_fields s) v s1 rd1 (upd ki i a0) (upd co i a1) (upd wd i a2) (upd sca i a3) (upd lk i a5) (upd rp i rep) (vp_updL ba i a4) = some q → q.2.2 = (rd1, upd ki i a0, upd co i a1, upd wd i a2, upd sca i a3, upd lk i a5, upd rp i rep, vp_updL ba i a4) ∧ Mo_fields q.2.1 = Mo_fields s1 ∧ ((Mo_fault s1 = 0 ∧ okv a0 v ∧ okr (Mo_mode s1) a0 a2 a4 v ∧ q.1 = v ∧ q.2.1 = s1) ∨ (¬ (Mo_fault s1 = 0 ∧ okv a0 v ∧ okr (Mo_mode s1) a0 a2 a4 v) ∧ ¬ Mo_fault q.2.1 = 0)) := by
    intro ok g
    obtain ⟨g1, g2, g3⟩ := j165_inv g
    refine ⟨g1, g2, ?_⟩
    rcases g3 with ⟨x1, x2, x3, x4⟩ | ⟨x1, x2⟩
    · exact Or.inl ⟨x1, ok, x2, x3, x4⟩
    · exact Or.inr ⟨fun y => x1 ⟨y.1, y.2.2⟩, x2⟩
  have j157 : ¬ okv a0 v → Mod_come_j157 fu va tu bi a0 a2 a4 (Mo_fields s) v s1 rd1 (upd ki i a0) (upd co i a1) (upd wd i a2) (upd sca i a3) (upd lk i a5) (upd rp i rep) (vp_updL ba i a4) = some q → q.2.2 = (rd1, upd ki i a0, upd co i a1, upd wd i a2, upd sca i a3, upd lk i a5, upd rp i rep, vp_updL ba i a4) ∧ Mo_fields q.2.1 = Mo_fields s1 ∧ ((Mo_fault s1 = 0 ∧ okv a0 v ∧ okr (Mo_mode s1) a0 a2 a4 v ∧ q.1 = v ∧ q.2.1 = s1) ∨ (¬ (Mo_fault s1 = 0 ∧ okv a0 v ∧ okr (Mo_mode s1) a0 a2 a4 v) ∧ ¬ Mo_fault q.2.1 = 0)) := by
    intro no g
    unfold Mod_come_j157 at g
    obtain ⟨s2, e2, g⟩ := oi_bd g
    have w := wrong_x (by decide) e2
    obtain ⟨g1, g2, g3⟩ := j165_inv g
    refine ⟨g1, g2.trans w.2.1, Or.inr ⟨fun y => no y.2.1, ?_⟩⟩
    rcases g3 with ⟨x1, _⟩ | ⟨_, x2⟩
    · exact absurd x1 w.1
    · exact x2
  have n23 : ¬ (2 : Int32) = 3 := by decide
  have j138 : (a0 = 2 → ¬ v < 1 ∧ ¬ 30 < v) → Mod_come_j138 fu va tu bi a0 a2 a4 (Mo_fields s) v s1 rd1 (upd ki i a0) (upd co i a1) (upd wd i a2) (upd sca i a3) (upd lk i a5) (upd rp i rep) (vp_updL ba i a4) = some q → q.2.2 = (rd1, upd ki i a0, upd co i a1, upd wd i a2, upd sca i a3, upd lk i a5, upd rp i rep, vp_updL ba i a4) ∧ Mo_fields q.2.1 = Mo_fields s1 ∧ ((Mo_fault s1 = 0 ∧ okv a0 v ∧ okr (Mo_mode s1) a0 a2 a4 v ∧ q.1 = v ∧ q.2.1 = s1) ∨ (¬ (Mo_fault s1 = 0 ∧ okv a0 v ∧ okr (Mo_mode s1) a0 a2 a4 v) ∧ ¬ Mo_fault q.2.1 = 0)) := by
    intro h2 g
    unfold Mod_come_j138 at g
    by_cases c3 : a0 = 3
    · rw [if_pos c3] at g
      by_cases c4 : v = 0
      · rw [if_pos c4] at g
        exact j165 ⟨h2, fun _ => Or.inl c4⟩ g
      · rw [if_neg c4] at g
        by_cases c5 : v = 1
        · rw [if_pos c5] at g
          exact j165 ⟨h2, fun _ => Or.inr c5⟩ g
        · rw [if_neg c5] at g
          refine j157 (fun ok => ?_) g
          rcases ok.2 c3 with e | e
          · exact c4 e
          · exact c5 e
    · rw [if_neg c3] at g
      exact j165 ⟨h2, fun e => absurd e c3⟩ g
  by_cases c1 : Mo_fault s1 = 0
  · rw [if_pos c1] at h
    by_cases c2 : a0 = 2
    · rw [if_pos c2] at h
      by_cases c3 : v < 1
      · rw [if_pos c3] at h
        exact j157 (fun ok => (ok.1 c2).1 c3) h
      · rw [if_neg c3] at h
        by_cases c4 : (30 : Int64) < v
        · rw [if_pos c4] at h
          exact j157 (fun ok => (ok.1 c2).2 c4) h
        · rw [if_neg c4] at h
          exact j138 (fun _ => ⟨c3, c4⟩) h
    · rw [if_neg c2] at h
      exact j138 (fun e => absurd e c2) h
  · rw [if_neg c1] at h
    obtain ⟨g1, g2, g3⟩ := j165_inv h
    refine ⟨g1, g2, Or.inr ⟨fun y => c1 y.1, ?_⟩⟩
    rcases g3 with ⟨x1, _⟩ | ⟨_, x2⟩
    · exact absurd x1 c1
    · exact x2
theorem come_f {fu : Nat} {va : Nat → Int64} {tu bi : Nat → Int32} {a0 a1 a2 a3 a5 : Int32} {a4 : Int64} {s : S_Mo} {rd : Nat → Int64} {ki co wd sca lk rp : Nat → Int32} {ba : Nat → Int64} {q : Int64 × S_Mo × (Nat → Int64) × (Nat → Int32) × (Nat → Int32) × (Nat → Int32) × (Nat → Int32) × (Nat → Int32) × (Nat → Int32) × (Nat → Int64)} (hi : ¬ Mo_fault s ≤ 0 ∨ (Mo_fields s).toInt = 100) (h : Mod_come fu va tu bi a0 a1 a2 a3 a4 a5 s rd ki co wd sca lk rp ba = some q) : q.2.2 = (rd, ki, co, wd, sca, lk, rp, ba) ∧ ¬ Mo_fault q.2.1 = 0 ∧ Mo_fields q.2.1 = Mo_fields s := by
  have kh : (100 : Int32).toInt = 100 := by decide
  have out : ∀ (x8 : Int32) (s' : S_Mo), ¬ Mo_fault s' ≤ 0 → Mod_come_j21 fu va tu bi a0 a1 a2 a3 a4 a5 x8 s' rd ki co wd sca lk rp ba = some q → q.2.2 = (rd, ki, co, wd, sca, lk, rp, ba) ∧ q.2.1 = s' := by
    intro x8 s' c g
    unfold Mod_come_j21 at g
    rw [if_neg c] at g
    cases g
    exact ⟨rfl, rfl⟩
  have ne0 : ∀ s' : S_Mo, ¬ Mo_fault s' ≤ 0 → ¬ Mo_fault s' = 0 := by
    intro s' c e
    rw [e] at c
    exact c (by decide)
  unfold Mod_come at h
  by_cases c : Mo_fields s = 100
  · rw [if_pos c] at h
    obtain ⟨s', e, h⟩ := oi_bd h
    have w := wrong_x (by decide) e
    have w0 : ¬ Mo_fault s' ≤ 0 := wrongAt_pos (by decide) e
    obtain ⟨g1, g2⟩ := out _ _ w0 h
    exact ⟨g1, by rw [g2]; exact w.1, by rw [g2]; exact w.2.1⟩
  · rw [if_neg c] at h
    have hn : ¬ Mo_fault s ≤ 0 := by
      rcases hi with x | x
      · exact x
      · exact absurd (i_eq.mpr (by rw [x, kh])) c
    obtain ⟨g1, g2⟩ := out _ _ hn h
    exact ⟨g1, by rw [g2]; exact ne0 s hn, by rw [g2]⟩

-- the walk: what is left of the lists
def rn (tu : Nat → Int32) : Nat → Nat
  | 0 => 0
  | f + 1 => rn tu f + (if tu f < 0 then 0 else 1)
theorem rn_cong {tu tu' : Nat → Int32} : ∀ f : Nat, (∀ j, j < f → tu' j = tu j) → rn tu' f = rn tu f
  | 0, _ => rfl
  | f + 1, h => by
    rw [rn, rn, rn_cong f (fun j hj => h j (by omega)), h f (by omega)]
theorem rn_s {tu : Nat → Int32} {f : Nat} (h : tu f < 0) : rn tu (f + 1) = rn tu f := by
  rw [rn, if_pos h]
  rfl
theorem rn_r {tu : Nat → Int32} {f : Nat} (h : ¬ tu f < 0) : rn tu (f + 1) = rn tu f + 1 := by
  rw [rn, if_neg h]
theorem rn_le {tu : Nat → Int32} (h : tu 0 < 0) : ∀ f : Nat, rn tu (f + 1) ≤ f
  | 0 => by
    rw [rn_s h]
    exact Nat.le_refl _
  | f + 1 => by
    have := rn_le h f
    by_cases c : tu (f + 1) < 0
    · rw [rn_s c]
      omega
    · rw [rn_r c]
      omega
def fp (li ne : Nat → Int32) (f : Nat) : Nat := 8 * (li f).toNatClampNeg + (ne f).toNatClampNeg
def FrL (J : Nat → Nat → Nat → Nat → Prop) (li en be lf tu : Nat → Int32) (L : S_Lps) (f E : Nat) : Prop := (tu f < 0 ∧ (lf f).toInt = 1) ∨ (¬ tu f < 0 ∧ 1 ≤ (lf f).toInt ∧ (tu f).toInt + (lf f).toInt ≤ 30 ∧ ∃ S m : Nat, Sg J m (fp li be f) (fp li en f) S E ∧ (Lps_starts L (rn tu f)).toInt = (S : Int) ∧ (Lps_ends L (rn tu f)).toInt = (E : Int) ∧ (Lps_done L (rn tu f)).toInt = (tu f).toInt ∧ (Lps_times L (rn tu f)).toInt = (tu f).toInt + (lf f).toInt)
def St (F : Nat → Int32) (Z : Nat → Nat) (D B : Nat → Int32) (sz : Nat) (li ne en be lf tu : Nat → Int32) (L : S_Lps) : Nat → Nat → Prop
  | 0, a => (∃ m, Sg (It F Z D B 64) m (fp li ne 0) (fp li en 0) a sz) ∧ tu 0 < 0 ∧ (lf 0).toInt = 1
  | o + 1, a => o + 1 ≤ 63 ∧ ∃ E, (∃ m, Sg (It F Z D B (63 - o)) m (fp li ne (o + 1)) (fp li en (o + 1)) a E) ∧ FrL (It F Z D B (63 - o)) li en be lf tu L (o + 1) E ∧ St F Z D B sz li ne en be lf tu L o E
def LpE (L L' : S_Lps) (k : Nat) : Prop := Lps_starts L' k = Lps_starts L k ∧ Lps_ends L' k = Lps_ends L k ∧ Lps_done L' k = Lps_done L k ∧ Lps_times L' k = Lps_times L k
def FrE (li ne en be lf tu li' ne' en' be' lf' tu' : Nat → Int32) (f : Nat) : Prop := li' f = li f ∧ ne' f = ne f ∧ en' f = en f ∧ be' f = be f ∧ lf' f = lf f ∧ tu' f = tu f
theorem FrL_cong {J : Nat → Nat → Nat → Nat → Prop} {li en be lf tu li' en' be' lf' tu' : Nat → Int32} {L L' : S_Lps} {f E : Nat} (h1 : li' f = li f) (h2 : en' f = en f) (h3 : be' f = be f) (h4 : lf' f = lf f) (h5 : tu' f = tu f) (h6 : rn tu' f = rn tu f) (h7 : ¬ tu f < 0 → LpE L L' (rn tu f)) (H : FrL J li en be lf tu L f E) : FrL J li' en' be' lf' tu' L' f E := by
  rcases H with ⟨a, b⟩ | ⟨a, b, c, S, m, d1, d2, d3, d4, d5⟩
  · exact Or.inl ⟨by rw [h5]; exact a, by rw [h4]; exact b⟩
  · obtain ⟨g1, g2, g3, g4⟩ := h7 a
    refine Or.inr ⟨by rw [h5]; exact a, by rw [h4]; exact b, by rw [h4, h5]; exact c, S, m, ?_, by rw [h6, g1]; exact d2, by rw [h6, g2]; exact d3, by rw [h6, g3, h5]; exact d4, by rw [h6, g4, h5, h4]; exact d5⟩
    unfold fp
    rw [h1, h2, h3]
    exact d1
theorem St_cong {F : Nat → Int32} {Z : Nat → Nat} {D B : Nat → Int32} {sz : Nat} {li ne en be lf tu li' ne' en' be' lf' tu' : Nat → Int32} {L L' : S_Lps} : ∀ (o a : Nat), (∀ f, f ≤ o → FrE li ne en be lf tu li' ne' en' be' lf' tu' f) → (∀ k, k < rn tu (o + 1) → LpE L L' k) → St F Z D B sz li ne en be lf tu L o a → St F Z D B sz li' ne' en' be' lf' tu' L' o a
  | 0, a, h, g, H => by
    obtain ⟨⟨m, H1⟩, H2, H3⟩ := H
    obtain ⟨e1, e2, e3, e4, e5, e6⟩ := h 0 (Nat.le_refl _)
    refine ⟨⟨m, ?_⟩, by rw [e6]; exact H2, by rw [e5]; exact H3⟩
    unfold fp
    rw [e1, e2, e3]
    exact H1
  | o + 1, a, h, g, H => by
    obtain ⟨H0, E, ⟨m, H1⟩, H2, H3⟩ := H
    obtain ⟨e1, e2, e3, e4, e5, e6⟩ := h (o + 1) (Nat.le_refl _)
    have er : rn tu' (o + 1) = rn tu (o + 1) := rn_cong (o + 1) (fun j hj => (h j (by omega)).2.2.2.2.2)
    have mo : rn tu (o + 1) ≤ rn tu (o + 1 + 1) := by
      by_cases c : tu (o + 1) < 0
      · rw [rn_s c]
        exact Nat.le_refl _
      · rw [rn_r c]
        exact Nat.le_succ _
    refine ⟨H0, E, ⟨m, ?_⟩, FrL_cong e1 e3 e4 e5 e6 er (fun c => g _ (by rw [rn_r c]; exact Nat.lt_succ_self _)) H2, St_cong o E (fun f hf => h f (by omega)) (fun k hk => g k (Nat.lt_of_lt_of_le hk mo)) H3⟩
    unfold fp
    rw [e1, e2, e3]
    exact H1
theorem St_t0 {F : Nat → Int32} {Z : Nat → Nat} {D B : Nat → Int32} {sz : Nat} {li ne en be lf tu : Nat → Int32} {L : S_Lps} : ∀ (o a : Nat), St F Z D B sz li ne en be lf tu L o a → tu 0 < 0 ∧ o ≤ 63
  | 0, a, H => ⟨H.2.1, by omega⟩
  | o + 1, a, H => by
    obtain ⟨H0, E, _, _, H3⟩ := H
    exact ⟨(St_t0 o E H3).1, H0⟩
theorem St_top {F : Nat → Int32} {Z : Nat → Nat} {D B : Nat → Int32} {sz : Nat} {li ne en be lf tu : Nat → Int32} {L : S_Lps} : ∀ (o a : Nat), St F Z D B sz li ne en be lf tu L o a → fp li ne o ≤ fp li en o ∧ a ≤ sz
  | 0, a, H => by
    obtain ⟨⟨m, H1⟩, _, _⟩ := H
    rcases Sg_adv (It_adv _) m _ _ _ _ H1 with ⟨_, x, y⟩ | ⟨x, y⟩ <;> omega
  | o + 1, a, H => by
    obtain ⟨H0, E, ⟨m, H1⟩, _, H3⟩ := H
    have := (St_top o E H3).2
    rcases Sg_adv (It_adv _) m _ _ _ _ H1 with ⟨_, x, y⟩ | ⟨x, y⟩ <;> omega
theorem St_end {F : Nat → Int32} {Z : Nat → Nat} {D B : Nat → Int32} {sz : Nat} {li ne en be lf tu : Nat → Int32} {L : S_Lps} : ∀ (o a : Nat), St F Z D B sz li ne en be lf tu L o a → ¬ rn tu (o + 1) = 0 → (a : Int) ≤ (Lps_ends L (rn tu (o + 1) - 1)).toInt ∧ (fp li ne o < fp li en o → (a : Int) < (Lps_ends L (rn tu (o + 1) - 1)).toInt)
  | 0, a, H, h => by
    rw [rn_s H.2.1] at h
    exact absurd rfl h
  | o + 1, a, H, h => by
    obtain ⟨H0, E, ⟨m, H1⟩, H2, H3⟩ := H
    have adv : (a ≤ E) ∧ (fp li ne (o + 1) < fp li en (o + 1) → a < E) := by
      rcases Sg_adv (It_adv _) m _ _ _ _ H1 with ⟨_, x, y⟩ | ⟨x, y⟩
      · exact ⟨by omega, fun c => by omega⟩
      · exact ⟨by omega, fun _ => y⟩
    rcases H2 with ⟨c, _⟩ | ⟨c, _, _, S, m', _, _, d3, _, _⟩
    · rw [rn_s c] at h ⊢
      have ih := (St_end o E H3 h).1
      exact ⟨by omega, fun x => by have := adv.2 x; omega⟩
    · rw [rn_r c]
      have e : rn tu (o + 1) + 1 - 1 = rn tu (o + 1) := by omega
      rw [e, d3]
      exact ⟨by omega, fun x => by have := adv.2 x; omega⟩
-- the class's loops
theorem lp_stay {fu m : Nat} {x : Int32} {L : S_Lps} (h : Lps_open L ≤ 0 ∨ ∃ k : Nat, k < 64 ∧ (Lps_open L).toInt = (k : Int) + 1 ∧ ¬ x = Lps_ends L k) : Lps_onFrom_L0 fu x (m + 1) L = some (x, L) := by
  rw [Lps_onFrom_L0]
  by_cases c : Lps_open L ≤ 0
  · rw [if_pos c]
  · rw [if_neg c]
    rcases h with h | ⟨k, hk, ho, hx⟩
    · exact absurd h c
    · have k1 : (1 : Int32).toInt = 1 := by decide
      have e : (Lps_open L - 1).toInt = (k : Int) := by
        rw [i_sub (a := Lps_open L) (b := 1) (by omega) (by omega), ho, k1]
        omega
      have g : o_in (Lps_open L - 1) 64 = true := i_in.mpr (by rw [e]; clear e; omega)
      have n : (Lps_open L - 1).toNatClampNeg = k := by
        have := i_nat (a := Lps_open L - 1) (by rw [e]; clear e; omega)
        rw [e] at this
        clear e
        omega
      rw [gd_t g, n, if_neg hx]
theorem lp_end {fu m k : Nat} {x : Int32} {L : S_Lps} (hk : k < 64) (ho : (Lps_open L).toInt = (k : Int) + 1) (hx : x = Lps_ends L k) : Lps_onFrom_L0 fu x (m + 1) L = (if Lps_times L k ≤ Lps_done L k + 1 then Lps_onFrom_L0 fu x m (Lps_set_open (Lps_put_done L k (Lps_done L k + 1)) (Lps_open L - 1)) else some (Lps_starts L k, Lps_put_done L k (Lps_done L k + 1))) := by
  have k1 : (1 : Int32).toInt = 1 := by decide
  have k0 : (0 : Int32).toInt = 0 := by decide
  have e : (Lps_open L - 1).toInt = (k : Int) := by
    rw [i_sub (a := Lps_open L) (b := 1) (by omega) (by omega), ho, k1]
    omega
  have g : o_in (Lps_open L - 1) 64 = true := i_in.mpr (by rw [e]; clear e; omega)
  have n : (Lps_open L - 1).toNatClampNeg = k := by
    have := i_nat (a := Lps_open L - 1) (by rw [e]; clear e; omega)
    rw [e] at this
    clear e
    omega
  have c : ¬ Lps_open L ≤ 0 := by rw [i_le, ho, k0]; clear e; omega
  have at_ : ∀ v, Lps_done (Lps_put_done L k v) k = v := fun v => upd_at _ _ _
  rw [Lps_onFrom_L0, if_neg c, gd_t g, n, if_pos hx, gd_t g, gd_t g]
  show o_gd (o_in (Lps_open L - 1) 64) (o_gd (o_in (Lps_open L - 1) 64) (if Lps_times L k ≤ Lps_done (Lps_put_done L k (Lps_done L k + 1)) k then Lps_onFrom_L0 fu x m (Lps_set_open (Lps_put_done L k (Lps_done L k + 1)) (Lps_open L - 1)) else o_gd (o_in (Lps_open L - 1) 64) (some (Lps_starts L k, Lps_put_done L k (Lps_done L k + 1))))) = _
  rw [gd_t g, gd_t g, at_, gd_t g]
-- the reference's loop, one turn
theorem r_pop {fu o n : Nat} {th sc rf wi ls le : Nat → Int32} {va : Nat → Int64} {bi : Nat → Int32} {s : S_Mo} {rd : Nat → Int64} {li ne en be lf tu fo op ki co wd sca lk rp : Nat → Int32} {ba : Nat → Int64} {ea pa : Nat → Int32} {r : A19} (ho : (Mo_open s).toInt = (o : Int) + 1) (h90 : o < 90) (hz : Mo_fault s = 0) (c3 : en o ≤ ne o) (c4 : lf o ≤ 1) (h : Mod_walk_L34 fu th sc rf wi ls le va bi (n + 1) s rd li ne en be lf tu fo op ki co wd sca lk rp ba ea pa = some r) : Mod_walk_L34 fu th sc rf wi ls le va bi n (Mo_set_open s (Mo_open s - 1)) rd li ne en be lf tu fo op ki co wd sca lk rp ba ea pa = some r := by
  have k0 : (0 : Int32).toInt = 0 := by decide
  have k1 : (1 : Int32).toInt = 1 := by decide
  have c1 : ¬ Mo_open s ≤ 0 := by rw [i_le]; omega
  have i2 : (Mo_open s - 1).toNatClampNeg = o := by
    have eo := i_sub (a := Mo_open s) (b := 1) (by omega) (by omega)
    have := i_nat (a := Mo_open s - 1) (by omega)
    omega
  rw [Mod_walk_L34, if_neg c1, if_pos hz, i2] at h
  have h := oe_gd (oe_gd h)
  rw [if_pos c3] at h
  have h := oe_gd h
  rw [if_pos c4] at h
  unfold o_lt Mod_walk_j172 at h
  exact h
theorem r_turn {fu o n : Nat} {th sc rf wi ls le : Nat → Int32} {va : Nat → Int64} {bi : Nat → Int32} {s : S_Mo} {rd : Nat → Int64} {li ne en be lf tu fo op ki co wd sca lk rp : Nat → Int32} {ba : Nat → Int64} {ea pa : Nat → Int32} {r : A19} (ho : (Mo_open s).toInt = (o : Int) + 1) (h90 : o < 90) (hz : Mo_fault s = 0) (c3 : en o ≤ ne o) (c4 : ¬ lf o ≤ 1) (h : Mod_walk_L34 fu th sc rf wi ls le va bi (n + 1) s rd li ne en be lf tu fo op ki co wd sca lk rp ba ea pa = some r) : Mod_walk_L34 fu th sc rf wi ls le va bi n s rd li (upd ne o (be o)) en be (upd lf o (lf o - 1)) (upd tu o (tu o + 1)) fo op ki co wd sca lk rp ba ea pa = some r := by
  have k0 : (0 : Int32).toInt = 0 := by decide
  have k1 : (1 : Int32).toInt = 1 := by decide
  have c1 : ¬ Mo_open s ≤ 0 := by rw [i_le]; omega
  have i2 : (Mo_open s - 1).toNatClampNeg = o := by
    have eo := i_sub (a := Mo_open s) (b := 1) (by omega) (by omega)
    have := i_nat (a := Mo_open s - 1) (by omega)
    omega
  rw [Mod_walk_L34, if_neg c1, if_pos hz, i2] at h
  have h := oe_gd (oe_gd h)
  rw [if_pos c3] at h
  have h := oe_gd h
  rw [if_neg c4] at h
  have h := oe_gd (oe_gd h)
  unfold o_lt at h
  dsimp only at h
  have h := oe_gd (oe_gd h)
  have h := oe_gd (oe_gd h)
  unfold Mod_walk_j172 at h
  exact h
theorem r_go {fu o n : Nat} {th sc rf wi ls le : Nat → Int32} {va : Nat → Int64} {bi : Nat → Int32} {s : S_Mo} {rd : Nat → Int64} {li ne en be lf tu fo op ki co wd sca lk rp : Nat → Int32} {ba : Nat → Int64} {ea pa : Nat → Int32} {r : A19} (ho : (Mo_open s).toInt = (o : Int) + 1) (h90 : o < 90) (hz : Mo_fault s = 0) (c3 : ¬ en o ≤ ne o) (h : Mod_walk_L34 fu th sc rf wi ls le va bi (n + 1) s rd li ne en be lf tu fo op ki co wd sca lk rp ba ea pa = some r) : ∃ (k : Int32) (s1 : S_Mo), Mod_comes s = some (k, s1) ∧ ((k = 0 ∧ Mod_walk_L34 fu th sc rf wi ls le va bi n s1 rd li (upd ne o (ne o + 1)) en be lf tu fo op ki co wd sca lk rp ba ea pa = some r) ∨ (¬ k = 0 ∧ ∃ w : A19, Mod_walkOne fu th sc rf wi ls le va bi (ls (24 * li o + (ne o + 1) - 1).toNatClampNeg) s1 rd li (upd ne o (ne o + 1)) en be lf tu fo op ki co wd sca lk rp ba ea pa = some w ∧ Mod_walk_L34 fu th sc rf wi ls le va bi n w.1 w.2.1 w.2.2.1 w.2.2.2.1 w.2.2.2.2.1 w.2.2.2.2.2.1 w.2.2.2.2.2.2.1 w.2.2.2.2.2.2.2.1 w.2.2.2.2.2.2.2.2.1 w.2.2.2.2.2.2.2.2.2.1 w.2.2.2.2.2.2.2.2.2.2.1 w.2.2.2.2.2.2.2.2.2.2.2.1 w.2.2.2.2.2.2.2.2.2.2.2.2.1 w.2.2.2.2.2.2.2.2.2.2.2.2.2.1 w.2.2.2.2.2.2.2.2.2.2.2.2.2.2.1 w.2.2.2.2.2.2.2.2.2.2.2.2.2.2.2.1 w.2.2.2.2.2.2.2.2.2.2.2.2.2.2.2.2.1 w.2.2.2.2.2.2.2.2.2.2.2.2.2.2.2.2.2.1 w.2.2.2.2.2.2.2.2.2.2.2.2.2.2.2.2.2.2 = some r)) := by
  have k0 : (0 : Int32).toInt = 0 := by decide
  have k1 : (1 : Int32).toInt = 1 := by decide
  have c1 : ¬ Mo_open s ≤ 0 := by rw [i_le]; omega
  have i2 : (Mo_open s - 1).toNatClampNeg = o := by
    have eo := i_sub (a := Mo_open s) (b := 1) (by omega) (by omega)
    have := i_nat (a := Mo_open s - 1) (by omega)
    omega
  rw [Mod_walk_L34, if_neg c1, if_pos hz, i2] at h
  have h := oe_gd (oe_gd h)
  rw [if_neg c3] at h
  have h := oe_gd (oe_gd h)
  unfold o_lt at h
  dsimp only at h
  obtain ⟨⟨k, s1⟩, e1, h⟩ := oi_bd h
  unfold Mod_walk_j172 at h
  dsimp only at h
  refine ⟨k, s1, e1, ?_⟩
  by_cases ck : k = 0
  · rw [if_pos ck] at h
    exact Or.inl ⟨ck, h⟩
  · rw [if_neg ck] at h
    have h := oe_gd (oe_gd (oe_gd h))
    rw [upd_at] at h
    obtain ⟨w, ew, h⟩ := oi_bd h
    exact Or.inr ⟨ck, w, ew, h⟩

-- p10: get
theorem get_both {X : S_X} {VAL : Nat → Nat → Int64} {va w : Nat → Int64} {a b : Int32} {s : S_Mo} (V : RwR VAL va) : ∃ (q : Int32 × (Nat → Int64)) (p : Int64 × S_Mo), Law_get 1 X VAL a b w = some q ∧ Mod_get va a b s = some p ∧ p.2 = Mo_set_thrown s q.1 ∧ (q.1 = 0 → q.2 0 = p.1) := by
  have k0 : (0 : Int32).toInt = 0 := by decide
  have kh : (100 : Int32).toInt = 100 := by decide
  by_cases c : (0 ≤ a.toInt ∧ a.toInt < 8) ∧ 0 ≤ b.toInt ∧ b.toInt < 100
  · have ix := idx_k (b := a) (f := b) (k := a.toInt.toNat) (i := b.toInt.toNat) (by omega) (by omega) (by omega) (by omega)
    have ex : X_get X VAL a b = some (0, VAL a.toInt.toNat b.toInt.toNat) := by
      unfold X_get
      rw [bd_s isv, if_pos c, if_neg (show ¬ (1 : Int32) = 0 by decide), gd_t (i_in.mpr (by omega)), gd_t (i_in.mpr (by omega))]
      rfl
    refine ⟨(0, vp_updL w 0 (VAL a.toInt.toNat b.toInt.toNat)), (va (100 * a.toInt.toNat + b.toInt.toNat), Mo_set_thrown s 0), ?_, ?_, rfl, fun _ => ?_⟩
    · unfold Law_get
      rw [bd_s ex, if_pos rfl, gd_t (show o_in 0 1 = true by decide)]
      rfl
    · unfold Mod_get
      have c3 : ¬ b < 0 := by rw [i_lt]; omega
      have c4 : ¬ 100 ≤ b := by rw [i_le]; omega
      rw [bd_s iss, if_pos c.1, if_neg (show ¬ (1 : Int32) = 0 by decide), if_neg c3, if_neg c4]
      unfold Mod_get_j23 o_lt
      dsimp only
      rw [if_pos rfl, gd_t ix.2, ix.1]
    · show vp_updL w 0 _ 0 = _
      rw [updL_at]
      exact V _ _ (by omega) (by omega)
  · have ex : X_get X VAL a b = some (3, 0) := by
      unfold X_get
      rw [bd_s isv, if_neg c, if_pos rfl]
    refine ⟨(1, w), (0, Mo_set_thrown s 1), ?_, ?_, rfl, fun e => absurd e (by show ¬ (1 : Int32) = 0; decide)⟩
    · unfold Law_get
      rw [bd_s ex, if_neg (show ¬ (3 : Int32) = 0 by decide), if_pos rfl]
    · have j22 : Mod_get_j22 va a b s = some (0, Mo_set_thrown s 1) := by
        unfold Mod_get_j22 Mod_get_j23 o_lt
        dsimp only
        rw [if_neg (show ¬ (1 : Int32) = 0 by decide)]
      unfold Mod_get
      rw [bd_s iss]
      by_cases c1 : 0 ≤ a.toInt ∧ a.toInt < 8
      · rw [if_pos c1, if_neg (show ¬ (1 : Int32) = 0 by decide)]
        by_cases c3 : b < 0
        · rw [if_pos c3]
          exact j22
        · rw [if_neg c3]
          by_cases c4 : 100 ≤ b
          · rw [if_pos c4]
            exact j22
          · rw [i_lt] at c3
            rw [i_le] at c4
            exact absurd ⟨c1, by omega, by omega⟩ c
      · rw [if_neg c1, if_pos rfl]
        exact j22
theorem t_La_c8 {fu N : Nat} {xs : Nat → Int32} {X : S_X} {VAL : Nat → Nat → Int64} {va w : Nat → Int64} {x4 : Int32} {s : S_Mo} {t : S_Tab} {th sc rf wi ls le tape : Nat → Int32} {tp : S_Bits} (I : I_Mo s) (h0 : 0 ≤ x4.toInt) (h1 : x4.toInt + 5 < (N : Int)) (h2 : (N : Int) ≤ 3072) (T : TbR t (Mo_used s) th sc rf wi ls le) (V : RwR VAL va) (Tp : TpR tp tape (Mo_taped s)) : So (La_c8 fu xs N X VAL va x4 s w) (fun r => I_Mo r.1 ∧ TbR t (Mo_used r.1) th sc rf wi ls le ∧ TpR tp tape (Mo_taped r.1)) := by
  unfold La_c8
  have k1 : (1 : Int32).toInt = 1 := by decide
  have k2 : (2 : Int32).toInt = 2 := by decide
  have e1 := i_add (a := x4) (b := 1) (by omega) (by omega)
  have e2 := i_add (a := x4) (b := 2) (by omega) (by omega)
  have g1 : o_in (x4 + 1) N = true := i_in.mpr (by omega)
  have g2 : o_in (x4 + 2) N = true := i_in.mpr (by omega)
  obtain ⟨q, p, eq, ep, hp, hv⟩ := get_both (X := X) (w := w) (a := xs (x4 + 1).toNatClampNeg) (b := xs (x4 + 2).toNatClampNeg) (s := s) V
  have et : Mod_thrown p.2 = some q.1 := by
    unfold Mod_thrown
    rw [hp]
  have fin : ∀ w', So (some (p.2, w')) (fun r : S_Mo × (Nat → Int64) => I_Mo r.1 ∧ TbR t (Mo_used r.1) th sc rf wi ls le ∧ TpR tp tape (Mo_taped r.1)) := fun w' => So.one (by
    show I_Mo p.2 ∧ TbR t (Mo_used p.2) th sc rf wi ls le ∧ TpR tp tape (Mo_taped p.2)
    rw [hp]
    exact ⟨I_Mo_set_thrown I, T, Tp⟩)
  refine So.gd g1 (So.gd g2 (So.bde eq (So.gd g1 (So.gd g2 (So.bde ep (So.bde et (So.pos rfl ?_)))))))
  by_cases c : q.1 = 0
  · exact So.pos c (So.gd (by decide) (So.pos (hv c) (fin _)))
  · exact So.neg c (fin _)

-- the class's compiling: one step keeps what is compiled
theorem CP_simple {F : Nat → Int32} {Z : Nat → Nat} {P P' : S_Prog} {st sp qf hp a e : Nat → Nat} {o z : Nat} (C : CP F Z P st sp qf hp a e o z) (ha : a o < e o) (hd : ¬ (100 ≤ (F (a o)).toInt ∧ (F (a o)).toInt ≤ 115) ∧ ¬ (216 ≤ (F (a o)).toInt ∧ (F (a o)).toInt ≤ 343)) (hD : ∀ j, j < z → Prog_descriptors P' j = Prog_descriptors P j) (hDz : Prog_descriptors P' z = F (a o)) (hB : Prog_bodyEnds P' = Prog_bodyEnds P) (hS : (Prog_size P').toInt = ((z + 1 : Nat) : Int)) (hO : Prog_open P' = Prog_open P) (hA : ∀ f, f ≤ o → (Prog_openAts P' f).toInt = ((updN a o (a o + 1) f : Nat) : Int)) (hE : Prog_openEnds P' = Prog_openEnds P) (hR : Prog_openRepeats P' = Prog_openRepeats P) : CP F Z P' st sp qf hp (updN a o (a o + 1)) e o (z + 1) := by
  obtain ⟨c1, c2, c3, ⟨m, c4⟩, c5, c6, c7, c8, c9, c10⟩ := C
  refine ⟨by rw [hO]; exact c1, hS, fun f hf => ?_, ⟨m + 1, ?_⟩, fun f hf => ?_, c6, c7, c8, by rw [hR]; exact c9, c10⟩
  · obtain ⟨x1, x2, x3, x4, l, x5, x6, x7⟩ := c3 f hf
    refine ⟨hA f hf, by rw [hE]; exact x2, ?_, by omega, l, x5, ?_, x7⟩
    · by_cases ef : f = o
      · rw [ef, updN_at]
        exact ha
      · rw [updN_ne ef]
        exact x3
    · by_cases ef : f = o
      · rw [ef] at x6
        rw [ef, updN_at]
        omega
      · rw [updN_ne ef]
        exact x6
  · rw [updN_at]
    have s0 : Sg (It F Z (Prog_descriptors P') (Prog_bodyEnds P') (64 - o)) m (st o) (a o) (sp o) z := SgI_cong (fun j _ hj => hD j hj) (fun j _ _ => by rw [hB]) c4
    have i1 : It F Z (Prog_descriptors P') (Prog_bodyEnds P') (63 - o + 1) (a o) (a o + 1) z (z + 1) := ⟨hDz, Or.inl ⟨hd, rfl, rfl⟩⟩
    have e64 : 63 - o + 1 = 64 - o := by omega
    rw [e64] at i1
    exact Sg_snoc m _ _ _ _ _ _ s0 i1
  · have sz := (c3 (f + 1) (by omega)).2.2.2.1
    exact Hd_keep (z := z) (c5 f hf) sz hD (fun j _ => by rw [hB]) (by rw [hR]) rfl rfl rfl rfl rfl rfl (updN_ne (by omega)) rfl
def HdD (F : Nat → Int32) (Z : Nat → Nat) (P : S_Prog) (f q p ao s1 e1 z1 : Nat) : Prop := ((100 ≤ (F q).toInt ∧ (F q).toInt ≤ 115) ∧ ao = q + 1 ∧ 0 < Z ((F q).toInt - 100).toNat ∧ s1 = 8 * ((F q).toInt - 100).toNat ∧ e1 = 8 * ((F q).toInt - 100).toNat + Z ((F q).toInt - 100).toNat ∧ z1 = p + 1 ∧ (Prog_openRepeats P (f + 1)).toInt = -1) ∨ ((216 ≤ (F q).toInt ∧ (F q).toInt ≤ 343) ∧ ¬ ((F q).toInt - 200) % 16 = 0 ∧ ao = q + 1 + (((F q).toInt - 200) / 16).toNat ∧ s1 = q + 1 ∧ e1 = ao ∧ z1 = p + 1 ∧ (Prog_openRepeats P (f + 1)).toInt = (p : Int)) ∨ ((216 ≤ (F q).toInt ∧ (F q).toInt ≤ 343) ∧ ((F q).toInt - 200) % 16 = 0 ∧ ao = q + 2 + (((F q).toInt - 200) / 16).toNat ∧ (0 ≤ (F (q + 1)).toInt ∧ (F (q + 1)).toInt ≤ 63) ∧ Prog_descriptors P (p + 1) = F (q + 1) ∧ s1 = q + 2 ∧ e1 = ao ∧ z1 = p + 2 ∧ (Prog_openRepeats P (f + 1)).toInt = (p : Int))
theorem CP_push {F : Nat → Int32} {Z : Nat → Nat} {P P' : S_Prog} {st sp qf hp a e : Nat → Nat} {o z : Nat} {ao s1 e1 z1 : Nat} (C : CP F Z P st sp qf hp a e o z) (h5 : o + 1 ≤ 63) (hz : z < z1) (h1 : a o ≤ ao) (h2 : ao ≤ e o) (h3 : s1 ≤ e1) (h4 : ∃ l, l ≤ 16 ∧ 8 * l ≤ s1 ∧ e1 ≤ 8 * l + Z l) (hD : ∀ j, j < z → Prog_descriptors P' j = Prog_descriptors P j) (hDz : Prog_descriptors P' z = F (a o)) (hB : Prog_bodyEnds P' = Prog_bodyEnds P) (hS : (Prog_size P').toInt = (z1 : Int)) (hO : (Prog_open P').toInt = (o : Int) + 2) (hA : ∀ f, f ≤ o + 1 → (Prog_openAts P' f).toInt = ((updN (updN a o ao) (o + 1) s1 f : Nat) : Int)) (hE : ∀ f, f ≤ o + 1 → (Prog_openEnds P' f).toInt = ((updN e (o + 1) e1 f : Nat) : Int)) (hR : ∀ f, f ≤ o → Prog_openRepeats P' f = Prog_openRepeats P f) (hH : HdD F Z P' o (a o) z ao s1 e1 z1) : CP F Z P' (updN st (o + 1) s1) (updN sp (o + 1) z1) (updN qf o (a o)) (updN hp o z) (updN (updN a o ao) (o + 1) s1) (updN e (o + 1) e1) (o + 1) z1 := by
  obtain ⟨c1, c2, c3, ⟨m, c4⟩, c5, c6, c7, c8, c9, c10⟩ := C
  have sp_o := (c3 o (Nat.le_refl _)).2.2.2.1
  refine ⟨by rw [hO]; omega, hS, fun f hf => ?_, ⟨0, ?_⟩, fun f hf => ?_, ?_, ?_, ?_, ?_, h5⟩
  · by_cases ef : f = o + 1
    · rw [ef]
      refine ⟨hA _ (Nat.le_refl _), hE _ (Nat.le_refl _), ?_, ?_, ?_⟩
      · rw [updN_at, updN_at]
        exact h3
      · rw [updN_at]
        exact Nat.le_refl _
      · rw [updN_at, updN_at]
        exact h4
    · obtain ⟨x1, x2, x3, x4, l, x5, x6, x7⟩ := c3 f (by omega)
      refine ⟨hA f hf, hE f hf, ?_, ?_, l, x5, ?_, ?_⟩
      · rw [updN_ne ef, updN_ne ef]
        by_cases eo : f = o
        · rw [eo, updN_at]
          exact h2
        · rw [updN_ne eo]
          exact x3
      · rw [updN_ne ef]
        omega
      · rw [updN_ne ef]
        by_cases eo : f = o
        · rw [eo] at x6
          rw [eo, updN_at]
          omega
        · rw [updN_ne eo]
          exact x6
      · rw [updN_ne ef]
        exact x7
  · rw [updN_at, updN_at, updN_at]
    exact ⟨rfl, rfl⟩
  · by_cases eo : f = o
    · rw [eo]
      have u1 : updN qf o (a o) o = a o := updN_at _ _ _
      have u2 : updN hp o z o = z := updN_at _ _ _
      have u3 : updN st (o + 1) s1 o = st o := updN_ne (by omega)
      have u4 : updN sp (o + 1) z1 o = sp o := updN_ne (by omega)
      have u5 : updN (updN a o ao) (o + 1) s1 o = ao := (updN_ne (by omega)).trans (updN_at _ _ _)
      have u6 : updN st (o + 1) s1 (o + 1) = s1 := updN_at _ _ _
      have u7 : updN e (o + 1) e1 (o + 1) = e1 := updN_at _ _ _
      have u8 : updN sp (o + 1) z1 (o + 1) = z1 := updN_at _ _ _
      unfold Hd
      rw [u1, u2, u3, u4, u5, u6, u7, u8]
      exact ⟨hDz, sp_o, hz, ⟨m, SgI_cong (fun j _ hj => hD j hj) (fun j _ _ => by rw [hB]) c4⟩, hH⟩
    · have fo : f < o := by omega
      have sz := (c3 (f + 1) (by omega)).2.2.2.1
      exact Hd_keep (z := z) (c5 f fo) sz hD (fun j _ => by rw [hB]) (hR _ (by omega)) (updN_ne (by omega)) (updN_ne (by omega)) (updN_ne (by omega)) (updN_ne (by omega)) (updN_ne eo) (updN_ne eo) ((updN_ne (by omega)).trans (updN_ne eo)) (updN_ne (by omega))
  · exact (updN_ne (by omega)).trans c6
  · exact (updN_ne (by omega)).trans c7
  · exact (updN_ne (by omega)).trans c8
  · rw [hR 0 (Nat.zero_le _)]
    exact c9
theorem close_inv_L {fu : Nat} {P P' : S_Prog} {ke : Option S_Prog} (h0 : Prog_fault P' = 0) : ∀ (n : Nat) (x : Int32), Prog_closeList_L12 fu P ke n x = some P' → ke = some P'
  | 0, x, h => by
    rw [Prog_closeList_L12] at h
    cases h
  | n + 1, x, h => by
    rw [Prog_closeList_L12] at h
    split at h
    · exact h
    · have h := oe_gd (oe_gd h)
      split at h
      · exact close_inv_L h0 n (x + 1) h
      · obtain ⟨Q, e, hQ⟩ := fail_x 4 P
        rw [bd_s e] at h
        cases h
        exact absurd (hQ.symm.trans h0) (by decide)
theorem close_inv {fu : Nat} {P P' : S_Prog} (h : Prog_closeList fu P = some P') (h0 : Prog_fault P' = 0) : Prog_descriptors P' = Prog_descriptors P ∧ Prog_size P' = Prog_size P ∧ Prog_open P' = Prog_open P - 1 ∧ Prog_openAts P' = Prog_openAts P ∧ Prog_openEnds P' = Prog_openEnds P ∧ Prog_openRepeats P' = Prog_openRepeats P ∧ ((Prog_openRepeats P (Prog_open P - 1).toNatClampNeg = (-1) ∧ Prog_bodyEnds P' = Prog_bodyEnds P) ∨ (¬ Prog_openRepeats P (Prog_open P - 1).toNatClampNeg = (-1) ∧ Prog_bodyEnds P' = upd (Prog_bodyEnds P) (Prog_openRepeats P (Prog_open P - 1).toNatClampNeg).toNatClampNeg (Prog_size P))) := by
  unfold Prog_closeList o_lt at h
  have h := close_inv_L h0 fu 0 h
  unfold Prog_closeList_j51 o_lt at h
  have h := oe_gd h
  split at h
  · rename_i c
    cases h
    exact ⟨rfl, rfl, rfl, rfl, rfl, rfl, Or.inl ⟨c, rfl⟩⟩
  · rename_i c
    have h := oe_gd (oe_gd h)
    cases h
    exact ⟨rfl, rfl, rfl, rfl, rfl, rfl, Or.inr ⟨c, rfl⟩⟩
theorem nx_inv {fu : Nat} {t : S_Tab} {d at_ top : Int32} {P P' : S_Prog} (hf : 12000 ≤ fu) (I : I_Tab t) (h : NX fu t d at_ top P = some P') (h0 : Prog_fault P' = 0) : ((¬ (100 ≤ d.toInt ∧ d.toInt ≤ 115) ∧ ¬ (216 ≤ d.toInt ∧ d.toInt ≤ 343)) ∧ SD P' P) ∨ ((100 ≤ d.toInt ∧ d.toInt ≤ 115) ∧ ∃ a0 a1 : Int32, a0.toInt = 8 * (d.toInt - 100) ∧ a1.toInt = 8 * (d.toInt - 100) + (Tab_sizes t (d.toInt - 100).toNat).toInt ∧ ¬ Tab_sizes t (d.toInt - 100).toNat = 0 ∧ OpL P P' (Prog_open P).toNatClampNeg a0 a1 (-1)) ∨ ((216 ≤ d.toInt ∧ d.toInt ≤ 343) ∧ ((¬ (d.toInt - 200) % 16 = 0 ∧ ¬ Prog_openEnds P top.toNatClampNeg < at_ + 1 + (d - 200) / 16 ∧ RpL P P' top.toNatClampNeg (at_ + 1) (at_ + 1 + (d - 200) / 16) (Prog_size P - 1)) ∨ ((d.toInt - 200) % 16 = 0 ∧ ¬ Prog_openEnds P top.toNatClampNeg < at_ + 2 + (d - 200) / 16 ∧ (0 ≤ (Tab_listed t (at_ + 1).toNatClampNeg).toInt ∧ (Tab_listed t (at_ + 1).toNatClampNeg).toInt < 64) ∧ ∃ P1 : S_Prog, TkU P P1 (Tab_listed t (at_ + 1).toNatClampNeg) ∧ RpL P1 P' top.toNatClampNeg (at_ + 2) (at_ + 2 + (d - 200) / 16) (Prog_size P - 1)))) := by
  have k0 : (0 : Int32).toInt = 0 := by decide
  have km : ((-1) : Int32).toInt = -1 := by decide
  unfold NX at h
  obtain ⟨q7, e7, h7, h⟩ := oe_bd (t_Desc_operatorOf hf) h
  obtain ⟨q8, e8, h8, h⟩ := oe_bd t_Desc_isElement h
  by_cases c8 : q8 = 0
  · rw [if_pos c8] at h
    rw [i_eq, k0] at c8
    obtain ⟨q9, e9, h9, h⟩ := oe_bd t_Desc_sequenceOf h
    by_cases c9 : q9 = (-1)
    · rw [if_pos c9] at h
      rw [i_eq, km] at c9
      obtain ⟨q10, e10, h10, h⟩ := oe_bd t_Desc_isRepeat h
      by_cases c10 : q10 = 0
      · rw [if_pos c10] at h
        rw [i_eq, k0] at c10
        refine Or.inl ⟨⟨by omega, by omega⟩, ?_⟩
        by_cases c7 : q7 = (-1)
        · rw [if_pos c7] at h
          cases h
          exact ⟨rfl, rfl, rfl, rfl, rfl, rfl, rfl⟩
        · rw [if_neg c7] at h
          obtain ⟨q11, _, h⟩ := oi_bd h
          rw [bd_some] at h
          exact op_inv h h0
      · rw [if_neg c10, bd_some] at h
        rw [i_eq, k0] at c10
        have hd : 216 ≤ d.toInt ∧ d.toInt ≤ 343 := by omega
        exact Or.inr (Or.inr ⟨hd, rep_inv h h0 hd.1 hd.2⟩)
    · rw [if_neg c9, bd_s e9, bd_some] at h
      rw [i_eq, km] at c9
      have hd : (100 ≤ d.toInt ∧ d.toInt ≤ 115) ∧ q9.toInt = d.toInt - 100 := by omega
      have nq : q9.toNatClampNeg = (d.toInt - 100).toNat := by
        have := i_nat (a := q9) (by omega)
        omega
      obtain ⟨a0, a1, x1, x2, x3, x4⟩ := seq_inv h h0 (by omega) (by omega) I
      rw [nq] at x2 x3
      exact Or.inr (Or.inl ⟨hd.1, a0, a1, by rw [x1, hd.2], by rw [x2, hd.2], x3, x4⟩)
  · rw [if_neg c8, bd_some] at h
    rw [i_eq, k0] at c8
    have e := el_inv h h0
    rw [e]
    exact Or.inl ⟨⟨by omega, by omega⟩, ⟨rfl, rfl, rfl, rfl, rfl, rfl, rfl⟩⟩

-- the class's compiling: REPEAT, closing, and the whole
theorem len_x {d : Int32} (h0 : 216 ≤ d.toInt) (h1 : d.toInt ≤ 343) : ((d - 200) / 16).toInt = (d.toInt - 200) / 16 ∧ ((d - 200) - (d - 200) / 16 * 16).toInt = (d.toInt - 200) % 16 := by
  have k200 : (200 : Int32).toInt = 200 := by decide
  have e1 : (d - 200).toInt = d.toInt - 200 := by
    rw [i_sub (a := d) (b := 200) (by omega) (by omega), k200]
  have e2 : ((d - 200) / 16).toInt = (d.toInt - 200) / 16 := by
    rw [i_divk (d - 200) 16 16 (by decide) (by decide) (by rw [e1]; clear e1; omega), e1]
  have e3 : ((d - 200) / 16 * 16).toInt = (d.toInt - 200) / 16 * 16 := by
    rw [i_mulr ((d - 200) / 16) 16 16 (by decide) (by rw [e2]; clear e1 e2; omega) (by rw [e2]; clear e1 e2; omega), e2]
  refine ⟨e2, ?_⟩
  rw [i_sub (a := d - 200) (b := (d - 200) / 16 * 16) (by rw [e1, e3]; clear e1 e2 e3; omega) (by rw [e1, e3]; clear e1 e2 e3; omega), e1, e3]
  clear e1 e2 e3
  omega
theorem rep_inv {fu : Nat} {t : S_Tab} {d at_ top : Int32} {P P' : S_Prog} (h : Prog_lookAtRepeat fu t d at_ top P = some P') (h0 : Prog_fault P' = 0) (h1 : 216 ≤ d.toInt) (h2 : d.toInt ≤ 343) : (¬ (d.toInt - 200) % 16 = 0 ∧ ¬ Prog_openEnds P top.toNatClampNeg < at_ + 1 + (d - 200) / 16 ∧ RpL P P' top.toNatClampNeg (at_ + 1) (at_ + 1 + (d - 200) / 16) (Prog_size P - 1)) ∨ ((d.toInt - 200) % 16 = 0 ∧ ¬ Prog_openEnds P top.toNatClampNeg < at_ + 2 + (d - 200) / 16 ∧ (0 ≤ (Tab_listed t (at_ + 1).toNatClampNeg).toInt ∧ (Tab_listed t (at_ + 1).toNatClampNeg).toInt < 64) ∧ ∃ P1 : S_Prog, TkU P P1 (Tab_listed t (at_ + 1).toNatClampNeg) ∧ RpL P1 P' top.toNatClampNeg (at_ + 2) (at_ + 2 + (d - 200) / 16) (Prog_size P - 1)) := by
  have n10 : ¬ (1 : Int32) = 0 := by decide
  have k0 : (0 : Int32).toInt = 0 := by decide
  have lx := len_x h1 h2
  have bad : ∀ (a : Int32) (Q : S_Prog), ¬ a = 0 → (o_bd (Prog_fail a Q) fun q => some q) = some P' → False := by
    intro a Q ha g
    obtain ⟨Q', e, hQ⟩ := fail_x a Q
    rw [bd_s e] at g
    cases g
    exact ha (hQ.symm.trans h0)
  have et : Desc_timesOf d = some ((d - 200) - (d - 200) / 16 * 16) := rfl
  have el : Desc_lengthOf d = some ((d - 200) / 16) := rfl
  unfold Prog_lookAtRepeat at h
  rw [bd_s et] at h
  by_cases ct : (d - 200) - (d - 200) / 16 * 16 = 0
  · rw [if_pos ct] at h
    have cm : (d.toInt - 200) % 16 = 0 := by rw [← lx.2, ct]; exact k0
    unfold Prog_lookAtRepeat_j12 at h
    rw [if_neg n10] at h
    unfold Prog_lookAtRepeat_j28 at h
    rw [bd_s el] at h
    have h := oe_gd h
    by_cases c1 : Prog_openEnds P top.toNatClampNeg < at_ + 2 + (d - 200) / 16
    · rw [if_pos c1] at h
      exact (bad 3 P (by decide) h).elim
    · rw [if_neg c1, if_neg n10] at h
      have h := oe_gd h
      obtain ⟨q8, e8, h8, h⟩ := oe_bd t_Desc_isElement h
      by_cases c2 : q8 = 0
      · rw [if_pos c2] at h
        exact (bad 3 P (by decide) h).elim
      · rw [if_neg c2] at h
        have c2' : q8.toInt ≠ 0 := fun e => c2 (i_eq.mpr (by rw [e, k0]))
        have hel : 0 ≤ (Tab_listed t (at_ + 1).toNatClampNeg).toInt ∧ (Tab_listed t (at_ + 1).toNatClampNeg).toInt < 64 := by
          rcases h8 with h8 | h8
          · exact h8.2
          · exact absurd h8.1 c2'
        unfold Prog_lookAtRepeat_j78 at h
        rw [if_neg n10] at h
        have h := oe_gd h
        obtain ⟨⟨k, P1⟩, e1, h⟩ := oi_bd h
        by_cases ck : k = 0
        · have hf : ¬ Prog_fault P1 = 0 := by
            rw [ck] at e1
            exact takeUp_inv0 e1
          have h : (if k = 0 then Prog_lookAtRepeat_j139 fu t top (at_ + 2) (at_ + 2 + (d - 200) / 16) (Prog_size P - 1) P1 else _) = some P' := h
          rw [if_pos ck, j139_f hf] at h
          cases h
          exact absurd h0 hf
        · have T := takeUp_inv e1 ck
          have h : (if k = 0 then _ else o_gd (o_in (at_ + 1) 152) (o_bd (Tab_inForce fu t (Tab_listed t (at_ + 1).toNatClampNeg)) fun q16 => if q16 = (-1) then o_bd (Prog_fail 1 P1) fun q17 => Prog_lookAtRepeat_j139 fu t top (at_ + 2) (at_ + 2 + (d - 200) / 16) (Prog_size P - 1) q17 else Prog_lookAtRepeat_j139 fu t top (at_ + 2) (at_ + 2 + (d - 200) / 16) (Prog_size P - 1) P1)) = some P' := h
          rw [if_neg ck] at h
          have h := oe_gd h
          obtain ⟨q16, e16, h⟩ := oi_bd h
          by_cases cq : q16 = (-1)
          · rw [if_pos cq] at h
            obtain ⟨Q, e, hQ⟩ := fail_x 1 P1
            have hf : ¬ Prog_fault Q = 0 := by rw [hQ]; decide
            rw [bd_s e, j139_f hf] at h
            cases h
            exact absurd h0 hf
          · rw [if_neg cq] at h
            exact Or.inr ⟨cm, c1, hel, P1, T, j139_inv h h0⟩
  · rw [if_neg ct] at h
    have cm : ¬ (d.toInt - 200) % 16 = 0 := fun e => ct (i_eq.mpr (by rw [lx.2, e, k0]))
    unfold Prog_lookAtRepeat_j12 at h
    rw [if_pos rfl] at h
    unfold Prog_lookAtRepeat_j28 at h
    rw [bd_s el] at h
    have h := oe_gd h
    by_cases c1 : Prog_openEnds P top.toNatClampNeg < at_ + 1 + (d - 200) / 16
    · rw [if_pos c1] at h
      exact (bad 3 P (by decide) h).elim
    · rw [if_neg c1, if_pos rfl] at h
      unfold Prog_lookAtRepeat_j78 at h
      rw [if_pos rfl] at h
      exact Or.inl ⟨cm, c1, j139_inv h h0⟩
def updN (f : Nat → Nat) (k v : Nat) : Nat → Nat := fun j => if j = k then v else f j
theorem updN_at (f : Nat → Nat) (k v : Nat) : updN f k v k = v := if_pos rfl
theorem updN_ne {f : Nat → Nat} {k v j : Nat} (h : j ≠ k) : updN f k v j = f j := if_neg h
def Hd (F : Nat → Int32) (Z : Nat → Nat) (P : S_Prog) (st sp qf hp a e : Nat → Nat) (f : Nat) : Prop := Prog_descriptors P (hp f) = F (qf f) ∧ sp f ≤ hp f ∧ hp f < sp (f + 1) ∧ (∃ m, Sg (It F Z (Prog_descriptors P) (Prog_bodyEnds P) (64 - f)) m (st f) (qf f) (sp f) (hp f)) ∧ (((100 ≤ (F (qf f)).toInt ∧ (F (qf f)).toInt ≤ 115) ∧ a f = qf f + 1 ∧ 0 < Z ((F (qf f)).toInt - 100).toNat ∧ st (f + 1) = 8 * ((F (qf f)).toInt - 100).toNat ∧ e (f + 1) = 8 * ((F (qf f)).toInt - 100).toNat + Z ((F (qf f)).toInt - 100).toNat ∧ sp (f + 1) = hp f + 1 ∧ (Prog_openRepeats P (f + 1)).toInt = -1) ∨ ((216 ≤ (F (qf f)).toInt ∧ (F (qf f)).toInt ≤ 343) ∧ ¬ ((F (qf f)).toInt - 200) % 16 = 0 ∧ a f = qf f + 1 + (((F (qf f)).toInt - 200) / 16).toNat ∧ st (f + 1) = qf f + 1 ∧ e (f + 1) = a f ∧ sp (f + 1) = hp f + 1 ∧ (Prog_openRepeats P (f + 1)).toInt = (hp f : Int)) ∨ ((216 ≤ (F (qf f)).toInt ∧ (F (qf f)).toInt ≤ 343) ∧ ((F (qf f)).toInt - 200) % 16 = 0 ∧ a f = qf f + 2 + (((F (qf f)).toInt - 200) / 16).toNat ∧ (0 ≤ (F (qf f + 1)).toInt ∧ (F (qf f + 1)).toInt ≤ 63) ∧ Prog_descriptors P (hp f + 1) = F (qf f + 1) ∧ st (f + 1) = qf f + 2 ∧ e (f + 1) = a f ∧ sp (f + 1) = hp f + 2 ∧ (Prog_openRepeats P (f + 1)).toInt = (hp f : Int)))
theorem Hd_keep {F : Nat → Int32} {Z : Nat → Nat} {P P' : S_Prog} {st sp qf hp a e st' sp' qf' hp' a' e' : Nat → Nat} {f z : Nat} (H : Hd F Z P st sp qf hp a e f) (hz : sp (f + 1) ≤ z) (hD : ∀ j, j < z → Prog_descriptors P' j = Prog_descriptors P j) (hB : ∀ j, j < hp f → Prog_bodyEnds P' j = Prog_bodyEnds P j) (hR : Prog_openRepeats P' (f + 1) = Prog_openRepeats P (f + 1)) (h1 : st' f = st f) (h2 : st' (f + 1) = st (f + 1)) (h3 : sp' f = sp f) (h4 : sp' (f + 1) = sp (f + 1)) (h5 : qf' f = qf f) (h6 : hp' f = hp f) (h7 : a' f = a f) (h8 : e' (f + 1) = e (f + 1)) : Hd F Z P' st' sp' qf' hp' a' e' f := by
  obtain ⟨g1, g2, g3, ⟨m, g4⟩, g5⟩ := H
  unfold Hd
  rw [h1, h2, h3, h4, h5, h6, h7, h8, hR]
  refine ⟨by rw [hD _ (by omega)]; exact g1, g2, g3, ⟨m, SgI_cong (fun j _ hj => hD j (by omega)) (fun j _ hj => hB j hj) g4⟩, ?_⟩
  rcases g5 with g | g | ⟨k1, k2, k3, k4, k5, k6, k7, k8, k9⟩
  · exact Or.inl g
  · exact Or.inr (Or.inl g)
  · exact Or.inr (Or.inr ⟨k1, k2, k3, k4, by rw [hD _ (by omega)]; exact k5, k6, k7, k8, k9⟩)
def CP (F : Nat → Int32) (Z : Nat → Nat) (P : S_Prog) (st sp qf hp a e : Nat → Nat) (o z : Nat) : Prop := (Prog_open P).toInt = (o : Int) + 1 ∧ (Prog_size P).toInt = (z : Int) ∧ (∀ f, f ≤ o → (Prog_openAts P f).toInt = (a f : Int) ∧ (Prog_openEnds P f).toInt = (e f : Int) ∧ a f ≤ e f ∧ sp f ≤ z ∧ ∃ l, l ≤ 16 ∧ 8 * l ≤ a f ∧ e f ≤ 8 * l + Z l) ∧ (∃ m, Sg (It F Z (Prog_descriptors P) (Prog_bodyEnds P) (64 - o)) m (st o) (a o) (sp o) z) ∧ (∀ f, f < o → Hd F Z P st sp qf hp a e f) ∧ st 0 = 128 ∧ e 0 = 128 + Z 16 ∧ sp 0 = 0 ∧ (Prog_openRepeats P 0).toInt = -1 ∧ o ≤ 63
-- closing the top list (with one below it)
theorem CP_close {F : Nat → Int32} {Z : Nat → Nat} {P P' : S_Prog} {st sp qf hp a e : Nat → Nat} {o z : Nat} (C : CP F Z P st sp qf hp a e (o + 1) z) (ha : a (o + 1) = e (o + 1)) (hD : Prog_descriptors P' = Prog_descriptors P) (hS : Prog_size P' = Prog_size P) (hO : (Prog_open P').toInt = (o : Int) + 1) (hA : Prog_openAts P' = Prog_openAts P) (hE : Prog_openEnds P' = Prog_openEnds P) (hR : Prog_openRepeats P' = Prog_openRepeats P) (hB : ((Prog_openRepeats P (o + 1)).toInt = -1 ∧ Prog_bodyEnds P' = Prog_bodyEnds P) ∨ (¬ (Prog_openRepeats P (o + 1)).toInt = -1 ∧ Prog_bodyEnds P' = upd (Prog_bodyEnds P) (Prog_openRepeats P (o + 1)).toNatClampNeg (Prog_size P))) : CP F Z P' st sp qf hp a e o z := by
  obtain ⟨c1, c2, c3, ⟨m, c4⟩, c5, c6, c7, c8, c9, c10⟩ := C
  obtain ⟨g1, g2, g3, ⟨m', g4⟩, g5⟩ := c5 o (by omega)
  have hp_z : hp o < z := by
    have := (c3 (o + 1) (Nat.le_refl _)).2.2.2.1
    omega
  -- what B is now
  have hBne : ∀ j, j ≠ hp o → Prog_bodyEnds P' j = Prog_bodyEnds P j := by
    intro j hj
    rcases hB with ⟨_, b⟩ | ⟨b0, b⟩
    · rw [b]
    · rw [b, upd_ne]
      intro ej
      have hn : (Prog_openRepeats P (o + 1)).toInt = (hp o : Int) := by
        rcases g5 with g | g | g
        · exact absurd g.2.2.2.2.2.2 b0
        · exact g.2.2.2.2.2.2
        · exact g.2.2.2.2.2.2.2.2
      have := i_nat (a := Prog_openRepeats P (o + 1)) (by omega)
      omega
  have child : Sg (It F Z (Prog_descriptors P') (Prog_bodyEnds P') (64 - (o + 1))) m (st (o + 1)) (e (o + 1)) (sp (o + 1)) z := by
    rw [hD, ← ha]
    exact SgI_cong (fun _ _ _ => rfl) (fun j hj _ => hBne j (by omega)) c4
  have prev : Sg (It F Z (Prog_descriptors P') (Prog_bodyEnds P') (64 - o)) m' (st o) (qf o) (sp o) (hp o) := by
    rw [hD]
    exact SgI_cong (fun _ _ _ => rfl) (fun j _ hj => hBne j (by omega)) g4
  have item : It F Z (Prog_descriptors P') (Prog_bodyEnds P') (64 - (o + 1) + 1) (qf o) (a o) (hp o) z := by
    refine ⟨by rw [hD]; exact g1, ?_⟩
    have hBz : ¬ (Prog_openRepeats P (o + 1)).toInt = -1 → (Prog_openRepeats P (o + 1)).toInt = (hp o : Int) → (Prog_bodyEnds P' (hp o)).toInt = (z : Int) := by
      intro b0 hn
      rcases hB with ⟨b, _⟩ | ⟨_, b⟩
      · exact absurd b b0
      · have := i_nat (a := Prog_openRepeats P (o + 1)) (by omega)
        have ej : (Prog_openRepeats P (o + 1)).toNatClampNeg = hp o := by omega
        rw [b, ej, upd_at]
        exact c2
    rcases g5 with ⟨k1, k2, k3, k4, k5, k6, k7⟩ | ⟨k1, k2, k3, k4, k5, k6, k7⟩ | ⟨k1, k2, k3, k4, k5, k6, k7, k8, k9⟩
    · rw [k4, k5, k6] at child
      exact Or.inr (Or.inl ⟨k1, k2, k3, m, child⟩)
    · rw [k4, k5, k6] at child
      exact Or.inr (Or.inr (Or.inl ⟨k1, k2, k3, hBz (by omega) k7, m, child⟩))
    · rw [k6, k7, k8] at child
      exact Or.inr (Or.inr (Or.inr ⟨k1, k2, k3, k4, by rw [hD]; exact k5, hBz (by omega) k9, m, child⟩))
  have e64 : 64 - (o + 1) + 1 = 64 - o := by omega
  rw [e64] at item
  refine ⟨hO, by rw [hS]; exact c2, fun f hf => by rw [hA, hE]; exact c3 f (by omega), ⟨m' + 1, Sg_snoc _ _ _ _ _ _ _ prev item⟩, fun f hf => ?_, c6, c7, c8, by rw [hR]; exact c9, by omega⟩
  have hsp : ∀ f, f ≤ o → sp f ≤ hp o := by
    intro f hf
    have : ∀ k, k ≤ o → sp (o - k) ≤ hp o := by
      intro k
      induction k with
      | zero => intro _; exact g2
      | succ k ih =>
        intro hk
        have h1 := ih (by omega)
        obtain ⟨_, x2, x3, _⟩ := c5 (o - (k + 1)) (by omega)
        have e1 : o - (k + 1) + 1 = o - k := by omega
        rw [e1] at x3
        omega
    have := this (o - f) (by omega)
    have e2 : o - (o - f) = f := by omega
    rw [e2] at this
    exact this
  obtain ⟨_, _, y3, _⟩ := c5 f (by omega)
  have := hsp (f + 1) (by omega)
  exact Hd_keep (z := z) (c5 f (by omega)) (by omega) (fun j _ => by rw [hD]) (fun j hj => hBne j (by omega)) (by rw [hR]) rfl rfl rfl rfl rfl rfl rfl rfl

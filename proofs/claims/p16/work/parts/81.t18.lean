abbrev B10 : Type := S_Mo × (Nat → Int64) × (Nat → Int32) × (Nat → Int32) × (Nat → Int32) × (Nat → Int32) × (Nat → Int32) × (Nat → Int32) × (Nat → Int64) × (Nat → Int32)
theorem f_bits_L {fu : Nat} {va : Nat → Int64} {tu ea bi : Nat → Int32} {x1 : Int32} : ∀ (n : Nat) (x2 : Int32) (s : S_Mo) (rd : Nat → Int64) (ki co wd sca lk rp : Nat → Int32) (ba : Nat → Int64) (pa : Nat → Int32) (r : B10), Mod_walkBits_L30 fu va tu ea bi x1 n x2 s rd ki co wd sca lk rp ba pa = some r → Mo_fault r.1 = 0 → Mo_fault s = 0
  | 0, x2, s, rd, ki, co, wd, sca, lk, rp, ba, pa, r, h, _ => by
    rw [Mod_walkBits_L30] at h
    cases h
  | n + 1, x2, s, rd, ki, co, wd, sca, lk, rp, ba, pa, r, h, hr => by
    rw [Mod_walkBits_L30] at h
    by_cases c1 : x1 ≤ x2
    · rw [if_pos c1] at h
      cases h
      exact hr
    · rw [if_neg c1] at h
      by_cases c2 : Mo_fault s = 0
      · exact c2
      · rw [if_neg c2] at h
        cases h
        exact hr
theorem EA.come {s t : S_Mo} {ea ea' : Nat → Int32} (h : EA s ea ea') (e1 : Mo_elements t = Mo_elements s) (e2 : (Mo_fields s).toInt ≤ (Mo_fields t).toInt) : EA t ea ea' := fun e he => by
  rw [e1] at he
  have := h e he
  exact ⟨this.1, by omega⟩
theorem PA.come {s t : S_Mo} {ea ea' : Nat → Int32} (h : PA s ea ea') (e1 : Mo_pointed t = Mo_pointed s) (e2 : (Mo_fields s).toInt ≤ (Mo_fields t).toInt) : PA t ea ea' := fun e he => by
  rw [e1] at he
  have := h e he
  exact ⟨this.1, by omega⟩
theorem d_bits_L {fu : Nat} {va : Nat → Int64} {tu ea bi tu' ea' bi' : Nat → Int32} {x1 : Int32} (h1 : x1.toInt ≤ 16) : ∀ (n : Nat) (x2 : Int32) (s s' : S_Mo) (rd rd' : Nat → Int64) (ki co wd sca lk rp : Nat → Int32) (ba : Nat → Int64) (pa : Nat → Int32) (ki' co' wd' sca' lk' rp' : Nat → Int32) (ba' : Nat → Int64) (pa' : Nat → Int32) (r r' : B10), Mod_walkBits_L30 fu va tu ea bi x1 n x2 s rd ki co wd sca lk rp ba pa = some r → Mod_walkBits_L30 fu va tu' ea' bi' x1 n x2 s' rd' ki' co' wd' sca' lk' rp' ba' pa' = some r' → Mo_fault r.1 = 0 → Mo_fault r'.1 = 0 → RX va s s' ki wd ba ki' wd' ba' → EA s ea ea' → PA s pa pa' → 0 ≤ x2.toInt → x1.toInt ≤ (Mo_elements s).toInt → (Mo_elements s).toInt ≤ 100 → (Mo_pointed s).toInt ≤ x2.toInt → RX va r.1 r'.1 r.2.2.1 r.2.2.2.2.1 r.2.2.2.2.2.2.2.2.1 r'.2.2.1 r'.2.2.2.2.1 r'.2.2.2.2.2.2.2.2.1 ∧ EA r.1 ea ea' ∧ PA r.1 r.2.2.2.2.2.2.2.2.2 r'.2.2.2.2.2.2.2.2.2 ∧ Mo_open r.1 = Mo_open s
  | 0, x2, s, s', rd, rd', ki, co, wd, sca, lk, rp, ba, pa, ki', co', wd', sca', lk', rp', ba', pa', r, r', h, _, _, _, _, _, _, _, _, _, _ => by
    rw [Mod_walkBits_L30] at h
    cases h
  | n + 1, x2, s, s', rd, rd', ki, co, wd, sca, lk, rp, ba, pa, ki', co', wd', sca', lk', rp', ba', pa', r, r', h, h', hr, hr', R, E, P, hx, he, he2, hp2 => by
    rw [Mod_walkBits_L30] at h h'
    have k1 : (1 : Int32).toInt = 1 := by decide
    by_cases c1 : x1 ≤ x2
    · rw [if_pos c1] at h h'
      cases h
      cases h'
      exact ⟨R, E, P, rfl⟩
    · rw [if_neg c1, if_pos R.1.1] at h
      rw [if_neg c1, if_pos R.1.2.1] at h'
      have h := oe_gd h
      have h' := oe_gd h'
      unfold o_lt at h h'
      have c1' := c1
      rw [i_le] at c1'
      have hel : Mo_elements s = Mo_elements s' := R.1.2.2.2.2.2.2.1
      have e1 := i_sub (a := Mo_elements s) (b := x1) (by omega) (by omega)
      have e2 := i_add (a := Mo_elements s - x1) (b := x2) (by omega) (by omega)
      have e3 := i_nat (a := Mo_elements s - x1 + x2) (by omega)
      have ex := i_add (a := x2) (b := 1) (by omega) (by omega)
      rw [← hel] at h'
      have hE := E (Mo_elements s - x1 + x2).toNatClampNeg (by omega)
      obtain ⟨q7, e7, h⟩ := oi_bd h
      obtain ⟨q7', e7', h'⟩ := oi_bd h'
      have hz : Mo_fault q7.2.1 = 0 := by
        split at h
        · have h := oe_gd h
          exact f_bits_L n _ (Mo_set_pointed q7.2.1 (Mo_pointed q7.2.1 + 1)) _ _ _ _ _ _ _ _ _ r h hr
        · exact f_bits_L n _ q7.2.1 _ _ _ _ _ _ _ _ _ r h hr
      have hz' : Mo_fault q7'.2.1 = 0 := by
        split at h'
        · have h' := oe_gd h'
          exact f_bits_L n _ (Mo_set_pointed q7'.2.1 (Mo_pointed q7'.2.1 + 1)) _ _ _ _ _ _ _ _ _ r' h' hr'
        · exact f_bits_L n _ q7'.2.1 _ _ _ _ _ _ _ _ _ r' h' hr'
      obtain ⟨d1, d2, d3, d4, d5, d6⟩ := d_come e7 e7' hz hz' R
      have ef : (Mo_fields q7.2.1).toInt = (Mo_fields s).toInt + 1 := by rw [d1]; exact d5
      have eel : Mo_elements q7.2.1 = Mo_elements s := by rw [d1]
      have epo : Mo_pointed q7.2.1 = Mo_pointed s := by rw [d1]
      have eop : Mo_open q7.2.1 = Mo_open s := by rw [d1]
      have E7 : EA q7.2.1 ea ea' := E.come eel (by omega)
      have P7 : PA q7.2.1 pa pa' := P.come epo (by omega)
      by_cases c2 : q7.1 = 1
      · rw [if_pos c2] at h
        rw [if_pos (by rw [← d3]; exact c2)] at h'
        have gi : o_in (Mo_pointed q7.2.1) 101 = true := by
          unfold o_gd at h
          split at h
          · assumption
          · cases h
        have hgi := i_in.mp gi
        have h := oe_gd h
        have h' := oe_gd h'
        unfold Mod_walkBits_j91 at h h'
        have ep := i_add (a := Mo_pointed q7.2.1) (b := 1) (by omega) (by omega)
        have hpn := i_nat hgi.1
        obtain ⟨⟨s1, s2, s3, s4, s5, s6, s7, s8, s9, s10, s11, s12, s13⟩, D, V⟩ := d4
        have R8 : RX va (Mo_set_pointed q7.2.1 (Mo_pointed q7.2.1 + 1)) (Mo_set_pointed q7'.2.1 (Mo_pointed q7'.2.1 + 1)) q7.2.2.2.1 q7.2.2.2.2.2.1 q7.2.2.2.2.2.2.2.2.2 q7'.2.2.2.1 q7'.2.2.2.2.2.1 q7'.2.2.2.2.2.2.2.2.2 := ⟨⟨s1, s2, s3, s4, s5, s6, s7, by show Mo_pointed q7.2.1 + 1 = Mo_pointed q7'.2.1 + 1; rw [s8], s9, s10, s11, s12, s13⟩, D, V⟩
        have rc := d_bits_L h1 n (x2 + 1) (Mo_set_pointed q7.2.1 (Mo_pointed q7.2.1 + 1)) (Mo_set_pointed q7'.2.1 (Mo_pointed q7'.2.1 + 1)) _ _ _ _ _ _ _ _ _ _ _ _ _ _ _ _ _ _ r r' h h' hr hr' R8 E7 (fun e hE2 => by
            have hE2 : (e : Int) < (Mo_pointed q7.2.1 + 1).toInt := hE2
            show upd pa (Mo_pointed q7.2.1).toNatClampNeg (ea (Mo_elements s - x1 + x2).toNatClampNeg) e = upd pa' (Mo_pointed q7'.2.1).toNatClampNeg (ea' (Mo_elements s - x1 + x2).toNatClampNeg) e ∧ (upd pa (Mo_pointed q7.2.1).toNatClampNeg (ea (Mo_elements s - x1 + x2).toNatClampNeg) e).toInt < (Mo_fields q7.2.1).toInt
            rw [← s8]
            by_cases ee : e = (Mo_pointed q7.2.1).toNatClampNeg
            · rw [ee, upd_at, upd_at]
              exact ⟨hE.1, by omega⟩
            · rw [upd_ne ee, upd_ne ee]
              exact P7 e (by omega)) (by omega) (by show x1.toInt ≤ (Mo_elements q7.2.1).toInt; rw [eel]; exact he) (by show (Mo_elements q7.2.1).toInt ≤ 100; rw [eel]; exact he2) (by show (Mo_pointed q7.2.1 + 1).toInt ≤ (x2 + 1).toInt; rw [ep, ex, epo]; omega)
        exact ⟨rc.1, rc.2.1, rc.2.2.1, rc.2.2.2.trans eop⟩
      · rw [if_neg c2] at h
        rw [if_neg (by rw [← d3]; exact c2)] at h'
        unfold Mod_walkBits_j91 at h h'
        have rc := d_bits_L h1 n (x2 + 1) q7.2.1 q7'.2.1 _ _ _ _ _ _ _ _ _ _ _ _ _ _ _ _ _ _ r r' h h' hr hr' d4 E7 P7 (by omega) (by rw [eel]; exact he) (by rw [eel]; exact he2) (by rw [epo]; omega)
        exact ⟨rc.1, rc.2.1, rc.2.2.1, rc.2.2.2.trans eop⟩
theorem d_walkBits {fu : Nat} {va : Nat → Int64} {tu ea bi tu' ea' bi' : Nat → Int32} {a0 : Int32} {s s' : S_Mo} {rd rd' : Nat → Int64} {ki co wd sca lk rp : Nat → Int32} {ba : Nat → Int64} {pa : Nat → Int32} {ki' co' wd' sca' lk' rp' : Nat → Int32} {ba' : Nat → Int64} {pa' : Nat → Int32} {r r' : B10} (h1 : a0.toInt ≤ 16) (I : I_Mo s) (h : Mod_walkBits fu va tu ea bi a0 s rd ki co wd sca lk rp ba pa = some r) (h' : Mod_walkBits fu va tu' ea' bi' a0 s' rd' ki' co' wd' sca' lk' rp' ba' pa' = some r') (hr : Mo_fault r.1 = 0) (hr' : Mo_fault r'.1 = 0) (R : RX va s s' ki wd ba ki' wd' ba') (E : EA s ea ea') : RX va r.1 r'.1 r.2.2.1 r.2.2.2.2.1 r.2.2.2.2.2.2.2.2.1 r'.2.2.1 r'.2.2.2.2.1 r'.2.2.2.2.2.2.2.2.1 ∧ EA r.1 ea ea' ∧ PA r.1 r.2.2.2.2.2.2.2.2.2 r'.2.2.2.2.2.2.2.2.2 ∧ Mo_open r.1 = Mo_open s := by
  unfold Mod_walkBits at h h'
  have hel : Mo_elements s = Mo_elements s' := R.1.2.2.2.2.2.2.1
  have k0 : (0 : Int32).toInt = 0 := by decide
  by_cases c1 : a0 ≤ Mo_elements s
  · rw [if_pos c1] at h
    rw [if_pos (by rw [← hel]; exact c1)] at h'
    unfold Mod_walkBits_j18 at h h'
    rw [i_le] at c1
    obtain ⟨⟨s1, s2, s3, s4, s5, s6, s7, s8, s9, s10, s11, s12, s13⟩, D, V⟩ := R
    have he := I_Mo_elements I
    exact d_bits_L h1 fu 0 (Mo_set_pointer (Mo_set_pointed s 0) 0) (Mo_set_pointer (Mo_set_pointed s' 0) 0) _ _ _ _ _ _ _ _ _ _ _ _ _ _ _ _ _ _ r r' h h' hr hr' ⟨⟨s1, s2, s3, s4, s5, s6, s7, rfl, rfl, s10, s11, s12, s13⟩, D, V⟩ E (fun e hE => absurd hE (by show ¬ (e : Int) < (0 : Int32).toInt; omega)) (by decide) c1 he.2 (Int.le_refl _)
  · rw [if_neg c1] at h
    obtain ⟨q, e, h⟩ := oi_bd h
    have hq := wrongAt_f (by decide) e
    unfold Mod_walkBits_j18 at h
    exact absurd (f_bits_L fu 0 (Mo_set_pointer (Mo_set_pointed q 0) 0) _ _ _ _ _ _ _ _ _ r h hr) hq
theorem d_walkMark {fu : Nat} {va : Nat → Int64} {tu pa bi tu' pa' bi' : Nat → Int32} {s s' : S_Mo} {rd rd' : Nat → Int64} {ki co wd sca lk rp : Nat → Int32} {ba : Nat → Int64} {ea ea' : Nat → Int32} {ki' co' wd' sca' lk' rp' : Nat → Int32} {ba' : Nat → Int64} {r r' : S_Mo × (Nat → Int64) × (Nat → Int32) × (Nat → Int32) × (Nat → Int32) × (Nat → Int32) × (Nat → Int32) × (Nat → Int32) × (Nat → Int64)} (I : I_Mo s) (hpp : (Mo_pointer s).toInt ≤ (Mo_pointed s).toInt) (Ap : A_MpointAt pa) (h : Mod_walkMark fu va tu pa bi s rd ki co wd sca lk rp ba = some r) (h' : Mod_walkMark fu va tu' pa' bi' s' rd' ki' co' wd' sca' lk' rp' ba' = some r') (hr : Mo_fault r.1 = 0) (hr' : Mo_fault r'.1 = 0) (R : RX va s s' ki wd ba ki' wd' ba') (E : EA s ea ea') (P : PA s pa pa') : RX va r.1 r'.1 r.2.2.1 r.2.2.2.2.1 r.2.2.2.2.2.2.2.2 r'.2.2.1 r'.2.2.2.2.1 r'.2.2.2.2.2.2.2.2 ∧ EA r.1 ea ea' ∧ PA r.1 pa pa' ∧ Mo_open r.1 = Mo_open s := by
  unfold Mod_walkMark at h h'
  obtain ⟨⟨s1, s2, s3, s4, s5, s6, s7, s8, s9, s10, s11, s12, s13⟩, D, V⟩ := R
  by_cases c1 : Mo_pointer s = Mo_pointed s
  · rw [if_pos c1] at h
    obtain ⟨q, e, h⟩ := oi_bd h
    have hq := wrongAt_f (by decide) e
    cases h
    exact absurd hr hq
  · rw [if_neg c1] at h
    rw [if_neg (by rw [← s9, ← s8]; exact c1)] at h'
    have hr1 := I_Mo_pointer I
    have hn := i_nat hr1.1
    have c1' : (Mo_pointer s).toInt ≠ (Mo_pointed s).toInt := fun e => c1 (i_eq.mpr e)
    have hP := P (Mo_pointer s).toNatClampNeg (by omega)
    have hA := A_MpointAt_at Ap (Mo_pointer s).toNatClampNeg
    have hn2 := i_nat (a := pa (Mo_pointer s).toNatClampNeg) (by omega)
    have hD := D (pa (Mo_pointer s).toNatClampNeg).toNatClampNeg (by omega)
    have h := oe_gd h
    have h' := oe_gd h'
    unfold o_lt at h h'
    have h := oe_gd (oe_gd (oe_gd (oe_gd h)))
    have h' := oe_gd (oe_gd (oe_gd (oe_gd h')))
    rw [← s9, ← hP.1, ← hD.2.1, ← hD.2.2] at h'
    obtain ⟨q7, e7, h⟩ := oi_bd h
    obtain ⟨q7', e7', h'⟩ := oi_bd h'
    cases h
    cases h'
    have R2 : RX va (Mo_set_pointer s (Mo_pointer s + 1)) (Mo_set_pointer s' (Mo_pointer s + 1)) ki wd ba ki' wd' ba' := ⟨⟨s1, s2, s3, s4, s5, s6, s7, s8, rfl, s10, s11, s12, s13⟩, D, V⟩
    obtain ⟨d1, d2, d3, d4, d5, d6⟩ := d_come e7 e7' hr hr' R2
    have d5' : (Mo_fields s + 1).toInt = (Mo_fields s).toInt + 1 := d5
    refine ⟨d4, ?_, ?_, ?_⟩
    · intro e he
      have he : (e : Int) < (Mo_elements q7.2.1).toInt := he
      rw [d1] at he
      have := E e he
      refine ⟨this.1, ?_⟩
      show (ea e).toInt < (Mo_fields q7.2.1).toInt
      rw [d1]
      show (ea e).toInt < (Mo_fields s + 1).toInt
      omega
    · intro e he
      have he : (e : Int) < (Mo_pointed q7.2.1).toInt := he
      rw [d1] at he
      have := P e he
      refine ⟨this.1, ?_⟩
      show (pa e).toInt < (Mo_fields q7.2.1).toInt
      rw [d1]
      show (pa e).toInt < (Mo_fields s + 1).toInt
      omega
    · show Mo_open q7.2.1 = Mo_open s
      rw [d1]

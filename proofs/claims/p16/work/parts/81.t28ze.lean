-- a bit's field: the event
theorem L30_out {fu m : Nat} {va : Nat → Int64} {tu ea bi : Nat → Int32} {x1 x2 : Int32} {s : S_Mo} {rd : Nat → Int64} {ki co wd sca lk rp : Nat → Int32} {ba : Nat → Int64} {pa : Nat → Int32} {w : QE} (hz : ¬ Mo_fault s = 0 ∨ x1 ≤ x2) (h : Mod_walkBits_L30 fu va tu ea bi x1 m x2 s rd ki co wd sca lk rp ba pa = some w) : w = (s, rd, ki, co, wd, sca, lk, rp, ba, pa) := by
  cases m with
  | zero =>
    rw [Mod_walkBits_L30] at h
    cases h
  | succ m =>
    rw [Mod_walkBits_L30] at h
    by_cases c1 : x1 ≤ x2
    · rw [if_pos c1] at h
      exact (Option.some.inj h).symm
    · have hz : ¬ Mo_fault s = 0 := by
        rcases hz with x | x
        · exact x
        · exact absurd x c1
      rw [if_neg c1, if_neg hz] at h
      exact (Option.some.inj h).symm
theorem WB_point {t : S_Tab} {P : S_Prog} {W : S_Walk} {Fl : S_Fld} {L : S_Lps} {s : S_Mo} {li ne en be lf tu op ki co wd sca lk rp : Nat → Int32} {ba : Nat → Int64} {ea pa : Nat → Int32} {o a k : Nat} {u : Int32} (R : WB t P W Fl L s li ne en be lf tu op ki co wd sca lk rp ba ea pa o a) (hk : (Mo_pointed s).toInt = (k : Int)) (h16 : k < 16) (hu : 0 ≤ u.toInt ∧ u.toInt < (Mo_fields s).toInt) : WB t P (Walk_set_pointedCount (Walk_put_pointed W k u) (Walk_pointedCount W + 1)) Fl L (Mo_set_pointed s (Mo_pointed s + 1)) li ne en be lf tu op ki co wd sca lk rp ba ea (upd pa k u) o a := by
  obtain ⟨r1, r2, r3, r4, r5, r6, r7, r8, r9, ⟨y1, y2, y3, y4, y5, y6, y7⟩, r11, r12, r13⟩ := R
  have k1 : (1 : Int32).toInt = 1 := by decide
  have e : (Mo_pointed s + 1).toInt = (k : Int) + 1 := by
    rw [i_add (a := Mo_pointed s) (b := 1) (by omega) (by omega), hk, k1]
  refine ⟨r1, r2, r3, r4, r5, r6, r7, r8, r9, ⟨?_, ?_, ?_, y4, y5, ?_, fun j hj => ?_⟩, r11, r12, r13⟩
  · show Walk_pointedCount W + 1 = Mo_pointed s + 1
    rw [y1]
  · show 0 ≤ (Mo_pointed s + 1).toInt
    rw [e]
    clear e
    omega
  · show (Mo_pointed s + 1).toInt ≤ 16
    rw [e]
    clear e
    omega
  · show (Mo_pointer s).toInt ≤ (Mo_pointed s + 1).toInt
    rw [e]
    clear e
    omega
  · have hj : (j : Int) < (Mo_pointed s + 1).toInt := hj
    rw [e] at hj
    clear e
    show upd (Walk_pointed W) k u j = upd pa k u j ∧ 0 ≤ (upd pa k u j).toInt ∧ (upd pa k u j).toInt < (Mo_fields s).toInt
    by_cases ej : j = k
    · rw [ej, upd_at, upd_at]
      exact ⟨rfl, hu⟩
    · rw [upd_ne ej, upd_ne ej]
      exact y7 j (by omega)
theorem bt_field {c : Cst} {n m : Nat} {W : S_Walk} {Fl : S_Fld} {L : S_Lps} {s : S_Mo} {rd : Nat → Int64} {li ne en be lf tu fo op ki co wd sca lk rp : Nat → Int32} {ba : Nat → Int64} {ea pa : Nat → Int32} {o a : Nat} {x1 x2 : Int32} {w : QE} (ok : Cok c) (R : WB c.t c.P W Fl L s li ne en be lf tu op ki co wd sca lk rp ba ea pa o a) (hce : Walk_countedEnd W = (-1)) (WIs : WI s) (K : WK s c.z) (Aw : A_Mwidth wd) (hb : Walk_dueBits W = x1 - x2) (h0 : 0 ≤ x2.toInt) (h1 : x2.toInt < x1.toInt) (h16 : x1.toInt ≤ 16) (hel : x1.toInt ≤ (Mo_elements s).toInt) (hpt : (Mo_pointed s).toInt ≤ x2.toInt) (hw : Mod_walkBits_L30 c.fu c.va tu ea c.bi x1 m x2 s rd ki co wd sca lk rp ba pa = some w) (hrun : RunL c n w.1 w.2.1 li ne en be lf tu fo op w.2.2.1 w.2.2.2.1 w.2.2.2.2.1 w.2.2.2.2.2.1 w.2.2.2.2.2.2.1 w.2.2.2.2.2.2.2.1 w.2.2.2.2.2.2.2.2.1 ea w.2.2.2.2.2.2.2.2.2) : ∃ (W' : S_Walk) (Fl' : S_Fld), Walk_giveBit L W Fl = some (W', Fl') ∧ ((Fl' = Fl ∧ ¬ Walk_fault W' = 0 ∧ ¬ Mo_fault c.r.1 = 0 ∧ FdE Fl c.r) ∨ (Fld_count Fl' = Fld_count Fl + 1 ∧ FE c n W' Fl' L s rd)) := by
  obtain ⟨hf, It_, IP, T, Iw, Is, Ils, Ile, Irf⟩ := ok
  have R' := R
  obtain ⟨r1, r2, r3, r4, r5, r6, r7, r8, ⟨g1, g2, g3, g4⟩, r10, r11, r12, r13⟩ := R
  have R11 := r11
  obtain ⟨f1, f2, f3, f4'⟩ := r11
  obtain ⟨i, hi⟩ : ∃ i : Nat, (Mo_fields s).toInt = (i : Int) := ⟨(Mo_fields s).toInt.toNat, by omega⟩
  have hcnt : (Fld_count Fl).toInt = (i : Int) := by rw [f1]; exact hi
  have k0 : (0 : Int32).toInt = 0 := by decide
  have k1 : (1 : Int32).toInt = 1 := by decide
  have a1r : 0 ≤ (1 : Int32).toInt ∧ (1 : Int32).toInt ≤ 32 := by decide
  obtain ⟨rep, er1, er2⟩ := rep_both (fu := c.fu) hf r3 r12 r13
  -- which element
  have eb : (x1 - x2).toInt = x1.toInt - x2.toInt := i_sub (a := x1) (b := x2) (by omega) (by omega)
  have ex : (Walk_elementCount W - Walk_dueBits W).toInt = (Mo_elements s).toInt - x1.toInt + x2.toInt := by
    rw [i_sub (a := Walk_elementCount W) (b := Walk_dueBits W) (by rw [hb, eb, g1]; clear eb; omega) (by rw [hb, eb, g1]; clear eb; omega), hb, eb, g1]
    clear eb
    omega
  have em1 : (Mo_elements s - x1).toInt = (Mo_elements s).toInt - x1.toInt := by
    clear eb ex
    exact i_sub (a := Mo_elements s) (b := x1) (by omega) (by omega)
  have em : (Mo_elements s - x1 + x2).toInt = (Mo_elements s).toInt - x1.toInt + x2.toInt := by
    clear eb ex
    rw [i_add (a := Mo_elements s - x1) (b := x2) (by rw [em1]; clear em1; omega) (by rw [em1]; clear em1; omega), em1]
  have exm : Walk_elementCount W - Walk_dueBits W = Mo_elements s - x1 + x2 := i_eq.mpr (by rw [ex, em])
  obtain ⟨j, hj⟩ : ∃ j : Nat, (Mo_elements s - x1 + x2).toNatClampNeg = j := ⟨_, rfl⟩
  have nj : (j : Int) = (Mo_elements s).toInt - x1.toInt + x2.toInt := by
    have := i_nat (a := Mo_elements s - x1 + x2) (by rw [em]; clear eb ex em em1; omega)
    rw [em, hj] at this
    exact this
  have gj : o_in (Walk_elementCount W - Walk_dueBits W) 100 = true := i_in.mpr (by rw [ex]; clear eb ex em em1; omega)
  have ed : (Walk_dueBits W - 1).toInt = x1.toInt - x2.toInt - 1 := by
    clear ex em em1
    rw [hb, i_sub (a := x1 - x2) (b := 1) (by rw [eb]; clear eb; omega) (by rw [eb]; clear eb; omega), eb, k1]
  have ex2 : (x2 + 1).toInt = x2.toInt + 1 := by
    clear eb ex em em1 ed
    rw [i_add (a := x2) (b := 1) (by omega) (by omega), k1]
  have ed2 : Walk_dueBits W - 1 = x1 - (x2 + 1) := i_eq.mpr (by
    rw [ed, i_sub (a := x1) (b := x2 + 1) (by rw [ex2]; clear eb ex em em1 ed ex2; omega) (by rw [ex2]; clear eb ex em em1 ed ex2; omega), ex2]
    clear eb ex em em1 ed ex2
    omega)
  clear em em1 eb
  obtain ⟨z1, z2, z3⟩ := g4 j (by clear ex ed ex2; omega)
  obtain ⟨dk, hdk⟩ : ∃ dk : Int32, dk = (if Walk_dueBits W - 1 ≤ 0 then -1 else 3) := ⟨_, rfl⟩
  obtain ⟨W4, hW4⟩ : ∃ W4, W4 = Walk_set_dueKind (Walk_set_dueBits W (Walk_dueBits W - 1)) dk := ⟨_, rfl⟩
  have gm : Walk_giveBit L W Fl = Walk_give L 3 (-1) 1 0 0 (ea j) W4 Fl := by
    unfold Walk_giveBit o_lt
    dsimp only
    rw [gd_t gj, exm, hj, z1, hW4, hdk]
    show (if Walk_dueBits W - 1 ≤ 0 then _ else _) = _
    by_cases cd : Walk_dueBits W - 1 ≤ 0
    · rw [if_pos cd, if_pos cd]
      exact bd_some _
    · rw [if_neg cd, if_neg cd]
      exact bd_some _
  rw [gm]
  have R0 : WB c.t c.P W4 Fl L s li ne en be lf tu op ki co wd sca lk rp ba ea pa o a := by
    rw [hW4]
    exact R'
  -- the reference
  obtain ⟨m, rfl⟩ : ∃ m1, m = m1 + 1 := by
    cases m with
    | zero =>
      rw [Mod_walkBits_L30] at hw
      cases hw
    | succ m => exact ⟨m, rfl⟩
  have nx : ¬ x1 ≤ x2 := by rw [i_le]; clear ex ed ex2; omega
  rw [Mod_walkBits_L30, if_neg nx, if_pos r2] at hw
  have hw := oe_gd hw
  unfold o_lt at hw
  dsimp only at hw
  rw [hj] at hw
  obtain ⟨⟨v, sq, rdq, kiq, coq, wdq, scaq, lkq, rpq, baq⟩, hq, hw⟩ := oi_bd hw
  unfold Mod_walkBits_j91 at hw
  dsimp only at hw
  -- what remains
  have rest : (v = 1 ∧ Mod_walkBits_L30 c.fu c.va tu ea c.bi x1 m (x2 + 1) (Mo_set_pointed sq (Mo_pointed sq + 1)) rdq kiq coq wdq scaq lkq rpq baq (upd pa (Mo_pointed sq).toNatClampNeg (ea j)) = some w) ∨ (¬ v = 1 ∧ Mod_walkBits_L30 c.fu c.va tu ea c.bi x1 m (x2 + 1) sq rdq kiq coq wdq scaq lkq rpq baq pa = some w) := by
    by_cases cv : v = 1
    · rw [if_pos cv] at hw
      exact Or.inl ⟨cv, oe_gd hw⟩
    · rw [if_neg cv] at hw
      exact Or.inr ⟨cv, hw⟩
  have fin : ¬ Mo_fault sq = 0 → w.1 = sq ∨ w.1 = Mo_set_pointed sq (Mo_pointed sq + 1) := by
    intro hz
    rcases rest with ⟨_, y⟩ | ⟨_, y⟩
    · have e := L30_out (Or.inl (show ¬ Mo_fault (Mo_set_pointed sq (Mo_pointed sq + 1)) = 0 from hz)) y
      rw [e]
      exact Or.inr rfl
    · have e := L30_out (Or.inl hz) y
      rw [e]
      exact Or.inl rfl
  have fin2 : ¬ Mo_fault sq = 0 → w.2 = (rdq, kiq, coq, wdq, scaq, lkq, rpq, baq, w.2.2.2.2.2.2.2.2.2) := by
    intro hz
    rcases rest with ⟨_, y⟩ | ⟨_, y⟩
    · have e := L30_out (Or.inl (show ¬ Mo_fault (Mo_set_pointed sq (Mo_pointed sq + 1)) = 0 from hz)) y
      rw [e]
    · have e := L30_out (Or.inl hz) y
      rw [e]
  have faulty : ¬ Mo_fault sq = 0 → ∀ Fl' : S_Fld, FdR Fl' sq kiq coq wdq scaq lkq rpq baq → ¬ Mo_fault c.r.1 = 0 ∧ FdE Fl' c.r := by
    intro hz Fl' hR
    obtain ⟨w1, w2⟩ := w
    have e2 : w2 = (rdq, kiq, coq, wdq, scaq, lkq, rpq, baq, w2.2.2.2.2.2.2.2.2) := fin2 hz
    rw [e2] at hrun
    have e1 : w1 = sq ∨ w1 = Mo_set_pointed sq (Mo_pointed sq + 1) := fin hz
    have hz1 : ¬ Mo_fault w1 = 0 := by
      rcases e1 with x | x
      · rw [x]; exact hz
      · rw [x]; exact hz
    have e := run_f hz1 hrun.2
    unfold FdE
    rw [e]
    refine ⟨hz1, ?_⟩
    rcases e1 with x | x
    · rw [x]; exact hR
    · rw [x]; exact hR
  have dle : Walk_dueBits W - 1 ≤ 0 ↔ x1 ≤ x2 + 1 := by
    rw [i_le, i_le, ed, ex2, k0]
    clear ex ed ex2
    omega
  have pend : ∀ (W5 : S_Walk) (s' : S_Mo) (pa' : Nat → Int32), Walk_dueKind W5 = dk → Walk_dueBits W5 = Walk_dueBits W - 1 → (Mo_elements s').toInt = (Mo_elements s).toInt → (Mo_pointed s').toInt ≤ x2.toInt + 1 → Mod_walkBits_L30 c.fu c.va tu ea c.bi x1 m (x2 + 1) s' rdq kiq coq wdq scaq lkq rpq baq pa' = some w → Pend c n W5 s' rdq li ne en be lf tu fo op kiq coq wdq scaq lkq rpq baq ea pa' := by
    intro W5 s' pa' e1 e2 e3 e4 y
    by_cases ce : x1 ≤ x2 + 1
    · have e := L30_out (Or.inr ce) y
      rw [e] at hrun
      refine Or.inl ⟨?_, hrun⟩
      rw [e1, hdk, if_pos (dle.mpr ce)]
    · refine Or.inr (Or.inr ⟨?_, x1, x2 + 1, m, w, by rw [e2, ed2], ?_, ?_, h16, by rw [e3]; exact hel, by rw [ex2]; exact e4, y, hrun⟩)
      · rw [e1, hdk, if_neg (fun h => ce (dle.mp h))]
      · rw [ex2]
        clear ex ed ex2
        omega
      · rw [i_le] at ce
        clear ex ed
        omega
  by_cases h100 : i < 100
  · have hge : o_in (Walk_elementCount W4) 100 = true := by
      refine i_in.mpr ?_
      rw [hW4]
      show 0 ≤ (Walk_elementCount W).toInt ∧ (Walk_elementCount W).toInt < _
      rw [g1]
      clear ex ed ex2
      omega
    have hg := give_eq (L := L) (a0 := 3) (a1 := -1) (a2 := 1) (a3 := 0) (a4 := 0) (a5 := ea j) (W := W4) hcnt h100 er2 hge
    obtain ⟨rep', v', s1, rd1, c1, c2, c3, c4, c5⟩ := come_inv r2 hi h100 hq
    have c3 : (rdq, kiq, coq, wdq, scaq, lkq, rpq, baq) = _ := c3
    rw [er1] at c1
    cases c1
    cases c3
    have cf := come_fields hf WIs Aw a1r r2 hi h100 hq
    have cf : Mo_fields sq = Mo_fields s + 1 := cf
    obtain ⟨q', eq', k1', k2, k3, k4, k5, k6, k7, k8, k9, k10⟩ := c_come (va := c.va) (tu := tu) (bi := c.bi) (a0 := 3) (a1 := -1) (a2 := 1) (a3 := 0) (a4 := 0) (a5 := ea j) (s := s) (rd := rd) (ki := ki) (co := co) (wd := wd) (sc := sca) (lk := lk) (rp := rp) (ba := ba) hf WIs Aw a1r.1 a1r.2
    rw [hq] at eq'
    cases eq'
    have k7 : (Mo_pointed sq).toInt = (Mo_pointed s).toInt := k7
    clear ex ed
    have ei : (Mo_fields s + 1).toInt = (i : Int) + 1 := by
      clear ex2
      rw [i_add (a := Mo_fields s) (b := 1) (by omega) (by omega), hi, k1]
    have FdN : ∀ s' : S_Mo, Mo_fields s' = Mo_fields s + 1 → FdR (gvF Fl i 3 (-1) 1 0 0 (ea j) rep) s' (upd ki i 3) (upd co i (-1)) (upd wd i 1) (upd sca i 0) (upd lk i (ea j)) (upd rp i rep) (vp_updL ba i 0) := fun s' hs => FdR_give R11 hi h100 hs ⟨fun _ => rfl, BB_0, by decide⟩
    have eg : gvW W4 3 (Fld_count Fl) = W4 := if_neg (by decide)
    rw [eg] at hg
    have w4f : Walk_fault W4 = 0 := by rw [hW4]; exact r1
    refine ⟨_, _, hg, Or.inr ⟨rfl, i, 3, -1, 1, 0, 0, ea j, rep, tu, ki, co, wd, sca, lk, rp, ba, _, Fl, hi, h100, r2, WIs, Aw, ⟨a1r, fun _ => rfl, BB_0, by decide⟩, hq, R11, er1, rfl, w4f, fun hq0 => faulty hq0 _ (FdN sq cf), fun hq0 hok => ?_⟩⟩
    have hq0 : Mo_fault sq = 0 := hq0
    have hk : Fld_kinds (gvF Fl i 3 (-1) 1 0 0 (ea j) rep) i = 3 := upd_at _ _ _
    have ht : Fld_targets (gvF Fl i 3 (-1) 1 0 0 (ea j) rep) i = ea j := upd_at _ _ _
    have hc1 : (Fld_count (gvF Fl i 3 (-1) 1 0 0 (ea j) rep)).toInt = (i : Int) + 1 := by
      show (Fld_count Fl + 1).toInt = _
      rw [f1]
      exact ei
    have R1 := WB_come (a0 := 3) (a1 := -1) (a2 := 1) (a3 := 0) (a4 := 0) (a5 := ea j) (q := rep) R0 hi h100 hq0 k4 k5 k6 k7 k8 cf ⟨fun _ => rfl, BB_0, by decide⟩
    have w4k : Walk_dueKind W4 = dk := by rw [hW4]
    have w4b : Walk_dueBits W4 = Walk_dueBits W - 1 := by rw [hW4]
    have w4c : Walk_countedEnd W4 = (-1) := by rw [hW4]; exact hce
    have hv : v = 0 ∨ v = 1 := hok.2 rfl
    rcases rest with ⟨v1, y⟩ | ⟨v1, y⟩
    · -- the bit is set
      subst v1
      obtain ⟨k, hkp⟩ : ∃ k : Nat, (Mo_pointed sq).toInt = (k : Int) := ⟨(Mo_pointed sq).toInt.toNat, by have := R1.2.2.2.2.2.2.2.2.2.1.2.1; clear ex2 ei; omega⟩
      have nk : (Mo_pointed sq).toNatClampNeg = k := by
        have := i_nat (a := Mo_pointed sq) (by clear ex2 ei; omega)
        clear ex2 ei
        omega
      have k16 : k < 16 := by clear ex2 ei; omega
      have pc : (Walk_pointedCount W4).toInt = (k : Int) := by rw [R1.2.2.2.2.2.2.2.2.2.1.1]; exact hkp
      have st := settle_bit1 (L := L) hc1 h100 hk pc k16
      rw [ht] at st
      rw [nk] at y
      have R2 := WB_point (u := ea j) R1 hkp k16 ⟨z2, by rw [cf, ei]; clear ex2 ei; omega⟩
      have ep : (Mo_pointed sq + 1).toInt = (k : Int) + 1 := by
        clear ex2 ei
        rw [i_add (a := Mo_pointed sq) (b := 1) (by omega) (by omega), hkp, k1]
      have WI5 : WI (Mo_set_pointed sq (Mo_pointed sq + 1)) := by
        obtain ⟨w1, w2, w3, w4, w5, w6, w7⟩ := k1'
        refine ⟨I_Mo_set_pointed w1 (by rw [ep]; clear ex2 ei ep; omega), w2, w3, w4, w5, w6, ?_⟩
        have w7 : (Mo_pointer sq).toInt ≤ (Mo_pointed sq).toInt := w7
        show (Mo_pointer sq).toInt ≤ (Mo_pointed sq + 1).toInt
        rw [ep]
        clear ex2 ei ep
        omega
      refine ⟨_, L, Mo_set_pointed sq (Mo_pointed sq + 1), st, ⟨rfl, rfl, rfl, rfl, rfl⟩, ?_⟩
      exact ⟨li, ne, en, be, lf, tu, fo, op, _, _, _, _, _, _, _, ea, _, o, a, R2, w4c, WI5, WK.trans k2 K, k3, pend _ _ _ w4k w4b k6 (by show (Mo_pointed sq + 1).toInt ≤ _; rw [ep]; clear ex2 ei ep; omega) y⟩
    · have v0 : v = 0 := by
        rcases hv with e | e
        · exact e
        · exact absurd e v1
      subst v0
      have st := settle_bit0 (W := W4) (L := L) hc1 h100 hk
      refine ⟨_, L, sq, st, KA.refl _, ?_⟩
      exact ⟨li, ne, en, be, lf, tu, fo, op, _, _, _, _, _, _, _, ea, pa, o, a, R1, w4c, k1', WK.trans k2 K, k3, pend _ _ _ w4k w4b k6 (by clear ex2 ei; omega) y⟩
  · have h100' : (Mo_fields s).toInt = 100 := by clear ex ed ex2; omega
    obtain ⟨W', x1', x2'⟩ := give_f (L := L) (a0 := 3) (a1 := -1) (a2 := 1) (a3 := 0) (a4 := 0) (a5 := ea j) (W := W4) (Fl := Fl) (by clear ex ed ex2; omega)
    obtain ⟨c1, c2, c3⟩ := come_f (Or.inr h100') hq
    have c1 : (rdq, kiq, coq, wdq, scaq, lkq, rpq, baq) = _ := c1
    cases c1
    have c3 : Mo_fields sq = Mo_fields s := c3
    have c2 : ¬ Mo_fault sq = 0 := c2
    refine ⟨W', Fl, x1', Or.inl ⟨rfl, x2', faulty c2 Fl ?_⟩⟩
    unfold FdR
    rw [c3]
    exact R11

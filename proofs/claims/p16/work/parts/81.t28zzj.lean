-- writing: the reference alone, with a fault
theorem lay_k {fu : Nat} {v : Int64} : ∀ (n : Nat) (x : Int32) (s : S_Mo) (bi : Nat → Int32) (R : S_Mo × (Nat → Int32)), Mod_lay_L5 fu v n x s bi = some R → ∃ z, R.1 = Mo_set_many s z
  | 0, x, s, bi, R, h => by
    rw [Mod_lay_L5] at h
    cases h
  | n + 1, x, s, bi, R, h => by
    rw [Mod_lay_L5] at h
    by_cases c : x < 0
    · rw [if_pos c] at h
      cases h
      exact ⟨Mo_many s, rfl⟩
    · rw [if_neg c] at h
      have st : ∀ tb : Int32, Mod_lay_j34 fu (fun v0 v1 v2 => Mod_lay_L5 fu v n v0 v1 v2) v x (Mo_many s) tb s bi = some R → ∃ z, R.1 = Mo_set_many s z := by
        intro tb g
        unfold Mod_lay_j34 o_lt at g
        have g := oe_gd g
        dsimp only at g
        obtain ⟨z, hz⟩ := lay_k n _ (Mo_set_many s (Mo_many s + 1)) _ R g
        exact ⟨z, by rw [hz]⟩
      by_cases cb : ((v >>> (x.toInt64 &&& 63)) &&& 1) = 1
      · rw [if_pos cb] at h
        exact st 1 h
      · rw [if_neg cb] at h
        exact st 0 h
theorem rw_in {fu kk N : Nat} {th sc rf wi ls le : Nat → Int32} {va : Nat → Int64} {x1 x2 x3 : Int32} {rd : Nat → Int64} {li ne en be lf tu fo op ki co wd sca lk rp : Nat → Int32} {ba : Nat → Int64} {ea pa : Nat → Int32} {ma fk fw fs : Nat → Int32} {fb : Nat → Int64} {k73 : S_Mo → (Nat → Int32) → Option A26} {R : A26} (hf : 12000 ≤ fu) (Aw : A_Mwidth wd) (hkk : kk < 8) (hN1 : N ≤ 100) : ∀ (n' i : Nat) (y : Int32) (s : S_Mo) (bi : Nat → Int32), y.toInt = (i : Int) → i ≤ N → 0 ≤ (Mo_many s).toInt → (Mo_many s).toInt ≤ 3200 * (kk : Int) + 32 * (i : Int) → (Mo_fields s).toInt = (N : Int) → Mo_fault s = 0 → Mod_write_L73 fu th sc rf wi ls le va x1 x2 x3 rd li ne en be lf tu fo op ki co wd sca lk rp ba ea pa ma fk fw fs fb k73 n' y s bi = some R → ∃ (s' : S_Mo) (bi' : Nat → Int32), k73 s' bi' = some R ∧ (∃ z, s' = Mo_set_many s z) ∧ 0 ≤ (Mo_many s').toInt ∧ (Mo_many s').toInt ≤ 3200 * ((kk + 1 : Nat) : Int)
  | 0, i, y, s, bi, hy, hi, hm0, hm, hN, hz, h2 => by
    rw [Mod_write_L73] at h2
    cases h2
  | n' + 1, i, y, s, bi, hy, hi, hm0, hm, hN, hz, h2 => by
    have k1 : (1 : Int32).toInt = 1 := by decide
    rw [Mod_write_L73] at h2
    by_cases c : i = N
    · have c2 : Mo_fields s ≤ y := by rw [i_le]; omega
      rw [if_pos c2] at h2
      exact ⟨s, bi, h2, ⟨Mo_many s, rfl⟩, hm0, by omega⟩
    · have c2 : ¬ Mo_fields s ≤ y := by rw [i_le]; omega
      have ny : y.toNatClampNeg = i := by
        have := i_nat (a := y) (by omega)
        omega
      rw [if_neg c2, if_pos hz] at h2
      by_cases cx : x2 = 0
      · rw [if_pos cx, ny] at h2
        have h2 := oe_gd h2
        obtain ⟨q13, e13, h2⟩ := oi_bd h2
        have h2 := oe_gd h2
        obtain ⟨q15, e15, h2⟩ := oi_bd h2
        have aw := A_Mwidth_at Aw i
        obtain ⟨k, hk⟩ : ∃ k : Nat, (wd i).toInt = (k : Int) := ⟨(wd i).toInt.toNat, by omega⟩
        obtain ⟨m, hm1⟩ : ∃ m : Nat, (Mo_many s).toInt = (m : Int) := ⟨(Mo_many s).toInt.toNat, by omega⟩
        have xm : (wd i - 1).toInt = (k : Int) - 1 := by
          rw [i_sub (a := wd i) (b := 1) (by omega) (by omega), hk, k1]
        obtain ⟨⟨z, l2⟩, l3, _, _⟩ := lay_L fu k m (wd i - 1) s bi q15 xm (by clear xm; omega) hm1 (by clear xm; omega) e15
        clear xm
        have y1 : (y + 1).toInt = ((i + 1 : Nat) : Int) := by
          rw [i_add (a := y) (b := 1) (by omega) (by omega), hy, k1]
          rfl
        obtain ⟨s', bi', o2, ⟨z', o4⟩, o5, o6⟩ := rw_in hf Aw hkk hN1 n' (i + 1) (y + 1) q15.1 q15.2 y1 (by clear y1; omega) (by rw [l3]; clear y1; omega) (by rw [l3]; clear y1; omega) (by rw [l2]; exact hN) (by rw [l2]; exact hz) h2
        exact ⟨s', bi', o2, ⟨z', by rw [o4, l2]⟩, o5, o6⟩
      · rw [if_neg cx] at h2
        exact ⟨s, bi, h2, ⟨Mo_many s, rfl⟩, hm0, by omega⟩
theorem wr_stop {fu n' : Nat} {th sc rf wi ls le : Nat → Int32} {va : Nat → Int64} {x1 x2 y : Int32} {ke : KeW} {R : A26} {s : S_Mo} {rd : Nat → Int64} {li ne en be lf tu fo op ki co wd sca lk rp : Nat → Int32} {ba : Nat → Int64} {ea pa : Nat → Int32} {bi : Nat → Int32} {ma fk fw fs : Nat → Int32} {fb : Nat → Int64} (h : x1 ≤ y ∨ ¬ Mo_fault s = 0) (g : Mod_write_L44 fu th sc rf wi ls le va x1 x2 ma ke n' y s rd li ne en be lf tu fo op ki co wd sca lk rp ba ea pa bi fk fw fs fb = some R) : ke s rd li ne en be lf tu fo op ki co wd sca lk rp ba ea pa bi fk fw fs fb = some R := by
  cases n' with
  | zero =>
    rw [Mod_write_L44] at g
    cases g
  | succ n' =>
    rw [Mod_write_L44] at g
    by_cases c : x1 ≤ y
    · rw [if_pos c] at g
      exact g
    · rw [if_neg c] at g
      rcases h with h | h
      · exact absurd h c
      · rw [if_neg h] at g
        exact g
set_option maxHeartbeats 8000000 in
theorem wr_bad {fu : Nat} {t : S_Tab} {u : Int32} {th sc rf wi ls le : Nat → Int32} {va : Nat → Int64} (hf : 12000 ≤ fu) (It_ : I_Tab t) (T : TbR t u th sc rf wi ls le) (Iw : A_Mwidths wi) (Is : A_Mscales sc) (Ils : A_Mlists ls) (Ile : A_Mlengths le) (Irf : Rfb rf) (hc : CompOK fu th sc wi ls le u) {j N8 : Nat} {x1 x2 : Int32} {ma : Nat → Int32} {ke : KeW} {R : A26} {z : S_Mo} (hn : x1.toInt = (N8 : Int)) (h8 : N8 ≤ 8) (hj : j < N8) (hB : Bd fu u th sc rf wi ls le va j) (hG : ∀ i, i < j → Gd fu u th sc rf wi ls le va i) : ∀ (n' kk : Nat) (y : Int32) (s : S_Mo) (rd : Nat → Int64) (li ne en be lf tu fo op ki co wd sca lk rp : Nat → Int32) (ba : Nat → Int64) (ea pa : Nat → Int32) (bi fk fw fs : Nat → Int32) (fb : Nat → Int64), y.toInt = (kk : Int) → kk ≤ j → WS u z s fo op wd ea pa → 0 ≤ (Mo_many s).toInt → (Mo_many s).toInt ≤ 3200 * (kk : Int) → Mod_write_L44 fu th sc rf wi ls le va x1 x2 ma ke n' y s rd li ne en be lf tu fo op ki co wd sca lk rp ba ea pa bi fk fw fs fb = some R → ∃ w : A24, ke w.1.1 w.1.2.1 w.1.2.2.1 w.1.2.2.2.1 w.1.2.2.2.2.1 w.1.2.2.2.2.2.1 w.1.2.2.2.2.2.2.1 w.1.2.2.2.2.2.2.2.1 w.1.2.2.2.2.2.2.2.2.1 w.1.2.2.2.2.2.2.2.2.2.1 w.1.2.2.2.2.2.2.2.2.2.2.1 w.1.2.2.2.2.2.2.2.2.2.2.2.1 w.1.2.2.2.2.2.2.2.2.2.2.2.2.1 w.1.2.2.2.2.2.2.2.2.2.2.2.2.2.1 w.1.2.2.2.2.2.2.2.2.2.2.2.2.2.2.1 w.1.2.2.2.2.2.2.2.2.2.2.2.2.2.2.2.1 w.1.2.2.2.2.2.2.2.2.2.2.2.2.2.2.2.2.1 w.1.2.2.2.2.2.2.2.2.2.2.2.2.2.2.2.2.2.1 w.1.2.2.2.2.2.2.2.2.2.2.2.2.2.2.2.2.2.2 w.2.1 w.2.2.1 w.2.2.2.1 w.2.2.2.2.1 w.2.2.2.2.2 = some R ∧ ¬ Mo_fault w.1.1 ≤ 0 ∧ KMd w.1.1 z
  | 0, kk, y, s, rd, li, ne, en, be, lf, tu, fo, op, ki, co, wd, sca, lk, rp, ba, ea, pa, bi, fk, fw, fs, fb, hy, hk, S, hm0, hm, h2 => by
    rw [Mod_write_L44] at h2
    cases h2
  | n' + 1, kk, y, s, rd, li, ne, en, be, lf, tu, fo, op, ki, co, wd, sca, lk, rp, ba, ea, pa, bi, fk, fw, fs, fb, hy, hk, S, hm0, hm, h2 => by
    have k1 : (1 : Int32).toInt = 1 := by decide
    have k0 : (0 : Int32).toInt = 0 := by decide
    have c1 : ¬ x1 ≤ y := by rw [i_le]; omega
    rw [Mod_write_L44, if_neg c1, if_pos S.2.2.1] at h2
    obtain ⟨r, er, h2⟩ := oi_bd h2
    obtain ⟨r1, r2, r3, r4, r5, r6, r7, rK, _, _⟩ := walk_ok hf It_ T Iw Is Ils Ile Irf hc S hy (by omega) (by decide) er
    obtain ⟨N, hN⟩ : ∃ N : Nat, (Mo_fields r.1).toInt = (N : Int) := ⟨(Mo_fields r.1).toInt.toNat, by omega⟩
    have y1 : (y + 1).toInt = ((kk + 1 : Nat) : Int) := by
      rw [i_add (a := y) (b := 1) (by omega) (by omega), hy, k1]
      rfl
    have go : ∀ (sF : S_Mo) (fk' fw' fs' : Nat → Int32) (fb' : Nat → Int64), (∃ z, sF = Mo_set_firstFields r.1 z ∧ 0 ≤ z.toInt ∧ z.toInt ≤ 100) → Mod_write_j70 fu th sc rf wi ls le va (fun v0 v1 v2 v3 v4 v5 v6 v7 v8 v9 v10 v11 v12 v13 v14 v15 v16 v17 v18 v19 v20 v21 v22 v23 v24 => Mod_write_L44 fu th sc rf wi ls le va x1 x2 ma ke n' v0 v1 v2 v3 v4 v5 v6 v7 v8 v9 v10 v11 v12 v13 v14 v15 v16 v17 v18 v19 v20 v21 v22 v23 v24) ke x1 x2 ma y sF r.2.1 r.2.2.1 r.2.2.2.1 r.2.2.2.2.1 r.2.2.2.2.2.1 r.2.2.2.2.2.2.1 r.2.2.2.2.2.2.2.1 r.2.2.2.2.2.2.2.2.1 r.2.2.2.2.2.2.2.2.2.1 r.2.2.2.2.2.2.2.2.2.2.1 r.2.2.2.2.2.2.2.2.2.2.2.1 r.2.2.2.2.2.2.2.2.2.2.2.2.1 r.2.2.2.2.2.2.2.2.2.2.2.2.2.1 r.2.2.2.2.2.2.2.2.2.2.2.2.2.2.1 r.2.2.2.2.2.2.2.2.2.2.2.2.2.2.2.1 r.2.2.2.2.2.2.2.2.2.2.2.2.2.2.2.2.1 r.2.2.2.2.2.2.2.2.2.2.2.2.2.2.2.2.2.1 r.2.2.2.2.2.2.2.2.2.2.2.2.2.2.2.2.2.2 bi fk' fw' fs' fb' = some R → ∃ w : A24, ke w.1.1 w.1.2.1 w.1.2.2.1 w.1.2.2.2.1 w.1.2.2.2.2.1 w.1.2.2.2.2.2.1 w.1.2.2.2.2.2.2.1 w.1.2.2.2.2.2.2.2.1 w.1.2.2.2.2.2.2.2.2.1 w.1.2.2.2.2.2.2.2.2.2.1 w.1.2.2.2.2.2.2.2.2.2.2.1 w.1.2.2.2.2.2.2.2.2.2.2.2.1 w.1.2.2.2.2.2.2.2.2.2.2.2.2.1 w.1.2.2.2.2.2.2.2.2.2.2.2.2.2.1 w.1.2.2.2.2.2.2.2.2.2.2.2.2.2.2.1 w.1.2.2.2.2.2.2.2.2.2.2.2.2.2.2.2.1 w.1.2.2.2.2.2.2.2.2.2.2.2.2.2.2.2.2.1 w.1.2.2.2.2.2.2.2.2.2.2.2.2.2.2.2.2.2.1 w.1.2.2.2.2.2.2.2.2.2.2.2.2.2.2.2.2.2.2 w.2.1 w.2.2.1 w.2.2.2.1 w.2.2.2.2.1 w.2.2.2.2.2 = some R ∧ ¬ Mo_fault w.1.1 ≤ 0 ∧ KMd w.1.1 z := by
      intro sF fk' fw' fs' fb' hsF g
      obtain ⟨zF, hzF, zF0, zF1⟩ := hsF
      unfold Mod_write_j70 at g
      by_cases ck : kk = j
      · have fr : ¬ Mo_fault r.1 = 0 := by
          rw [← ck] at hB
          exact hB y bi s rd li ne en be lf tu fo op ki co wd sca lk rp ba ea pa r S.1 S.2.1 S.2.2.1 hy er
        have fF : ¬ Mo_fault sF = 0 := by rw [hzF]; exact fr
        have fp : ¬ Mo_fault sF ≤ 0 := by
          rw [hzF]
          show ¬ Mo_fault r.1 ≤ 0
          rw [i_le, k0]
          intro e
          exact fr (i_eq.mpr (by rw [k0]; clear y1; omega))
        have hf1 : ∃ m, fu = m + 1 := ⟨fu - 1, by clear y1; omega⟩
        obtain ⟨m, hm'⟩ := hf1
        have st : ∀ q, q = m + 1 → Mod_write_L73 fu th sc rf wi ls le va x1 x2 y r.2.1 r.2.2.1 r.2.2.2.1 r.2.2.2.2.1 r.2.2.2.2.2.1 r.2.2.2.2.2.2.1 r.2.2.2.2.2.2.2.1 r.2.2.2.2.2.2.2.2.1 r.2.2.2.2.2.2.2.2.2.1 r.2.2.2.2.2.2.2.2.2.2.1 r.2.2.2.2.2.2.2.2.2.2.2.1 r.2.2.2.2.2.2.2.2.2.2.2.2.1 r.2.2.2.2.2.2.2.2.2.2.2.2.2.1 r.2.2.2.2.2.2.2.2.2.2.2.2.2.2.1 r.2.2.2.2.2.2.2.2.2.2.2.2.2.2.2.1 r.2.2.2.2.2.2.2.2.2.2.2.2.2.2.2.2.1 r.2.2.2.2.2.2.2.2.2.2.2.2.2.2.2.2.2.1 r.2.2.2.2.2.2.2.2.2.2.2.2.2.2.2.2.2.2 ma fk' fw' fs' fb' (fun zMo zMbits => Mod_write_j128 fu th sc rf wi ls le va (fun v0 v1 v2 v3 v4 v5 v6 v7 v8 v9 v10 v11 v12 v13 v14 v15 v16 v17 v18 v19 v20 v21 v22 v23 v24 => Mod_write_L44 fu th sc rf wi ls le va x1 x2 ma ke n' v0 v1 v2 v3 v4 v5 v6 v7 v8 v9 v10 v11 v12 v13 v14 v15 v16 v17 v18 v19 v20 v21 v22 v23 v24) ke x1 x2 ma y zMo r.2.1 r.2.2.1 r.2.2.2.1 r.2.2.2.2.1 r.2.2.2.2.2.1 r.2.2.2.2.2.2.1 r.2.2.2.2.2.2.2.1 r.2.2.2.2.2.2.2.2.1 r.2.2.2.2.2.2.2.2.2.1 r.2.2.2.2.2.2.2.2.2.2.1 r.2.2.2.2.2.2.2.2.2.2.2.1 r.2.2.2.2.2.2.2.2.2.2.2.2.1 r.2.2.2.2.2.2.2.2.2.2.2.2.2.1 r.2.2.2.2.2.2.2.2.2.2.2.2.2.2.1 r.2.2.2.2.2.2.2.2.2.2.2.2.2.2.2.1 r.2.2.2.2.2.2.2.2.2.2.2.2.2.2.2.2.1 r.2.2.2.2.2.2.2.2.2.2.2.2.2.2.2.2.2.1 r.2.2.2.2.2.2.2.2.2.2.2.2.2.2.2.2.2.2 zMbits fk' fw' fs' fb') q 0 sF bi = some R → Mod_write_L44 fu th sc rf wi ls le va x1 x2 ma ke n' (y + 1) sF r.2.1 r.2.2.1 r.2.2.2.1 r.2.2.2.2.1 r.2.2.2.2.2.1 r.2.2.2.2.2.2.1 r.2.2.2.2.2.2.2.1 r.2.2.2.2.2.2.2.2.1 r.2.2.2.2.2.2.2.2.2.1 r.2.2.2.2.2.2.2.2.2.2.1 r.2.2.2.2.2.2.2.2.2.2.2.1 r.2.2.2.2.2.2.2.2.2.2.2.2.1 r.2.2.2.2.2.2.2.2.2.2.2.2.2.1 r.2.2.2.2.2.2.2.2.2.2.2.2.2.2.1 r.2.2.2.2.2.2.2.2.2.2.2.2.2.2.2.1 r.2.2.2.2.2.2.2.2.2.2.2.2.2.2.2.2.1 r.2.2.2.2.2.2.2.2.2.2.2.2.2.2.2.2.2.1 r.2.2.2.2.2.2.2.2.2.2.2.2.2.2.2.2.2.2 bi fk' fw' fs' fb' = some R := by
          intro q hq g0
          rw [hq, Mod_write_L73] at g0
          by_cases c : Mo_fields sF ≤ 0
          · rw [if_pos c] at g0
            exact g0
          · rw [if_neg c, if_neg fF] at g0
            exact g0
        have g2 := wr_stop (Or.inr fF) (st fu hm' g)
        exact ⟨((sF, r.2.1, r.2.2.1, r.2.2.2.1, r.2.2.2.2.1, r.2.2.2.2.2.1, r.2.2.2.2.2.2.1, r.2.2.2.2.2.2.2.1, r.2.2.2.2.2.2.2.2.1, r.2.2.2.2.2.2.2.2.2.1, r.2.2.2.2.2.2.2.2.2.2.1, r.2.2.2.2.2.2.2.2.2.2.2.1, r.2.2.2.2.2.2.2.2.2.2.2.2.1, r.2.2.2.2.2.2.2.2.2.2.2.2.2.1, r.2.2.2.2.2.2.2.2.2.2.2.2.2.2.1, r.2.2.2.2.2.2.2.2.2.2.2.2.2.2.2.1, r.2.2.2.2.2.2.2.2.2.2.2.2.2.2.2.2.1, r.2.2.2.2.2.2.2.2.2.2.2.2.2.2.2.2.2.1, r.2.2.2.2.2.2.2.2.2.2.2.2.2.2.2.2.2.2), bi, fk', fw', fs', fb'), g2, fp, by rw [hzF]; exact rK⟩
      · have g1 := (hG kk (by clear y1; omega) y bi s rd li ne en be lf tu fo op ki co wd sca lk rp ba ea pa r S.1 S.2.1 S.2.2.1 hy er).1
        obtain ⟨s', bi', p2, ⟨zz, p4⟩, p5, p6⟩ := rw_in (N := N) (kk := kk) hf r5 (by clear y1; omega) (by clear y1; omega) fu 0 0 sF bi (by decide) (by omega) (by rw [hzF]; show 0 ≤ (Mo_many r.1).toInt; rw [r3]; exact hm0) (by rw [hzF]; show (Mo_many r.1).toInt ≤ _; rw [r3]; clear y1; omega) (by rw [hzF]; exact hN) (by rw [hzF]; exact g1) g
        obtain ⟨I, i1, i2, i3, i4, i5⟩ := r1
        have S' : WS u z s' r.2.2.2.2.2.2.2.2.1 r.2.2.2.2.2.2.2.2.2.1 r.2.2.2.2.2.2.2.2.2.2.2.2.1 r.2.2.2.2.2.2.2.2.2.2.2.2.2.2.2.2.2.1 r.2.2.2.2.2.2.2.2.2.2.2.2.2.2.2.2.2.2 := by
          have mr : 0 ≤ zz.toInt ∧ zz.toInt ≤ 65535 := by
            have hz2 : Mo_many s' = zz := by rw [p4]
            rw [hz2] at p5 p6
            clear y1
            omega
          rw [p4, hzF]
          exact ⟨⟨I_Mo_set_many (I_Mo_set_firstFields I ⟨zF0, zF1⟩) mr, i1, i2, i3, i4, i5⟩, r2, g1, rK⟩
        unfold Mod_write_j128 at p2
        exact wr_bad hf It_ T Iw Is Ils Ile Irf hc hn h8 hj hB hG n' (kk + 1) (y + 1) s' _ _ _ _ _ _ _ _ _ _ _ _ _ _ _ _ _ _ bi' fk' fw' fs' fb' y1 (by clear y1; omega) S' p5 p6 p2
    by_cases cy : y = 0
    · rw [if_pos cy] at h2
      obtain ⟨q8, e8, h2⟩ := oi_bd h2
      obtain ⟨q8', e8', k8, _⟩ := t_keepFirst (fu := fu) (ki := r.2.2.2.2.2.2.2.2.2.2.1) (wd := r.2.2.2.2.2.2.2.2.2.2.2.2.1) (sc := r.2.2.2.2.2.2.2.2.2.2.2.2.2.1) (ba := r.2.2.2.2.2.2.2.2.2.2.2.2.2.2.2.2.1) (fk := fk) (fw := fw) (fs := fs) (fb := fb) hf r1.1
      rw [e8] at e8'
      cases e8'
      exact go q8.1 _ _ _ _ ⟨Mo_fields r.1, k8, r6, r7⟩ h2
    · rw [if_neg cy] at h2
      have ff := I_Mo_firstFields r1.1
      exact go r.1 _ _ _ _ ⟨Mo_firstFields r.1, rfl, ff.1, ff.2⟩ h2

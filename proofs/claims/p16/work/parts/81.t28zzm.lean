-- writing PACKED: the reference's first loop, and the comparing
def F0R (fu : Nat) (u : Int32) (th sc rf wi ls le : Nat → Int32) (va : Nat → Int64) (Fl0 : S_Fld) : Prop := ∀ (a0 : Int32) (bi : Nat → Int32) (s : S_Mo) (rd : Nat → Int64) (li ne en be lf tu fo op ki co wd sca lk rp : Nat → Int32) (ba : Nat → Int64) (ea pa : Nat → Int32) (r : A19), MA s fo op wd ea pa → Mo_used s = u → Mo_fault s = 0 → a0.toInt = 0 → Mod_walk fu th sc rf wi ls le va bi a0 1 s rd li ne en be lf tu fo op ki co wd sca lk rp ba ea pa = some r → FdE Fl0 r
theorem F0_of {fu M : Nat} {t : S_Tab} {P : S_Prog} {u : Int32} {th sc rf wi ls le : Nat → Int32} {va : Nat → Int64} (hf : 12000 ≤ fu) (It_ : I_Tab t) (IP : I_Prog P) (T : TbR t u th sc rf wi ls le) (Iw : A_Mwidths wi) (Is : A_Mscales sc) (Ils : A_Mlists ls) (Ile : A_Mlengths le) (Irf : Rfb rf) (hc : CompOK fu th sc wi ls le u) (hSg : Sg (It (Tab_listed t) (zT t) (Prog_descriptors P) (Prog_bodyEnds P) 64) M 128 (128 + zT t 16) 0 (Prog_size P).toInt.toNat) {VAL : Nat → Nat → Int64} {W W0 : S_Walk} {Fl Fl0 : S_Fld} {L L0 : S_Lps} (V : RwR VAL va) (hG : Gd fu u th sc rf wi ls le va 0) (e0 : Walk_over fu 100 t P (VAL 0) W Fl L = some (W0, Fl0, L0)) : F0R fu u th sc rf wi ls le va Fl0 := by
  intro a0 bi s rd li ne en be lf tu fo op ki co wd sca lk rp ba ea pa r A hu hz h0 er
  have g1 := (hG a0 bi s rd li ne en be lf tu fo op ki co wd sca lk rp ba ea pa r A hu hz h0 er).1
  obtain ⟨W', Fl', L', o1, o2, o3⟩ := over_both (z0 := s) (P := P) (row := VAL 0) (W := W) (Fl := Fl) (L := L) (k := 0) hf It_ IP (by rw [hu]; exact T) Iw Is Ils Ile Irf (by rw [hu]; exact hc) hSg A (KM.refl s) hz h0 (by decide) (Or.inr ⟨by decide, g1⟩) (fun j hj => V 0 j (by decide) hj) er
  rw [o1] at e0
  cases e0
  exact o2
set_option maxHeartbeats 8000000 in
theorem rp_out {fu : Nat} {t : S_Tab} {u : Int32} {th sc rf wi ls le : Nat → Int32} {va : Nat → Int64} (hf : 12000 ≤ fu) (It_ : I_Tab t) (T : TbR t u th sc rf wi ls le) (Iw : A_Mwidths wi) (Is : A_Mscales sc) (Ils : A_Mlists ls) (Ile : A_Mlengths le) (Irf : Rfb rf) (hc : CompOK fu th sc wi ls le u) {N8 : Nat} {x1 x2 : Int32} {ma : Nat → Int32} {ke : KeW} {R : A26} {z : S_Mo} {Fl0 : S_Fld} (hx2 : ¬ x2 = 0) (hn : x1.toInt = (N8 : Int)) (h8 : N8 ≤ 8) (hG : ∀ j, j < N8 → Gd fu u th sc rf wi ls le va j) (hF : F0R fu u th sc rf wi ls le va Fl0) : ∀ (n' kk : Nat) (y : Int32) (s : S_Mo) (rd : Nat → Int64) (li ne en be lf tu fo op ki co wd sca lk rp : Nat → Int32) (ba : Nat → Int64) (ea pa : Nat → Int32) (bi fk fw fs : Nat → Int32) (fb : Nat → Int64), y.toInt = (kk : Int) → kk ≤ N8 → WS u z s fo op wd ea pa → (Mo_many s).toInt = 0 → (1 ≤ kk → FFR Fl0 s fk fw fs fb) → Mod_write_L44 fu th sc rf wi ls le va x1 x2 ma ke n' y s rd li ne en be lf tu fo op ki co wd sca lk rp ba ea pa bi fk fw fs fb = some R → ∃ w : A24, ke w.1.1 w.1.2.1 w.1.2.2.1 w.1.2.2.2.1 w.1.2.2.2.2.1 w.1.2.2.2.2.2.1 w.1.2.2.2.2.2.2.1 w.1.2.2.2.2.2.2.2.1 w.1.2.2.2.2.2.2.2.2.1 w.1.2.2.2.2.2.2.2.2.2.1 w.1.2.2.2.2.2.2.2.2.2.2.1 w.1.2.2.2.2.2.2.2.2.2.2.2.1 w.1.2.2.2.2.2.2.2.2.2.2.2.2.1 w.1.2.2.2.2.2.2.2.2.2.2.2.2.2.1 w.1.2.2.2.2.2.2.2.2.2.2.2.2.2.2.1 w.1.2.2.2.2.2.2.2.2.2.2.2.2.2.2.2.1 w.1.2.2.2.2.2.2.2.2.2.2.2.2.2.2.2.2.1 w.1.2.2.2.2.2.2.2.2.2.2.2.2.2.2.2.2.2.1 w.1.2.2.2.2.2.2.2.2.2.2.2.2.2.2.2.2.2.2 w.2.1 w.2.2.1 w.2.2.2.1 w.2.2.2.2.1 w.2.2.2.2.2 = some R ∧ WS u z w.1.1 w.1.2.2.2.2.2.2.2.2.1 w.1.2.2.2.2.2.2.2.2.2.1 w.1.2.2.2.2.2.2.2.2.2.2.2.2.1 w.1.2.2.2.2.2.2.2.2.2.2.2.2.2.2.2.2.2.1 w.1.2.2.2.2.2.2.2.2.2.2.2.2.2.2.2.2.2.2 ∧ (Mo_many w.1.1).toInt = 0 ∧ (1 ≤ N8 → FFR Fl0 w.1.1 w.2.2.1 w.2.2.2.1 w.2.2.2.2.1 w.2.2.2.2.2)
  | 0, kk, y, s, rd, li, ne, en, be, lf, tu, fo, op, ki, co, wd, sca, lk, rp, ba, ea, pa, bi, fk, fw, fs, fb, hy, hk, S, hm, hFF, h2 => by
    rw [Mod_write_L44] at h2
    cases h2
  | n' + 1, kk, y, s, rd, li, ne, en, be, lf, tu, fo, op, ki, co, wd, sca, lk, rp, ba, ea, pa, bi, fk, fw, fs, fb, hy, hk, S, hm, hFF, h2 => by
    have k1 : (1 : Int32).toInt = 1 := by decide
    have k0 : (0 : Int32).toInt = 0 := by decide
    by_cases ck : kk = N8
    · have c1 : x1 ≤ y := by rw [i_le]; omega
      rw [Mod_write_L44, if_pos c1] at h2
      exact ⟨((s, rd, li, ne, en, be, lf, tu, fo, op, ki, co, wd, sca, lk, rp, ba, ea, pa), bi, fk, fw, fs, fb), h2, S, hm, fun e => hFF (by omega)⟩
    · have c1 : ¬ x1 ≤ y := by rw [i_le]; omega
      rw [Mod_write_L44, if_neg c1, if_pos S.2.2.1] at h2
      obtain ⟨r, er, h2⟩ := oi_bd h2
      obtain ⟨r1, r2, r3, r4, r5, r6, r7, rK, _, rF⟩ := walk_ok hf It_ T Iw Is Ils Ile Irf hc S hy (by omega) (by decide) er
      have g1 := (hG kk (by omega) y bi s rd li ne en be lf tu fo op ki co wd sca lk rp ba ea pa r S.1 S.2.1 S.2.2.1 hy er).1
      have y1 : (y + 1).toInt = ((kk + 1 : Nat) : Int) := by
        rw [i_add (a := y) (b := 1) (by omega) (by omega), hy, k1]
        rfl
      have hf1 : ∃ m, fu = m + 1 := ⟨fu - 1, by clear y1; omega⟩
      obtain ⟨m, hm'⟩ := hf1
      have go : ∀ (sF : S_Mo) (fk' fw' fs' : Nat → Int32) (fb' : Nat → Int64), (∃ z, sF = Mo_set_firstFields r.1 z ∧ 0 ≤ z.toInt ∧ z.toInt ≤ 100) → FFR Fl0 sF fk' fw' fs' fb' → Mod_write_j70 fu th sc rf wi ls le va (fun v0 v1 v2 v3 v4 v5 v6 v7 v8 v9 v10 v11 v12 v13 v14 v15 v16 v17 v18 v19 v20 v21 v22 v23 v24 => Mod_write_L44 fu th sc rf wi ls le va x1 x2 ma ke n' v0 v1 v2 v3 v4 v5 v6 v7 v8 v9 v10 v11 v12 v13 v14 v15 v16 v17 v18 v19 v20 v21 v22 v23 v24) ke x1 x2 ma y sF r.2.1 r.2.2.1 r.2.2.2.1 r.2.2.2.2.1 r.2.2.2.2.2.1 r.2.2.2.2.2.2.1 r.2.2.2.2.2.2.2.1 r.2.2.2.2.2.2.2.2.1 r.2.2.2.2.2.2.2.2.2.1 r.2.2.2.2.2.2.2.2.2.2.1 r.2.2.2.2.2.2.2.2.2.2.2.1 r.2.2.2.2.2.2.2.2.2.2.2.2.1 r.2.2.2.2.2.2.2.2.2.2.2.2.2.1 r.2.2.2.2.2.2.2.2.2.2.2.2.2.2.1 r.2.2.2.2.2.2.2.2.2.2.2.2.2.2.2.1 r.2.2.2.2.2.2.2.2.2.2.2.2.2.2.2.2.1 r.2.2.2.2.2.2.2.2.2.2.2.2.2.2.2.2.2.1 r.2.2.2.2.2.2.2.2.2.2.2.2.2.2.2.2.2.2 bi fk' fw' fs' fb' = some R → ∃ w : A24, ke w.1.1 w.1.2.1 w.1.2.2.1 w.1.2.2.2.1 w.1.2.2.2.2.1 w.1.2.2.2.2.2.1 w.1.2.2.2.2.2.2.1 w.1.2.2.2.2.2.2.2.1 w.1.2.2.2.2.2.2.2.2.1 w.1.2.2.2.2.2.2.2.2.2.1 w.1.2.2.2.2.2.2.2.2.2.2.1 w.1.2.2.2.2.2.2.2.2.2.2.2.1 w.1.2.2.2.2.2.2.2.2.2.2.2.2.1 w.1.2.2.2.2.2.2.2.2.2.2.2.2.2.1 w.1.2.2.2.2.2.2.2.2.2.2.2.2.2.2.1 w.1.2.2.2.2.2.2.2.2.2.2.2.2.2.2.2.1 w.1.2.2.2.2.2.2.2.2.2.2.2.2.2.2.2.2.1 w.1.2.2.2.2.2.2.2.2.2.2.2.2.2.2.2.2.2.1 w.1.2.2.2.2.2.2.2.2.2.2.2.2.2.2.2.2.2.2 w.2.1 w.2.2.1 w.2.2.2.1 w.2.2.2.2.1 w.2.2.2.2.2 = some R ∧ WS u z w.1.1 w.1.2.2.2.2.2.2.2.2.1 w.1.2.2.2.2.2.2.2.2.2.1 w.1.2.2.2.2.2.2.2.2.2.2.2.2.1 w.1.2.2.2.2.2.2.2.2.2.2.2.2.2.2.2.2.2.1 w.1.2.2.2.2.2.2.2.2.2.2.2.2.2.2.2.2.2.2 ∧ (Mo_many w.1.1).toInt = 0 ∧ (1 ≤ N8 → FFR Fl0 w.1.1 w.2.2.1 w.2.2.2.1 w.2.2.2.2.1 w.2.2.2.2.2) := by
        intro sF fk' fw' fs' fb' hsF hFF' g
        obtain ⟨zF, hzF, zF0, zF1⟩ := hsF
        unfold Mod_write_j70 at g
        have fz : Mo_fault sF = 0 := by rw [hzF]; exact g1
        have st : ∀ q, q = m + 1 → Mod_write_L73 fu th sc rf wi ls le va x1 x2 y r.2.1 r.2.2.1 r.2.2.2.1 r.2.2.2.2.1 r.2.2.2.2.2.1 r.2.2.2.2.2.2.1 r.2.2.2.2.2.2.2.1 r.2.2.2.2.2.2.2.2.1 r.2.2.2.2.2.2.2.2.2.1 r.2.2.2.2.2.2.2.2.2.2.1 r.2.2.2.2.2.2.2.2.2.2.2.1 r.2.2.2.2.2.2.2.2.2.2.2.2.1 r.2.2.2.2.2.2.2.2.2.2.2.2.2.1 r.2.2.2.2.2.2.2.2.2.2.2.2.2.2.1 r.2.2.2.2.2.2.2.2.2.2.2.2.2.2.2.1 r.2.2.2.2.2.2.2.2.2.2.2.2.2.2.2.2.1 r.2.2.2.2.2.2.2.2.2.2.2.2.2.2.2.2.2.1 r.2.2.2.2.2.2.2.2.2.2.2.2.2.2.2.2.2.2 ma fk' fw' fs' fb' (fun zMo zMbits => Mod_write_j128 fu th sc rf wi ls le va (fun v0 v1 v2 v3 v4 v5 v6 v7 v8 v9 v10 v11 v12 v13 v14 v15 v16 v17 v18 v19 v20 v21 v22 v23 v24 => Mod_write_L44 fu th sc rf wi ls le va x1 x2 ma ke n' v0 v1 v2 v3 v4 v5 v6 v7 v8 v9 v10 v11 v12 v13 v14 v15 v16 v17 v18 v19 v20 v21 v22 v23 v24) ke x1 x2 ma y zMo r.2.1 r.2.2.1 r.2.2.2.1 r.2.2.2.2.1 r.2.2.2.2.2.1 r.2.2.2.2.2.2.1 r.2.2.2.2.2.2.2.1 r.2.2.2.2.2.2.2.2.1 r.2.2.2.2.2.2.2.2.2.1 r.2.2.2.2.2.2.2.2.2.2.1 r.2.2.2.2.2.2.2.2.2.2.2.1 r.2.2.2.2.2.2.2.2.2.2.2.2.1 r.2.2.2.2.2.2.2.2.2.2.2.2.2.1 r.2.2.2.2.2.2.2.2.2.2.2.2.2.2.1 r.2.2.2.2.2.2.2.2.2.2.2.2.2.2.2.1 r.2.2.2.2.2.2.2.2.2.2.2.2.2.2.2.2.1 r.2.2.2.2.2.2.2.2.2.2.2.2.2.2.2.2.2.1 r.2.2.2.2.2.2.2.2.2.2.2.2.2.2.2.2.2.2 zMbits fk' fw' fs' fb') q 0 sF bi = some R → Mod_write_L44 fu th sc rf wi ls le va x1 x2 ma ke n' (y + 1) sF r.2.1 r.2.2.1 r.2.2.2.1 r.2.2.2.2.1 r.2.2.2.2.2.1 r.2.2.2.2.2.2.1 r.2.2.2.2.2.2.2.1 r.2.2.2.2.2.2.2.2.1 r.2.2.2.2.2.2.2.2.2.1 r.2.2.2.2.2.2.2.2.2.2.1 r.2.2.2.2.2.2.2.2.2.2.2.1 r.2.2.2.2.2.2.2.2.2.2.2.2.1 r.2.2.2.2.2.2.2.2.2.2.2.2.2.1 r.2.2.2.2.2.2.2.2.2.2.2.2.2.2.1 r.2.2.2.2.2.2.2.2.2.2.2.2.2.2.2.1 r.2.2.2.2.2.2.2.2.2.2.2.2.2.2.2.2.1 r.2.2.2.2.2.2.2.2.2.2.2.2.2.2.2.2.2.1 r.2.2.2.2.2.2.2.2.2.2.2.2.2.2.2.2.2.2 bi fk' fw' fs' fb' = some R := by
          intro q hq g0
          rw [hq, Mod_write_L73] at g0
          by_cases c : Mo_fields sF ≤ 0
          · rw [if_pos c] at g0
            exact g0
          · rw [if_neg c, if_pos fz, if_neg hx2] at g0
            exact g0
        obtain ⟨I, i1, i2, i3, i4, i5⟩ := r1
        have S' : WS u z sF r.2.2.2.2.2.2.2.2.1 r.2.2.2.2.2.2.2.2.2.1 r.2.2.2.2.2.2.2.2.2.2.2.2.1 r.2.2.2.2.2.2.2.2.2.2.2.2.2.2.2.2.2.1 r.2.2.2.2.2.2.2.2.2.2.2.2.2.2.2.2.2.2 := by
          rw [hzF]
          exact ⟨⟨I_Mo_set_firstFields I ⟨zF0, zF1⟩, i1, i2, i3, i4, i5⟩, r2, g1, rK⟩
        have hm2 : (Mo_many sF).toInt = 0 := by
          rw [hzF]
          show (Mo_many r.1).toInt = 0
          rw [r3]
          exact hm
        exact rp_out hf It_ T Iw Is Ils Ile Irf hc hx2 hn h8 hG hF n' (kk + 1) (y + 1) sF _ _ _ _ _ _ _ _ _ _ _ _ _ _ _ _ _ _ bi fk' fw' fs' fb' y1 (by clear y1; omega) S' hm2 (fun _ => hFF') (st fu hm' g)
      by_cases cy : y = 0
      · rw [if_pos cy] at h2
        obtain ⟨q8, e8, h2⟩ := oi_bd h2
        have e8' := e8
        unfold Mod_keepFirst o_lt at e8'
        dsimp only at e8'
        obtain ⟨k8, k9⟩ := keep_L (s := Mo_set_firstFields r.1 (Mo_fields r.1)) r6 r7 fu 0 0 fk fw fs fb (by decide) (by show ((0 : Nat) : Int) ≤ (Mo_fields r.1).toInt; clear y1; omega) (fun j hj => absurd hj (by omega)) e8'
        have fd : FdE Fl0 r := hF y bi s rd li ne en be lf tu fo op ki co wd sca lk rp ba ea pa r S.1 S.2.1 S.2.2.1 (by rw [cy]; exact k0) er
        obtain ⟨d1, d2, d3, d4⟩ := fd
        refine go q8.1 _ _ _ _ ⟨Mo_fields r.1, k8, r6, r7⟩ ⟨by rw [k8]; exact d1.symm, fun i hi => ?_⟩ h2
        rw [d1] at hi
        obtain ⟨x1', x2', x3', x4', x5', _⟩ := d4 i hi
        obtain ⟨z1, z2, z3, z4⟩ := k9 i hi
        exact ⟨z1.trans x1'.symm, z2.trans x3'.symm, z3.trans x4'.symm, z4.trans x5'.symm⟩
      · rw [if_neg cy] at h2
        have kk1 : 1 ≤ kk := by
          rw [i_eq, k0] at cy
          clear y1
          omega
        have ff := I_Mo_firstFields r1.1
        obtain ⟨b1, b2⟩ := hFF kk1
        exact go r.1 _ _ _ _ ⟨Mo_firstFields r.1, rfl, ff.1, ff.2⟩ ⟨by rw [rF]; exact b1, b2⟩ h2
theorem l22_all {fu N k : Nat} {th sc rf wi ls le : Nat → Int32} {va : Nat → Int64} {bi fk fw fs : Nat → Int32} {fb : Nat → Int64} {x1 x2 : Int32} {s : S_Mo} {rd : Nat → Int64} {li ne en be lf tu fo op ki co wd sca lk rp : Nat → Int32} {ba : Nat → Int64} {ea pa : Nat → Int32} {ke : Int32 → Option A19} {R : A19} (hN : (Mo_fields s).toInt = (N : Int)) (hN2 : (Mo_firstFields s).toInt = (N : Int)) (h100 : N ≤ 100) (hs : (Mo_subset s).toInt = (k : Int)) (hk : k < 8) (hA : ∀ i, i < N → ki i = fk i ∧ wd i = fw i ∧ sca i = fs i ∧ ba i = fb i ∧ ((ki i = 2 ∨ ki i = 3) → va (100 * k + i) = va i)) : ∀ (n i : Nat) (y : Int32), y.toInt = (i : Int) → i ≤ N → Mod_compare_L22 fu th sc rf wi ls le va bi fk fw fs fb x1 x2 s rd li ne en be lf tu fo op ki co wd sca lk rp ba ea pa ke n y = some R → ∃ y' : Int32, y'.toInt = (N : Int) ∧ ke y' = some R
  | 0, i, y, _, _, h => by
    rw [Mod_compare_L22] at h
    cases h
  | n + 1, i, y, hy, hi, h => by
    have k1 : (1 : Int32).toInt = 1 := by decide
    rw [Mod_compare_L22] at h
    by_cases c : i = N
    · have c1 : Mo_fields s ≤ y := by rw [i_le]; omega
      rw [if_pos c1] at h
      exact ⟨y, by rw [hy, c], h⟩
    · have c1 : ¬ Mo_fields s ≤ y := by rw [i_le]; omega
      have c2 : ¬ Mo_firstFields s ≤ y := by rw [i_le]; omega
      rw [if_neg c1, if_neg c2] at h
      obtain ⟨q, e, h⟩ := oi_bd h
      have nq := (il_x hy (by omega) hs hk e).1 (hA i (by omega))
      rw [if_neg nq] at h
      have y1 : (y + 1).toInt = ((i + 1 : Nat) : Int) := by
        rw [i_add (a := y) (b := 1) (by omega) (by omega), hy, k1]
        rfl
      exact l22_all hN hN2 h100 hs hk hA n (i + 1) (y + 1) y1 (by clear y1; omega) h
theorem l22_stop {fu k i0 : Nat} {th sc rf wi ls le : Nat → Int32} {va : Nat → Int64} {bi fk fw fs : Nat → Int32} {fb : Nat → Int64} {x1 x2 : Int32} {s : S_Mo} {rd : Nat → Int64} {li ne en be lf tu fo op ki co wd sca lk rp : Nat → Int32} {ba : Nat → Int64} {ea pa : Nat → Int32} {ke : Int32 → Option A19} {R : A19} (h100 : i0 < 100) (hs : (Mo_subset s).toInt = (k : Int)) (hk : k < 8) (hA : (ki i0 = 2 ∨ ki i0 = 3) ∧ ¬ va (100 * k + i0) = va i0) : ∀ (n i : Nat) (y : Int32), y.toInt = (i : Int) → i ≤ i0 → Mod_compare_L22 fu th sc rf wi ls le va bi fk fw fs fb x1 x2 s rd li ne en be lf tu fo op ki co wd sca lk rp ba ea pa ke n y = some R → ∃ y' : Int32, y'.toInt ≤ (i0 : Int) ∧ ke y' = some R
  | 0, i, y, _, _, h => by
    rw [Mod_compare_L22] at h
    cases h
  | n + 1, i, y, hy, hi, h => by
    have k1 : (1 : Int32).toInt = 1 := by decide
    rw [Mod_compare_L22] at h
    by_cases c1 : Mo_fields s ≤ y
    · rw [if_pos c1] at h
      exact ⟨y, by omega, h⟩
    · rw [if_neg c1] at h
      by_cases c2 : Mo_firstFields s ≤ y
      · rw [if_pos c2] at h
        exact ⟨y, by omega, h⟩
      · rw [if_neg c2] at h
        obtain ⟨q, e, h⟩ := oi_bd h
        by_cases cq : q = 0
        · rw [if_pos cq] at h
          exact ⟨y, by omega, h⟩
        · rw [if_neg cq] at h
          have ni : i ≠ i0 := by
            intro ei
            rw [ei] at hy
            exact cq ((il_x hy h100 hs hk e).2 hA)
          have y1 : (y + 1).toInt = ((i + 1 : Nat) : Int) := by
            rw [i_add (a := y) (b := 1) (by omega) (by omega), hy, k1]
            rfl
          exact l22_stop h100 hs hk hA n (i + 1) (y + 1) y1 (by clear y1; omega) h
theorem cmp_stop {fu m' : Nat} {th sc rf wi ls le : Nat → Int32} {va : Nat → Int64} {bi fk fw fs : Nat → Int32} {fb : Nat → Int64} {x1 x : Int32} {s : S_Mo} {rd : Nat → Int64} {li ne en be lf tu fo op ki co wd sca lk rp : Nat → Int32} {ba : Nat → Int64} {ea pa : Nat → Int32} {R : A19} (hz : ¬ Mo_fault s = 0) (h : Mod_compare_L2 fu th sc rf wi ls le va bi fk fw fs fb x1 m' x s rd li ne en be lf tu fo op ki co wd sca lk rp ba ea pa = some R) : R = (s, rd, li, ne, en, be, lf, tu, fo, op, ki, co, wd, sca, lk, rp, ba, ea, pa) := by
  cases m' with
  | zero =>
    rw [Mod_compare_L2] at h
    cases h
  | succ m' =>
    rw [Mod_compare_L2] at h
    by_cases c : x1 ≤ x
    · rw [if_pos c] at h
      exact (Option.some.inj h).symm
    · rw [if_neg c, if_neg hz] at h
      exact (Option.some.inj h).symm
set_option maxHeartbeats 8000000 in
theorem cmp_L {fu M : Nat} {t : S_Tab} {P : S_Prog} {u : Int32} {th sc rf wi ls le : Nat → Int32} {va : Nat → Int64} (hf : 12000 ≤ fu) (It_ : I_Tab t) (IP : I_Prog P) (T : TbR t u th sc rf wi ls le) (Iw : A_Mwidths wi) (Is : A_Mscales sc) (Ils : A_Mlists ls) (Ile : A_Mlengths le) (Irf : Rfb rf) (hc : CompOK fu th sc wi ls le u) (hSg : Sg (It (Tab_listed t) (zT t) (Prog_descriptors P) (Prog_bodyEnds P) 64) M 128 (128 + zT t 16) 0 (Prog_size P).toInt.toNat) {N8 : Nat} {VAL : Nat → Nat → Int64} {W W0 : S_Walk} {Fl Fl0 : S_Fld} {L L0 : S_Lps} {X : S_X} {x1 : Int32} {bi fk fw fs : Nat → Int32} {fb : Nat → Int64} {z : S_Mo} {q : Int32 × S_X × S_Walk × S_Fld × S_Lps} {R : A19} (hn : x1.toInt = (N8 : Int)) (h8 : N8 ≤ 8) (V : RwR VAL va) (hG : ∀ j, j < N8 → Gd fu u th sc rf wi ls le va j) (e0 : Walk_over fu 100 t P (VAL 0) W Fl L = some (W0, Fl0, L0)) : ∀ (m m' kk : Nat) (x : Int32) (s : S_Mo) (rd : Nat → Int64) (li ne en be lf tu fo op ki co wd sca lk rp : Nat → Int32) (ba : Nat → Int64) (ea pa : Nat → Int32), x.toInt = (kk : Int) → 1 ≤ kk → kk ≤ N8 → WS u z s fo op wd ea pa → (Mo_many s).toInt = 0 → FFR Fl0 s fk fw fs fb → X_checkAlike_L15 fu VAL t P x1 X W0 Fl0 L0 (fun y2 y3 => X_checkAlike_j48 fu VAL t P y2 y3 X W0 Fl0 L0) m x = some q → Mod_compare_L2 fu th sc rf wi ls le va bi fk fw fs fb x1 m' x s rd li ne en be lf tu fo op ki co wd sca lk rp ba ea pa = some R → (q = (1, X, W0, Fl0, L0) ∧ WS u z R.1 R.2.2.2.2.2.2.2.2.1 R.2.2.2.2.2.2.2.2.2.1 R.2.2.2.2.2.2.2.2.2.2.2.2.1 R.2.2.2.2.2.2.2.2.2.2.2.2.2.2.2.2.2.1 R.2.2.2.2.2.2.2.2.2.2.2.2.2.2.2.2.2.2 ∧ (Mo_many R.1).toInt = 0 ∧ (∀ j, kk ≤ j → j < N8 → ∀ i : Nat, (i : Int) < (Fld_count Fl0).toInt → okA Fl0 (VAL j) i)) ∨ (q.1 = 0 ∧ ¬ Mo_fault R.1 ≤ 0 ∧ KMd R.1 z)
  | 0, m', kk, x, s, rd, li, ne, en, be, lf, tu, fo, op, ki, co, wd, sca, lk, rp, ba, ea, pa, hx, hk1, hk, S, hm, hFF, h1, h2 => by
    rw [X_checkAlike_L15] at h1
    cases h1
  | m + 1, 0, kk, x, s, rd, li, ne, en, be, lf, tu, fo, op, ki, co, wd, sca, lk, rp, ba, ea, pa, hx, hk1, hk, S, hm, hFF, h1, h2 => by
    rw [Mod_compare_L2] at h2
    cases h2
  | m + 1, m' + 1, kk, x, s, rd, li, ne, en, be, lf, tu, fo, op, ki, co, wd, sca, lk, rp, ba, ea, pa, hx, hk1, hk, S, hm, hFF, h1, h2 => by
    have k1 : (1 : Int32).toInt = 1 := by decide
    have k0 : (0 : Int32).toInt = 0 := by decide
    rw [X_checkAlike_L15] at h1
    rw [Mod_compare_L2] at h2
    by_cases ck : kk = N8
    · have c1 : x1 ≤ x := by rw [i_le]; omega
      rw [if_pos c1] at h1 h2
      cases h1
      cases h2
      exact Or.inl ⟨rfl, S, hm, fun j hj1 hj2 => absurd hj2 (by omega)⟩
    · have c1 : ¬ x1 ≤ x := by rw [i_le]; omega
      have nx : x.toNatClampNeg = kk := by
        have := i_nat (a := x) (by omega)
        omega
      rw [if_neg c1, nx] at h1
      have h1 := oe_gd (oe_gd (oe_gd h1))
      obtain ⟨q5, e5, h1⟩ := oi_bd h1
      rw [if_neg c1, if_pos S.2.2.1] at h2
      obtain ⟨r, er, h2⟩ := oi_bd h2
      obtain ⟨r1, r2, r3, r4, r5, r6, r7, rK, rS, rF⟩ := walk_ok hf It_ T Iw Is Ils Ile Irf hc S hx (by omega) (by decide) er
      obtain ⟨g1, gB⟩ := hG kk (by omega) x bi s rd li ne en be lf tu fo op ki co wd sca lk rp ba ea pa r S.1 S.2.1 S.2.2.1 hx er
      obtain ⟨Wk, Flk, Lk, o1, o2, o3⟩ := over_both (z0 := s) (P := P) (row := VAL kk) (W := W) (Fl := Fl) (L := L) (k := kk) hf It_ IP (by rw [S.2.1]; exact T) Iw Is Ils Ile Irf (by rw [S.2.1]; exact hc) hSg S.1 (KM.refl s) S.2.2.1 hx (by omega) (Or.inr ⟨k1, g1⟩) (fun j hj => V kk j (by omega) hj) er
      -- the walk over subset 0, in the reference
      obtain ⟨⟨I, a1', a2, a3, a4, a5⟩, hu, hz, hw⟩ := S
      obtain ⟨r0, er0, _⟩ := t_walk2 (z := s) (a0 := 0) (a1 := 1) (va := va) (bi := bi) (rf := rf) (rd := rd) (li := li) (ne := ne) (en := en) (be := be) (lf := lf) (tu := tu) (ki := ki) (co := co) (sca := sca) (lk := lk) (rp := rp) (ba := ba) hf Is Iw Ils Ile I a1' a2 a3 a4 a5 hz (by decide) (by decide) (Or.inl (by decide)) (Or.inl (by decide)) (KM.refl s) (by rw [hu]; exact hc)
      have g0 := (hG 0 (by omega) 0 bi s rd li ne en be lf tu fo op ki co wd sca lk rp ba ea pa r0 ⟨I, a1', a2, a3, a4, a5⟩ hu hz k0 er0).1
      have hS := WSt_start (fu := fu) (th := th) (sc := sc) (wi := wi) (ls := ls) (le := le) (a0 := 0) (a1 := 1) (s := s) (li := li) (ne := ne) (en := en) (be := be) (lf := lf) I a1' a2 a3 a4 a5 (by rw [hz]; decide) (by decide) (by decide) (Or.inl (by decide)) (Or.inl (by decide)) (by rw [hu]; exact hc)
      obtain ⟨Wb, Flb, Lb, s1, eb, cb, ok, hKA, SY0⟩ := w_start (W := W) (Fl := Fl) (L := L) (P := P) hf It_ IP (by rw [hu]; exact T) Iw Is Ils Ile Irf hSg hS hz er0
      have e0' := e0
      unfold Walk_over at e0'
      rw [bd_s eb] at e0'
      have o1' := o1
      unfold Walk_over at o1'
      rw [bd_s eb] at o1'
      obtain ⟨d1, d2, d3, d4⟩ := o2
      obtain ⟨b1, b2⟩ := hFF
      have hc0 : 0 ≤ (Fld_count Fl0).toInt ∧ (Fld_count Fl0).toInt ≤ 100 := by
        have fd := F0_of hf It_ IP T Iw Is Ils Ile Irf hc hSg V (hG 0 (by omega)) e0 0 bi s rd li ne en be lf tu fo op ki co wd sca lk rp ba ea pa r0 ⟨I, a1', a2, a3, a4, a5⟩ hu hz k0 er0
        obtain ⟨f1, f2, f3, _⟩ := fd
        rw [f1]
        exact ⟨f2, f3⟩
      obtain ⟨N, hN⟩ : ∃ N : Nat, (Fld_count Fl0).toInt = (N : Int) := ⟨(Fld_count Fl0).toInt.toNat, by omega⟩
      have x1' : (x + 1).toInt = ((kk + 1 : Nat) : Int) := by
        rw [i_add (a := x) (b := 1) (by omega) (by omega), hx, k1]
        rfl
      rcases fo_L (row := VAL 0) (row' := VAL kk) hN (by clear x1'; omega) fu 0 0 (by decide) (by omega) (fun j hj => absurd hj (by omega)) e5 with ⟨y1, y2⟩ | ⟨y1, i0, y2, y3, y4, y5⟩
      · -- alike
        have same := over_same (row' := VAL kk) (k := 0) ok (by show (1 : Int32).toInt < 2; decide) (by show (0 : Int32).toInt = ((0 : Nat) : Int); decide) (by decide) (fun j hj => V 0 j (by decide) hj) g0 fu 0 fu 0 Wb Flb Lb s1 rd (W0, Fl0, L0) SY0 (by decide) (by rw [cb]; decide) (by omega) e0' (fun j hj hk2 => y2 j (by have hj : (j : Int) < (Fld_count Fl0).toInt := hj; clear x1'; omega) hk2)
        have eqk : some (Wk, Flk, Lk) = some (W0, Fl0, L0) := o1'.symm.trans same
        cases eqk
        rw [if_pos y1] at h1
        have hN2 : (Mo_fields r.1).toInt = (N : Int) := by rw [← d1]; exact hN
        have hFF2 : (Mo_firstFields r.1).toInt = (N : Int) := by rw [rF, b1]; exact hN
        obtain ⟨y', w1, w2⟩ := l22_all (N := N) (k := kk) hN2 hFF2 (by clear x1'; omega) rS (by clear x1'; omega) (fun i hi => by
          obtain ⟨v1, v2, v3, v4, v5, _⟩ := d4 i (by clear x1'; omega)
          obtain ⟨u1, u2, u3, u4⟩ := b2 i (by clear x1'; omega)
          refine ⟨by rw [u1, v1], by rw [u2, v3], by rw [u3, v4], by rw [u4, v5], fun e => ?_⟩
          have e' := y2 i hi (by rw [v1]; exact e)
          have va0 := V 0 i (by decide) (by clear x1'; omega)
          have vak := V kk i (by clear x1'; omega) (by clear x1'; omega)
          have z0 : 100 * 0 + i = i := by clear x1'; omega
          rw [z0] at va0
          rw [← vak, ← va0]
          exact e'.symm) fu 0 0 (by decide) (by omega) h2
        unfold Mod_compare_j52 at w2
        have c2 : ¬ y' < Mo_fields r.1 := by rw [i_lt, w1, hN2]; exact Int.lt_irrefl _
        have c3 : Mo_firstFields r.1 ≤ y' := by rw [i_le, w1, hFF2]; exact Int.le_refl _
        rw [if_neg c2, if_pos c3] at w2
        unfold Mod_compare_j75 at w2
        have ih := cmp_L hf It_ IP T Iw Is Ils Ile Irf hc hSg hn h8 V hG e0 m m' (kk + 1) (x + 1) r.1 _ _ _ _ _ _ _ _ _ _ _ _ _ _ _ _ _ _ x1' (by clear x1'; omega) (by clear x1'; omega) ⟨r1, r2, g1, rK⟩ (by rw [r3]; exact hm) ⟨by rw [rF]; exact b1, b2⟩ h1 w2
        rcases ih with ⟨i1, i2, i3, i4⟩ | i1
        · refine Or.inl ⟨i1, i2, i3, fun j hj1 hj2 => ?_⟩
          by_cases cj : j = kk
          · rw [cj]
            intro i hi
            have hi2 : (i : Int) < (Mo_fields r.1).toInt := by rw [← d1]; exact hi
            obtain ⟨v1, v2, v3, v4, v5, _⟩ := d4 i hi2
            have o := gB i hi2
            unfold okA
            rw [v1, v3, v5, V kk i (by clear x1'; omega) (by clear x1'; omega)]
            exact o
          · exact i4 j (by clear x1'; omega) hj2
        · exact Or.inr i1
      · -- not alike
        obtain ⟨p1, p2⟩ := over_pre (row' := VAL kk) (k := 0) (i0 := i0) ok (by show (1 : Int32).toInt < 2; decide) (by show (0 : Int32).toInt = ((0 : Nat) : Int); decide) (by decide) (fun j hj => V 0 j (by decide) hj) g0 fu 0 fu 0 Wb Flb Lb s1 rd (W0, Fl0, L0) (Wk, Flk, Lk) SY0 (by decide) (by rw [cb]; decide) (by omega) (by omega) e0' o1' (by show (i0 : Int) < (Fld_count Fl0).toInt; clear x1'; omega) y5
        have p1 : (i0 : Int) < (Fld_count Flk).toInt := p1
        have p2 : Fld_kinds Flk i0 = Fld_kinds Fl0 i0 := p2
        rw [if_neg y1] at h1
        unfold X_checkAlike_j48 at h1
        obtain ⟨q8, _, h1⟩ := oi_bd h1
        obtain ⟨q9, _, h1⟩ := oi_bd h1
        cases h1
        rw [d1] at p1
        obtain ⟨v1, _⟩ := d4 i0 p1
        obtain ⟨y', w1, w2⟩ := l22_stop (i0 := i0) (k := kk) (by clear x1'; omega) rS (by clear x1'; omega) ⟨by rw [← v1, p2]; exact y3, fun e => y4 (by
          have va0 := V 0 i0 (by decide) (by clear x1'; omega)
          have vak := V kk i0 (by clear x1'; omega) (by clear x1'; omega)
          have z0 : 100 * 0 + i0 = i0 := by clear x1'; omega
          rw [z0] at va0
          rw [va0, vak, e])⟩ fu 0 0 (by decide) (by omega) h2
        unfold Mod_compare_j52 at w2
        have c2 : y' < Mo_fields r.1 := by rw [i_lt]; clear x1'; omega
        rw [if_pos c2] at w2
        unfold Mod_compare_j68 at w2
        obtain ⟨s10, e10, w2⟩ := oi_bd w2
        unfold Mod_compare_j75 at w2
        have x10 := wrong_x (by decide) e10
        have n10 := wrongAt_pos (by decide) e10
        have eR := cmp_stop x10.1 w2
        refine Or.inr ⟨rfl, by rw [eR]; exact n10, ?_⟩
        rw [eR]
        have kw : KMd s10 r.1 := by
          unfold Mod_wrongAt at e10
          have wk : ∀ b : Int32, Mod_wrong 10 b r.1 = some s10 → KMd s10 r.1 := by
            intro b g
            unfold Mod_wrong o_lt at g
            split at g
            · cases g
              exact ⟨rfl, rfl, rfl, rfl⟩
            · cases g
              exact ⟨rfl, rfl, rfl, rfl⟩
          split at e10
          · rw [bd_some] at e10
            exact wk _ e10
          · rw [bd_some] at e10
            exact wk _ e10
        exact ⟨kw.1.trans rK.1, kw.2.1.trans rK.2.1, kw.2.2.1.trans rK.2.2.1, kw.2.2.2.trans rK.2.2.2⟩

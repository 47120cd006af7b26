-- writing PLAIN: the fields of one subset
abbrev CO4 : Type := S_Walk × S_Fld × S_Lps × S_Bits
def FOK (Fl : S_Fld) (row : Nat → Int64) (N : Nat) (ki wd : Nat → Int32) (ba : Nat → Int64) : Prop := (Fld_count Fl).toInt = (N : Int) ∧ N ≤ 100 ∧ ∀ i : Nat, i < N → Fld_kinds Fl i = ki i ∧ Fld_widths Fl i = wd i ∧ Fld_references Fl i = ba i ∧ (ki i = 3 → ba i = 0) ∧ okv (ki i) (row i) ∧ okr 1 (ki i) (wd i) (ba i) (row i) ∧ 1 ≤ (wd i).toInt ∧ (wd i).toInt ≤ 32
set_option maxHeartbeats 8000000 in
theorem pw_in {hb : Nat → Nat} {fu kk N : Nat} {VAL : Nat → Nat → Int64} {t : S_Tab} {P : S_Prog} {Wr : S_Wri} {x1 x3 : Int32} {W : S_Walk} {Fl : S_Fld} {L : S_Lps} {k27 : S_Bits → Option CO4} {th sc rf wi ls le : Nat → Int32} {va : Nat → Int64} {x1' : Int32} {rd : Nat → Int64} {li ne en be lf tu fo op ki co wd sca lk rp : Nat → Int32} {ba : Nat → Int64} {ea pa : Nat → Int32} {ma fk fw fs : Nat → Int32} {fb : Nat → Int64} {k73 : S_Mo → (Nat → Int32) → Option A26} {R : A26} {Q : CO4} (hf : 12000 ≤ fu) (hx3 : x3.toInt = (kk : Int)) (hkk : kk < 8) (F : FOK Fl (VAL kk) N ki wd ba) (hrow : ∀ j, j < 100 → VAL kk j = va (100 * kk + j)) : ∀ (n n' i : Nat) (y : Int32) (b : S_Bits) (s : S_Mo) (bi : Nat → Int32), y.toInt = (i : Int) → i ≤ N → WrR hb b s bi → (Mo_many s).toInt ≤ 3200 * (kk : Int) + 32 * (i : Int) → (Mo_fields s).toInt = (N : Int) → Mo_fault s = 0 → Wri_takePlain_L27 fu VAL t P Wr x1 x3 W Fl L k27 n y b = some Q → Mod_write_L73 fu th sc rf wi ls le va x1' 0 x3 rd li ne en be lf tu fo op ki co wd sca lk rp ba ea pa ma fk fw fs fb k73 n' y s bi = some R → ∃ (b' : S_Bits) (s' : S_Mo) (bi' : Nat → Int32), k27 b' = some Q ∧ k73 s' bi' = some R ∧ WrR hb b' s' bi' ∧ (∃ z, s' = Mo_set_many s z) ∧ (Mo_many s').toInt ≤ 3200 * ((kk + 1 : Nat) : Int)
  | 0, n', i, y, b, s, bi, hy, hi, Wb, hm, hN, hz, h1, h2 => by
    rw [Wri_takePlain_L27] at h1
    cases h1
  | n + 1, 0, i, y, b, s, bi, hy, hi, Wb, hm, hN, hz, h1, h2 => by
    rw [Mod_write_L73] at h2
    cases h2
  | n + 1, n' + 1, i, y, b, s, bi, hy, hi, Wb, hm, hN, hz, h1, h2 => by
    have k1 : (1 : Int32).toInt = 1 := by decide
    obtain ⟨F1, F2, F3⟩ := F
    rw [Wri_takePlain_L27] at h1
    rw [Mod_write_L73] at h2
    by_cases c : i = N
    · have c1 : Fld_count Fl ≤ y := by rw [i_le]; omega
      have c2 : Mo_fields s ≤ y := by rw [i_le]; omega
      rw [if_pos c1] at h1
      rw [if_pos c2] at h2
      exact ⟨b, s, bi, h1, h2, Wb, ⟨Mo_many s, rfl⟩, by omega⟩
    · have c1 : ¬ Fld_count Fl ≤ y := by rw [i_le]; omega
      have c2 : ¬ Mo_fields s ≤ y := by rw [i_le]; omega
      have ny : y.toNatClampNeg = i := by
        have := i_nat (a := y) (by omega)
        omega
      have n3 : x3.toNatClampNeg = kk := by
        have := i_nat (a := x3) (by omega)
        omega
      have ix := (idx_k hx3 hkk hy (by omega)).1
      obtain ⟨f1, f2, f3, f4, f5, f6, f7, f8⟩ := F3 i (by omega)
      rw [if_neg c1, ny, n3] at h1
      have h1 := oe_gd (oe_gd h1)
      obtain ⟨q7, e7, h1⟩ := oi_bd h1
      have h1 := oe_gd h1
      obtain ⟨b1, e9, h3⟩ := oi_bd h1
      rw [if_neg c2, if_pos hz, if_pos rfl, ix, ny] at h2
      have h2 := oe_gd h2
      obtain ⟨q13, e13, h2⟩ := oi_bd h2
      have h2 := oe_gd h2
      obtain ⟨q15, e15, h4⟩ := oi_bd h2
      obtain ⟨u, u1, u2⟩ := raw_both (s := s) (v := VAL kk i) hy (by omega) f1 f2 f3 f4 f5
      rw [← hrow i (by omega)] at e13
      rw [u1] at e7
      cases e7
      rw [u2] at e13
      cases e13
      rw [f2] at e9
      obtain ⟨l1, ⟨z, l2⟩, l3⟩ := lay_both hf (by omega) (by omega) Wb (by omega) e9 e15
      have y1 : (y + 1).toInt = ((i + 1 : Nat) : Int) := by
        rw [i_add (a := y) (b := 1) (by omega) (by omega), hy, k1]
        rfl
      obtain ⟨b', s', bi', o1, o2, o3, ⟨z', o4⟩, o5⟩ := pw_in hf hx3 hkk ⟨F1, F2, F3⟩ hrow n n' (i + 1) (y + 1) b1 q15.1 q15.2 y1 (by clear y1; omega) l1 (by rw [l3]; clear y1; omega) (by rw [l2]; exact hN) (by rw [l2]; exact hz) h3 h4
      exact ⟨b', s', bi', o1, o2, o3, ⟨z', by rw [o4, l2]⟩, o5⟩
abbrev KeW : Type := S_Mo → (Nat → Int64) → (Nat → Int32) → (Nat → Int32) → (Nat → Int32) → (Nat → Int32) → (Nat → Int32) → (Nat → Int32) → (Nat → Int32) → (Nat → Int32) → (Nat → Int32) → (Nat → Int32) → (Nat → Int32) → (Nat → Int32) → (Nat → Int32) → (Nat → Int32) → (Nat → Int64) → (Nat → Int32) → (Nat → Int32) → (Nat → Int32) → (Nat → Int32) → (Nat → Int32) → (Nat → Int32) → (Nat → Int64) → Option A26
-- the state of a loop over subsets in the reference
def KMd (a b : S_Mo) : Prop := Mo_madeMany a = Mo_madeMany b ∧ Mo_madeKind a = Mo_madeKind b ∧ Mo_madeSubsets a = Mo_madeSubsets b ∧ Mo_written a = Mo_written b
def WS (u : Int32) (z s : S_Mo) (fo op wd ea pa : Nat → Int32) : Prop := MA s fo op wd ea pa ∧ Mo_used s = u ∧ Mo_fault s = 0 ∧ KMd s z
theorem walk_ok {fu : Nat} {t : S_Tab} {u : Int32} {th sc rf wi ls le : Nat → Int32} {va : Nat → Int64} (hf : 12000 ≤ fu) (It_ : I_Tab t) (T : TbR t u th sc rf wi ls le) (Iw : A_Mwidths wi) (Is : A_Mscales sc) (Ils : A_Mlists ls) (Ile : A_Mlengths le) (Irf : Rfb rf) (hc : CompOK fu th sc wi ls le u) {k : Nat} {a0 a1 : Int32} {bi : Nat → Int32} {s : S_Mo} {rd : Nat → Int64} {li ne en be lf tu fo op ki co wd sca lk rp : Nat → Int32} {ba : Nat → Int64} {ea pa : Nat → Int32} {r : A19} {z : S_Mo} (S : WS u z s fo op wd ea pa) (h0 : a0.toInt = (k : Int)) (hk : k < 8) (hm : a1.toInt < 2) (er : Mod_walk fu th sc rf wi ls le va bi a0 a1 s rd li ne en be lf tu fo op ki co wd sca lk rp ba ea pa = some r) : MA r.1 r.2.2.2.2.2.2.2.2.1 r.2.2.2.2.2.2.2.2.2.1 r.2.2.2.2.2.2.2.2.2.2.2.2.1 r.2.2.2.2.2.2.2.2.2.2.2.2.2.2.2.2.2.1 r.2.2.2.2.2.2.2.2.2.2.2.2.2.2.2.2.2.2 ∧ Mo_used r.1 = u ∧ (Mo_many r.1).toInt = (Mo_many s).toInt ∧ 0 ≤ (Mo_fault r.1).toInt ∧ A_Mwidth r.2.2.2.2.2.2.2.2.2.2.2.2.1 ∧ 0 ≤ (Mo_fields r.1).toInt ∧ (Mo_fields r.1).toInt ≤ 100 ∧ KMd r.1 z ∧ (Mo_subset r.1).toInt = (k : Int) ∧ Mo_firstFields r.1 = Mo_firstFields s := by
  obtain ⟨⟨I, a1', a2, a3, a4, a5⟩, hu, hz, hw⟩ := S
  obtain ⟨r', er', hr'⟩ := t_walk2 (z := s) (a0 := a0) (a1 := a1) (va := va) (bi := bi) (rf := rf) (rd := rd) (li := li) (ne := ne) (en := en) (be := be) (lf := lf) (tu := tu) (ki := ki) (co := co) (sca := sca) (lk := lk) (rp := rp) (ba := ba) hf Is Iw Ils Ile I a1' a2 a3 a4 a5 hz (by omega) (by omega) (Or.inl hm) (Or.inl (by omega)) (KM.refl s) (by rw [hu]; exact hc)
  rw [er] at er'
  cases er'
  obtain ⟨⟨Wr, WKr, w3, w4, w5, w6, w7⟩, Kr⟩ := hr'
  have hf' := I_Mo_fields Wr.1
  exact ⟨⟨Wr.1, w3, w4, w5, w6, w7⟩, Kr.1.trans hu, WKr.2.2.2.2, Wr.2.2.2.2.1, w5, hf'.1, hf'.2, ⟨Kr.2.2.2.2.1.trans hw.1, Kr.2.2.2.2.2.1.trans hw.2.1, Kr.2.2.2.2.2.2.1.trans hw.2.2.1, Kr.2.2.2.2.2.2.2.1.trans hw.2.2.2⟩, WKr.2.2.1.trans h0, Kr.2.2.2.2.2.2.2.2⟩
-- what the loop over all subsets leaves, as one tuple
abbrev A24 : Type := A19 × (Nat → Int32) × (Nat → Int32) × (Nat → Int32) × (Nat → Int32) × (Nat → Int64)
set_option maxHeartbeats 8000000 in
theorem pw_out {fu M : Nat} {t : S_Tab} {P : S_Prog} {u : Int32} {th sc rf wi ls le : Nat → Int32} {va : Nat → Int64} (hf : 12000 ≤ fu) (It_ : I_Tab t) (IP : I_Prog P) (T : TbR t u th sc rf wi ls le) (Iw : A_Mwidths wi) (Is : A_Mscales sc) (Ils : A_Mlists ls) (Ile : A_Mlengths le) (Irf : Rfb rf) (hc : CompOK fu th sc wi ls le u) (hSg : Sg (It (Tab_listed t) (zT t) (Prog_descriptors P) (Prog_bodyEnds P) 64) M 128 (128 + zT t 16) 0 (Prog_size P).toInt.toNat) {hb : Nat → Nat} {N8 : Nat} {VAL : Nat → Nat → Int64} {Wr : S_Wri} {x1 : Int32} {ma : Nat → Int32} {ke : KeW} {R : A26} {Q : CO4} {z : S_Mo} (hn : x1.toInt = (N8 : Int)) (h8 : N8 ≤ 8) (V : RwR VAL va) (hG : ∀ j, j < N8 → Gd fu u th sc rf wi ls le va j) : ∀ (n n' kk : Nat) (y : Int32) (W : S_Walk) (Fl : S_Fld) (L : S_Lps) (b : S_Bits) (s : S_Mo) (rd : Nat → Int64) (li ne en be lf tu fo op ki co wd sca lk rp : Nat → Int32) (ba : Nat → Int64) (ea pa : Nat → Int32) (bi fk fw fs : Nat → Int32) (fb : Nat → Int64), y.toInt = (kk : Int) → kk ≤ N8 → WS u z s fo op wd ea pa → WrR hb b s bi → (Mo_many s).toInt ≤ 3200 * (kk : Int) → Wri_takePlain_L10 fu VAL t P Wr x1 n y W Fl L b = some Q → Mod_write_L44 fu th sc rf wi ls le va x1 0 ma ke n' y s rd li ne en be lf tu fo op ki co wd sca lk rp ba ea pa bi fk fw fs fb = some R → ∃ (W' : S_Walk) (Fl' : S_Fld) (L' : S_Lps) (b' : S_Bits) (w : A24), (o_bd (Wri_end Wr b') fun q2 => some (W', Fl', L', q2)) = some Q ∧ ke w.1.1 w.1.2.1 w.1.2.2.1 w.1.2.2.2.1 w.1.2.2.2.2.1 w.1.2.2.2.2.2.1 w.1.2.2.2.2.2.2.1 w.1.2.2.2.2.2.2.2.1 w.1.2.2.2.2.2.2.2.2.1 w.1.2.2.2.2.2.2.2.2.2.1 w.1.2.2.2.2.2.2.2.2.2.2.1 w.1.2.2.2.2.2.2.2.2.2.2.2.1 w.1.2.2.2.2.2.2.2.2.2.2.2.2.1 w.1.2.2.2.2.2.2.2.2.2.2.2.2.2.1 w.1.2.2.2.2.2.2.2.2.2.2.2.2.2.2.1 w.1.2.2.2.2.2.2.2.2.2.2.2.2.2.2.2.1 w.1.2.2.2.2.2.2.2.2.2.2.2.2.2.2.2.2.1 w.1.2.2.2.2.2.2.2.2.2.2.2.2.2.2.2.2.2.1 w.1.2.2.2.2.2.2.2.2.2.2.2.2.2.2.2.2.2.2 w.2.1 w.2.2.1 w.2.2.2.1 w.2.2.2.2.1 w.2.2.2.2.2 = some R ∧ WrR hb b' w.1.1 w.2.1 ∧ Mo_fault w.1.1 = 0 ∧ (Mo_many w.1.1).toInt ≤ 25600 ∧ KMd w.1.1 z
  | 0, n', kk, y, W, Fl, L, b, s, rd, li, ne, en, be, lf, tu, fo, op, ki, co, wd, sca, lk, rp, ba, ea, pa, bi, fk, fw, fs, fb, hy, hk, S, Wb, hm, h1, h2 => by
    rw [Wri_takePlain_L10] at h1
    cases h1
  | n + 1, 0, kk, y, W, Fl, L, b, s, rd, li, ne, en, be, lf, tu, fo, op, ki, co, wd, sca, lk, rp, ba, ea, pa, bi, fk, fw, fs, fb, hy, hk, S, Wb, hm, h1, h2 => by
    rw [Mod_write_L44] at h2
    cases h2
  | n + 1, n' + 1, kk, y, W, Fl, L, b, s, rd, li, ne, en, be, lf, tu, fo, op, ki, co, wd, sca, lk, rp, ba, ea, pa, bi, fk, fw, fs, fb, hy, hk, S, Wb, hm, h1, h2 => by
    have k1 : (1 : Int32).toInt = 1 := by decide
    have k0 : (0 : Int32).toInt = 0 := by decide
    rw [Wri_takePlain_L10] at h1
    rw [Mod_write_L44] at h2
    by_cases c : kk = N8
    · have c1 : x1 ≤ y := by rw [i_le]; omega
      rw [if_pos c1] at h1 h2
      exact ⟨W, Fl, L, b, ((s, rd, li, ne, en, be, lf, tu, fo, op, ki, co, wd, sca, lk, rp, ba, ea, pa), bi, fk, fw, fs, fb), h1, h2, Wb, S.2.2.1, by show (Mo_many s).toInt ≤ 25600; omega, S.2.2.2⟩
    · have c1 : ¬ x1 ≤ y := by rw [i_le]; omega
      have ny : y.toNatClampNeg = kk := by
        have := i_nat (a := y) (by omega)
        omega
      rw [if_neg c1, ny] at h1
      have h1 := oe_gd h1
      obtain ⟨q4, e4, h1⟩ := oi_bd h1
      rw [if_neg c1, if_pos S.2.2.1] at h2
      obtain ⟨r, er, h2⟩ := oi_bd h2
      obtain ⟨r1, r2, r3, r4, r5, r6, r7, rK, _, _⟩ := walk_ok hf It_ T Iw Is Ils Ile Irf hc S hy (by omega) (by decide) er
      obtain ⟨g1, g2⟩ := hG kk (by omega) y bi s rd li ne en be lf tu fo op ki co wd sca lk rp ba ea pa r S.1 S.2.1 S.2.2.1 hy er
      obtain ⟨W', Fl', L', o1, o2, o3⟩ := over_both (z0 := s) (P := P) (row := VAL kk) (W := W) (Fl := Fl) (L := L) (k := kk) hf It_ IP (by rw [S.2.1]; exact T) Iw Is Ils Ile Irf (by rw [S.2.1]; exact hc) hSg S.1 (KM.refl s) S.2.2.1 hy (by omega) (Or.inr ⟨k1, g1⟩) (fun j hj => V kk j (by omega) hj) er
      rw [o1] at e4
      cases e4
      obtain ⟨N, hN⟩ : ∃ N : Nat, (Mo_fields r.1).toInt = (N : Int) := ⟨(Mo_fields r.1).toInt.toNat, by omega⟩
      obtain ⟨d1, d2, d3, d4⟩ := o2
      have FO : FOK Fl' (VAL kk) N r.2.2.2.2.2.2.2.2.2.2.1 r.2.2.2.2.2.2.2.2.2.2.2.2.1 r.2.2.2.2.2.2.2.2.2.2.2.2.2.2.2.2.1 := by
        refine ⟨by rw [d1]; exact hN, by omega, fun i hi => ?_⟩
        obtain ⟨y1, y2, y3, y4, y5, y6, y7, y8, y9, y10⟩ := d4 i (by omega)
        obtain ⟨z1, z2⟩ := g2 i (by omega)
        have wr := A_Mwidth_at r5 i
        rw [← V kk i (by omega) (by omega)] at z1 z2
        exact ⟨y1, y3, y5, y8, z1, z2, y10, wr.2⟩
      have y1 : (y + 1).toInt = ((kk + 1 : Nat) : Int) := by
        rw [i_add (a := y) (b := 1) (by omega) (by omega), hy, k1]
        rfl
      have go : ∀ (sF : S_Mo) (fk' fw' fs' : Nat → Int32) (fb' : Nat → Int64), (∃ z, sF = Mo_set_firstFields r.1 z ∧ 0 ≤ z.toInt ∧ z.toInt ≤ 100) → Mod_write_j70 fu th sc rf wi ls le va (fun v0 v1 v2 v3 v4 v5 v6 v7 v8 v9 v10 v11 v12 v13 v14 v15 v16 v17 v18 v19 v20 v21 v22 v23 v24 => Mod_write_L44 fu th sc rf wi ls le va x1 0 ma ke n' v0 v1 v2 v3 v4 v5 v6 v7 v8 v9 v10 v11 v12 v13 v14 v15 v16 v17 v18 v19 v20 v21 v22 v23 v24) ke x1 0 ma y sF r.2.1 r.2.2.1 r.2.2.2.1 r.2.2.2.2.1 r.2.2.2.2.2.1 r.2.2.2.2.2.2.1 r.2.2.2.2.2.2.2.1 r.2.2.2.2.2.2.2.2.1 r.2.2.2.2.2.2.2.2.2.1 r.2.2.2.2.2.2.2.2.2.2.1 r.2.2.2.2.2.2.2.2.2.2.2.1 r.2.2.2.2.2.2.2.2.2.2.2.2.1 r.2.2.2.2.2.2.2.2.2.2.2.2.2.1 r.2.2.2.2.2.2.2.2.2.2.2.2.2.2.1 r.2.2.2.2.2.2.2.2.2.2.2.2.2.2.2.1 r.2.2.2.2.2.2.2.2.2.2.2.2.2.2.2.2.1 r.2.2.2.2.2.2.2.2.2.2.2.2.2.2.2.2.2.1 r.2.2.2.2.2.2.2.2.2.2.2.2.2.2.2.2.2.2 bi fk' fw' fs' fb' = some R → ∃ (W' : S_Walk) (Fl' : S_Fld) (L' : S_Lps) (b' : S_Bits) (w : A24), (o_bd (Wri_end Wr b') fun q2 => some (W', Fl', L', q2)) = some Q ∧ ke w.1.1 w.1.2.1 w.1.2.2.1 w.1.2.2.2.1 w.1.2.2.2.2.1 w.1.2.2.2.2.2.1 w.1.2.2.2.2.2.2.1 w.1.2.2.2.2.2.2.2.1 w.1.2.2.2.2.2.2.2.2.1 w.1.2.2.2.2.2.2.2.2.2.1 w.1.2.2.2.2.2.2.2.2.2.2.1 w.1.2.2.2.2.2.2.2.2.2.2.2.1 w.1.2.2.2.2.2.2.2.2.2.2.2.2.1 w.1.2.2.2.2.2.2.2.2.2.2.2.2.2.1 w.1.2.2.2.2.2.2.2.2.2.2.2.2.2.2.1 w.1.2.2.2.2.2.2.2.2.2.2.2.2.2.2.2.1 w.1.2.2.2.2.2.2.2.2.2.2.2.2.2.2.2.2.1 w.1.2.2.2.2.2.2.2.2.2.2.2.2.2.2.2.2.2.1 w.1.2.2.2.2.2.2.2.2.2.2.2.2.2.2.2.2.2.2 w.2.1 w.2.2.1 w.2.2.2.1 w.2.2.2.2.1 w.2.2.2.2.2 = some R ∧ WrR hb b' w.1.1 w.2.1 ∧ Mo_fault w.1.1 = 0 ∧ (Mo_many w.1.1).toInt ≤ 25600 ∧ KMd w.1.1 z := by
        intro sF fk' fw' fs' fb' hsF g
        obtain ⟨zF, hzF, zF0, zF1⟩ := hsF
        unfold Mod_write_j70 at g
        have Wb2 : WrR hb b sF bi := by
          obtain ⟨m, m1, m2⟩ := Wb
          refine ⟨m, ?_, m2⟩
          rw [hzF]
          show (Mo_many r.1).toInt = _
          rw [r3]
          exact m1
        obtain ⟨b', s', bi', p1, p2, p3, ⟨zz, p4⟩, p5⟩ := pw_in (N := N) hf hy (by omega) FO (fun j hj => V kk j (by omega) hj) fu fu 0 0 b sF bi (by decide) (by omega) Wb2 (by rw [hzF]; show (Mo_many r.1).toInt ≤ _; rw [r3]; clear y1; omega) (by rw [hzF]; exact hN) (by rw [hzF]; exact g1) h1 g
        obtain ⟨I, i1, i2, i3, i4, i5⟩ := r1
        have S' : WS u z s' r.2.2.2.2.2.2.2.2.1 r.2.2.2.2.2.2.2.2.2.1 r.2.2.2.2.2.2.2.2.2.2.2.2.1 r.2.2.2.2.2.2.2.2.2.2.2.2.2.2.2.2.2.1 r.2.2.2.2.2.2.2.2.2.2.2.2.2.2.2.2.2.2 := by
          have mr : 0 ≤ zz.toInt ∧ zz.toInt ≤ 65535 := by
            have hz2 : Mo_many s' = zz := by rw [p4]
            obtain ⟨m, m1, _⟩ := p3
            rw [hz2] at m1 p5
            clear y1
            omega
          rw [p4, hzF]
          exact ⟨⟨I_Mo_set_many (I_Mo_set_firstFields I ⟨zF0, zF1⟩) mr, i1, i2, i3, i4, i5⟩, r2, g1, rK⟩
        unfold Wri_takePlain_j78 at p1
        unfold Mod_write_j128 at p2
        exact pw_out hf It_ IP T Iw Is Ils Ile Irf hc hSg hn h8 V hG n n' (kk + 1) (y + 1) W' Fl' L' b' s' _ _ _ _ _ _ _ _ _ _ _ _ _ _ _ _ _ _ bi' fk' fw' fs' fb' y1 (by clear y1; omega) S' p3 p5 p1 p2
      by_cases cy : y = 0
      · rw [if_pos cy] at h2
        obtain ⟨q8, e8, h2⟩ := oi_bd h2
        obtain ⟨q8', e8', k8, _⟩ := t_keepFirst (fu := fu) (ki := r.2.2.2.2.2.2.2.2.2.2.1) (wd := r.2.2.2.2.2.2.2.2.2.2.2.2.1) (sc := r.2.2.2.2.2.2.2.2.2.2.2.2.2.1) (ba := r.2.2.2.2.2.2.2.2.2.2.2.2.2.2.2.2.1) (fk := fk) (fw := fw) (fs := fs) (fb := fb) hf r1.1
        rw [e8] at e8'
        cases e8'
        exact go q8.1 _ _ _ _ ⟨Mo_fields r.1, k8, r6, r7⟩ h2
      · rw [if_neg cy] at h2
        have ff := I_Mo_firstFields r1.1
        exact go r.1 _ _ _ _ ⟨Mo_firstFields r.1, rfl, ff.1, ff.2⟩ h2

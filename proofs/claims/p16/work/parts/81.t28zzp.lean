-- writing PACKED: all fields
def FPK (Fl : S_Fld) (VAL : Nat → Nat → Int64) (N N8 : Nat) (ki wd : Nat → Int32) (ba : Nat → Int64) : Prop := (Fld_count Fl).toInt = (N : Int) ∧ N ≤ 100 ∧ ∀ i : Nat, i < N → FV8 Fl VAL i N8 ki wd ba
theorem pp_L {hb : Nat → Nat} {fu N N8 : Nat} {VAL : Nat → Nat → Int64} {t : S_Tab} {P : S_Prog} {Wr : S_Wri} {x1 x2 : Int32} {W : S_Walk} {Fl : S_Fld} {L : S_Lps} {th sc rf wi ls le : Nat → Int32} {va : Nat → Int64} {rd : Nat → Int64} {li ne en be lf tu fo op ki co wd sca lk rp : Nat → Int32} {ba : Nat → Int64} {ea pa : Nat → Int32} {ma fk fw fs : Nat → Int32} {fb : Nat → Int64} {k165 : S_Mo → (Nat → Int32) → Option A26} {R : A26} {Q : CO4} (hf : 12000 ≤ fu) (hn : x1.toInt = (N8 : Int)) (h8 : N8 ≤ 8) (V : RwR VAL va) (F : FPK Fl VAL N N8 ki wd ba) : ∀ (n n' i : Nat) (y : Int32) (b : S_Bits) (s : S_Mo) (bi : Nat → Int32), y.toInt = (i : Int) → i ≤ N → WrR hb b s bi → (Mo_many s).toInt ≤ 294 * (i : Int) → (Mo_fields s).toInt = (N : Int) → Mo_fault s = 0 → Wri_takePacked_L17 fu VAL t P Wr x1 W Fl L n y b = some Q → Mod_write_L165 fu th sc rf wi ls le va x1 x2 rd li ne en be lf tu fo op ki co wd sca lk rp ba ea pa ma fk fw fs fb k165 n' y s bi = some R → ∃ (b' : S_Bits) (s' : S_Mo) (bi' : Nat → Int32), (o_bd (Wri_end Wr b') fun q4 => some (W, Fl, L, q4)) = some Q ∧ k165 s' bi' = some R ∧ WrR hb b' s' bi' ∧ (∃ z, s' = Mo_set_many s z) ∧ (Mo_many s').toInt ≤ 29400
  | 0, n', i, y, b, s, bi, hy, hi, Wb, hm, hN, hz, h1, h2 => by
    rw [Wri_takePacked_L17] at h1
    cases h1
  | n + 1, 0, i, y, b, s, bi, hy, hi, Wb, hm, hN, hz, h1, h2 => by
    rw [Mod_write_L165] at h2
    cases h2
  | n + 1, n' + 1, i, y, b, s, bi, hy, hi, Wb, hm, hN, hz, h1, h2 => by
    have k1 : (1 : Int32).toInt = 1 := by decide
    have F' := F
    obtain ⟨F1, F2, F3⟩ := F'
    rw [Wri_takePacked_L17] at h1
    rw [Mod_write_L165] at h2
    by_cases c : i = N
    · have c1 : Fld_count Fl ≤ y := by rw [i_le]; omega
      have c2 : Mo_fields s ≤ y := by rw [i_le]; omega
      rw [if_pos c1] at h1
      rw [if_pos c2] at h2
      exact ⟨b, s, bi, h1, h2, Wb, ⟨Mo_many s, rfl⟩, by omega⟩
    · have c1 : ¬ Fld_count Fl ≤ y := by rw [i_le]; omega
      have c2 : ¬ Mo_fields s ≤ y := by rw [i_le]; omega
      rw [if_neg c1] at h1
      rw [if_neg c2, if_pos hz] at h2
      obtain ⟨b1, e1, h1⟩ := oi_bd h1
      obtain ⟨q, e2, h2⟩ := oi_bd h2
      obtain ⟨l1, ⟨z, l2⟩, l3⟩ := apk_both hf hy (by omega) hn h8 V (F3 i (by omega)) Wb (by omega) e1 e2
      have y1 : (y + 1).toInt = ((i + 1 : Nat) : Int) := by
        rw [i_add (a := y) (b := 1) (by omega) (by omega), hy, k1]
        rfl
      obtain ⟨b', s', bi', o1, o2, o3, ⟨z', o4⟩, o5⟩ := pp_L hf hn h8 V F n n' (i + 1) (y + 1) b1 q.1 q.2 y1 (by clear y1; omega) l1 (by clear y1; omega) (by rw [l2]; exact hN) (by rw [l2]; exact hz) h1 h2
      exact ⟨b', s', bi', o1, o2, o3, ⟨z', by rw [o4, l2]⟩, o5⟩
-- the head
def hbs (f n : Int32) (i : Nat) : Nat := if i < 8 then ((f.toInt / ((2 ^ (7 - i) : Nat) : Int)) % 2).toNat else ((n.toInt / ((2 ^ (15 - i) : Nat) : Int)) % 2).toNat
set_option maxHeartbeats 8000000 in
theorem wb_begin {fu : Nat} {Wr : S_Wri} {f n : Int32} {b b' : S_Bits} {s : S_Mo} {bi : Nat → Int32} (hf : 12000 ≤ fu) (e : Wri_begin fu Wr f n b = some b') (hm : (Mo_many s).toInt = 0) : WrR (hbs f n) b' s bi := by
  unfold Wri_begin at e
  obtain ⟨q1, e1, e⟩ := oi_bd e
  obtain ⟨q2, e2, e⟩ := oi_bd e
  obtain ⟨q3, e3, e⟩ := oi_bd e
  obtain ⟨q4, e4, e⟩ := oi_bd e
  have ee : q4 = b' := Option.some.inj e
  unfold Bits_empty at e1
  obtain ⟨g, eg, hg⟩ := yy_fillI (fu := fu) (m := 3679) (v := 0) (f := Bits_bytes b) hf (by decide)
  rw [bd_s eg] at e1
  have e1 : some (Bits_set_length (Bits_set_bytes b g) 0) = some q1 := e1
  have ev : Bits_set_length (Bits_set_bytes b g) 0 = q1 := Option.some.inj e1
  have I0 : InvB (Bits_bytes q1) 0 3679 := by
    rw [← ev]
    show InvB g 0 3679
    refine ⟨fun j hj => by rw [hg j hj]; decide, fun _ => ?_, fun j _ hj => hg j hj⟩
    have z : g (0 / 8) = 0 := hg 0 (by decide)
    rw [z]
    decide
  have l0 : (Bits_length q1).toInt = ((0 : Nat) : Int) := by
    rw [← ev]
    show (0 : Int32).toInt = _
    decide
  obtain ⟨b2, f1, f2, f3, f4, f5⟩ := add_L (fu := fu) (c := 3679) (v := f.toInt64) (by decide) 8 fu 0 (8 - 1) q1 (by decide) (by omega) (by decide) l0 (by decide) I0
  have f1 : Bits_add fu 3679 f.toInt64 8 q1 = some b2 := f1
  have x2 : q2 = b2 := Option.some.inj (e2.symm.trans f1)
  obtain ⟨b3, g1, g2, g3, g4, g5⟩ := add_L (fu := fu) (c := 3679) (v := n.toInt64) (by decide) 8 fu 8 (8 - 1) b2 (by decide) (by omega) (by decide) f2 (by decide) f3
  have g1 : Bits_add fu 3679 n.toInt64 8 b2 = some b3 := g1
  rw [x2] at e3
  have x3 : q3 = b3 := Option.some.inj (e3.symm.trans g1)
  obtain ⟨b4, j1, j2, j3, j4, j5⟩ := add_L (fu := fu) (c := 3679) (v := 0) (by decide) 16 fu 16 (16 - 1) b3 (by decide) (by omega) (by decide) g2 (by decide) g3
  have j1 : Bits_add fu 3679 0 16 b3 = some b4 := j1
  rw [x3] at e4
  have x4 : q4 = b4 := Option.some.inj (e4.symm.trans j1)
  rw [← ee, x4]
  refine ⟨0, hm, j2, j3, fun k hk => absurd hk (by omega), fun i hi => ?_⟩
  unfold hbs
  by_cases c : i < 8
  · rw [if_pos c]
    have a := f5 i c
    have a0 : 0 + i = i := by omega
    have a1 : 8 - 1 - i = 7 - i := by omega
    rw [a0, a1, Int32.toInt_toInt64] at a
    rw [← a]
    have h4 := j4 i (by omega)
    have h5 := g4 i (by omega)
    omega
  · rw [if_neg c]
    have a := g5 (i - 8) (by omega)
    have a0 : 8 + (i - 8) = i := by omega
    have a1 : 8 - 1 - (i - 8) = 15 - i := by omega
    rw [a0, a1, Int32.toInt_toInt64] at a
    rw [← a]
    have h4 := j4 i (by omega)
    omega
theorem we_end {Wr : S_Wri} {b b' : S_Bits} {m : Nat} (e : Wri_end Wr b = some b') (hm : m ≤ 29400) (hl : (Bits_length b).toInt = ((32 + m : Nat) : Int)) : Bits_length b' = Bits_length b ∧ (Bits_bytes b' 2).toInt = ((m / 256 : Nat) : Int) ∧ (Bits_bytes b' 3).toInt = ((m % 256 : Nat) : Int) ∧ ∀ j, j ≠ 2 → j ≠ 3 → Bits_bytes b' j = Bits_bytes b j := by
  have n2 : (2 : Int32).toNatClampNeg = 2 := by decide
  have n3 : (3 : Int32).toNatClampNeg = 3 := by decide
  have k32 : (32 : Int32).toInt = 32 := by decide
  have k256 : (256 : Int32).toInt = 256 := by decide
  have d1 : (Bits_length b - 32).toInt = (m : Int) := by
    rw [i_sub (a := Bits_length b) (b := 32) (by omega) (by omega), hl, k32]
    omega
  unfold Wri_end o_lt at e
  dsimp only at e
  have e := oe_gd (oe_gd e)
  rw [n2, n3] at e
  obtain ⟨d, hd⟩ : ∃ d : Int32, d = Bits_length b - 32 := ⟨_, rfl⟩
  rw [← hd] at e d1
  have d2 : (d / 256).toInt = (m : Int) / 256 := by
    rw [i_divk d 256 256 k256 (by decide) (by omega), d1]
  have d3 : (d / 256 * 256).toInt = (m : Int) / 256 * 256 := by
    rw [i_mulr (d / 256) 256 256 k256 (by rw [d2]; omega) (by rw [d2]; omega), d2]
  have d4 : (d - d / 256 * 256).toInt = (m : Int) - (m : Int) / 256 * 256 := by
    rw [i_sub (a := d) (b := d / 256 * 256) (by rw [d1, d3]; omega) (by rw [d1, d3]; omega), d1, d3]
  have ee := Option.some.inj e
  rw [← ee]
  refine ⟨rfl, ?_, ?_, fun j h2 h3 => ?_⟩
  · show (upd (upd (Bits_bytes b) 2 (d / 256)) 3 (d - d / 256 * 256) 2).toInt = _
    rw [upd_ne (show 2 ≠ 3 by decide), upd_at, d2]
    omega
  · show (upd (upd (Bits_bytes b) 2 (d / 256)) 3 (d - d / 256 * 256) 3).toInt = _
    rw [upd_at, d4]
    omega
  · show upd (upd (Bits_bytes b) 2 (d / 256)) 3 (d - d / 256 * 256) j = _
    rw [upd_ne h3, upd_ne h2]
-- what was made
theorem made_L {fu m : Nat} {th sc rf wi ls le : Nat → Int32} {va : Nat → Int64} {x1 x2 : Int32} {s : S_Mo} {rd : Nat → Int64} {li ne en be lf tu fo op ki co wd sca lk rp : Nat → Int32} {ba : Nat → Int64} {ea pa : Nat → Int32} {bi fk fw fs : Nat → Int32} {fb : Nat → Int64} {ke : (Nat → Int32) → Option A26} {R : A26} (hm : (Mo_many s).toInt = (m : Int)) (h4 : m ≤ 40000) (hb : ∀ k, k < m → (bi k).toInt = 0 ∨ (bi k).toInt = 1) : ∀ (n k : Nat) (x : Int32) (ma : Nat → Int32), x.toInt = (k : Int) → k ≤ m → (∀ j, j < k → ma j = bi j) → Mod_write_L219 fu th sc rf wi ls le va x1 x2 s rd li ne en be lf tu fo op ki co wd sca lk rp ba ea pa bi fk fw fs fb ke n x ma = some R → ∃ ma' : Nat → Int32, ke ma' = some R ∧ ∀ j, j < m → ma' j = bi j
  | 0, k, x, ma, _, _, _, h => by
    rw [Mod_write_L219] at h
    cases h
  | n + 1, k, x, ma, hx, hk, hj, h => by
    have k1 : (1 : Int32).toInt = 1 := by decide
    have k0 : (0 : Int32).toInt = 0 := by decide
    rw [Mod_write_L219] at h
    by_cases c : k = m
    · have c1 : Mo_many s ≤ x := by rw [i_le]; omega
      rw [if_pos c1] at h
      exact ⟨ma, h, fun j h' => hj j (by omega)⟩
    · have c1 : ¬ Mo_many s ≤ x := by rw [i_le]; omega
      have nx : x.toNatClampNeg = k := by
        have := i_nat (a := x) (by omega)
        omega
      rw [if_neg c1] at h
      have h := oe_gd (oe_gd h)
      unfold o_lt at h
      dsimp only at h
      have en : vp_nar .boolean (bi k) = bi k := by
        rcases hb k (by omega) with q | q
        · have e : bi k = 0 := i_eq.mpr (by rw [q, k0])
          rw [e]
          decide
        · have e : bi k = 1 := i_eq.mpr (by rw [q, k1])
          rw [e]
          decide
      rw [nx, en] at h
      have x1' : (x + 1).toInt = ((k + 1 : Nat) : Int) := by
        rw [i_add (a := x) (b := 1) (by omega) (by omega), hx, k1]
        rfl
      refine made_L hm h4 hb n (k + 1) (x + 1) (upd ma k (bi k)) x1' (by clear x1'; omega) (fun j h' => ?_) h
      by_cases q : j = k
      · rw [q, upd_at]
      · rw [upd_ne q]
        exact hj j (by clear x1'; omega)

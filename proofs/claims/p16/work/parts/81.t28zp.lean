-- reading PLAIN: one field
def RdR (tp : S_Bits) (bi : Nat → Int32) (Re : S_Rea) (s : S_Mo) (RR : Nat → Nat → Int64) (rd : Nat → Int64) : Prop := (Rea_at Re).toInt = 32 + (Mo_at s).toInt ∧ (Rea_end Re).toInt = 32 + (Mo_many s).toInt ∧ 0 ≤ (Mo_at s).toInt ∧ (Mo_at s).toInt ≤ (Mo_many s).toInt ∧ (Mo_many s).toInt ≤ 40000 ∧ BiR tp bi (Mo_many s).toInt ∧ (Rea_subsets Re).toInt = (Mo_subsets s).toInt ∧ ∀ k j : Nat, k < 8 → j < 100 → RR k j = rd (100 * k + j)
theorem RdR_KA {tp : S_Bits} {bi : Nat → Int32} {Re : S_Rea} {s s' : S_Mo} {RR : Nat → Nat → Int64} {rd : Nat → Int64} (h : KA s' s) (R : RdR tp bi Re s RR rd) : RdR tp bi Re s' RR rd := by
  obtain ⟨h1, h2, h3, h4, h5⟩ := h
  unfold RdR
  rw [h1, h2, h5]
  exact R
theorem idx_k {b f : Int32} {k i : Nat} (hs : b.toInt = (k : Int)) (hk : k < 8) (hf : f.toInt = (i : Int)) (hi : i < 100) : (100 * b + f).toNatClampNeg = 100 * k + i ∧ o_in (100 * b + f) 800 = true := by
  have m1 := i_mull 100 b 100 (by decide) (by omega) (by omega)
  have m2 : (100 * b + f).toInt = 100 * (k : Int) + (i : Int) := by
    rw [i_add (a := 100 * b) (b := f) (by rw [m1, hs, hf]; clear m1; omega) (by rw [m1, hs, hf]; clear m1; omega), m1, hs, hf]
  refine ⟨?_, i_in.mpr (by rw [m2]; clear m1 m2; omega)⟩
  have := i_nat (a := 100 * b + f) (by rw [m2]; clear m1 m2; omega)
  rw [m2] at this
  clear m1 m2
  omega
theorem rows_up {RR : Nat → Nat → Int64} {rd : Nat → Int64} {k i : Nat} {u : Int64} (hi : i < 100) (h : ∀ a j : Nat, a < 8 → j < 100 → RR a j = rd (100 * a + j)) : ∀ a j : Nat, a < 8 → j < 100 → gr_set RR k (vp_updL (RR k) i u) a j = vp_updL rd (100 * k + i) u (100 * a + j) := by
  intro a j ha hj
  show (if a = k then vp_updL (RR k) i u else RR a) j = (if 100 * a + j = 100 * k + i then u else rd (100 * a + j))
  by_cases c : a = k
  · rw [if_pos c]
    show (if j = i then u else RR k j) = _
    by_cases cj : j = i
    · rw [if_pos cj, if_pos (by omega)]
    · rw [if_neg cj, if_neg (by omega), ← c]
      exact h a j ha hj
  · rw [if_neg c, if_neg (by omega)]
    exact h a j ha hj
theorem pl_val {fu i k : Nat} {tp : S_Bits} {bi : Nat → Int32} {Re : S_Rea} {s s2 : S_Mo} {RR : Nat → Nat → Int64} {va rd rd2 : Nat → Int64} {Fl : S_Fld} {ki wd : Nat → Int32} {ba : Nat → Int64} {x : Int32} {v : Int64} (hf : 12000 ≤ fu) (hm : (Mo_mode s).toInt = 2) (hsb : (Mo_subset s).toInt = (k : Int)) (hk : k < 8) (R : RdR tp bi Re s RR rd) (hx : x.toInt = (i : Int)) (hi : i < 100) (K1 : Fld_kinds Fl i = ki i) (K2 : Fld_widths Fl i = wd i) (K3 : Fld_references Fl i = ba i) (K4 : ki i = 3 → ba i = 0) (hw : 0 ≤ (wd i).toInt ∧ (wd i).toInt ≤ 32) (h : Mod_valueOf fu va ki wd ba bi x s rd = some (v, s2, rd2)) : (¬ Mo_fault s2 = 0 ∧ Rea_takePlainValue fu 100 Fl tp x Re (RR k) = some (0, Re, RR k)) ∨ (∃ (Re' : S_Rea) (z : Int32), s2 = Mo_set_at s z ∧ Rea_takePlainValue fu 100 Fl tp x Re (RR k) = some (1, Re', vp_updL (RR k) i v) ∧ RdR tp bi Re' s2 (gr_set RR k (vp_updL (RR k) i v)) rd2 ∧ Rea_fault Re' = Rea_fault Re ∧ Rea_subsets Re' = Rea_subsets Re) := by
  have k2 : (2 : Int32).toInt = 2 := by decide
  have k3 : (3 : Int32).toInt = 3 := by decide
  obtain ⟨q1, q2, q3, q4, q5, q6, q7, q8⟩ := R
  obtain ⟨p, hp⟩ : ∃ p : Nat, (Mo_at s).toInt = (p : Int) := ⟨(Mo_at s).toInt.toNat, by omega⟩
  have c2 : (2 : Int32) ≤ Mo_mode s := by rw [i_le]; omega
  have c3 : ¬ Mo_mode s = 3 := by rw [i_eq]; omega
  have g : o_in x 100 = true := i_in.mpr (by omega)
  have g1 : o_in x 101 = true := i_in.mpr (by omega)
  have n : x.toNatClampNeg = i := by
    have := i_nat (a := x) (by omega)
    omega
  have ed : (Rea_end Re - Rea_at Re).toInt = (Mo_many s).toInt - (p : Int) := by
    rw [i_sub (a := Rea_end Re) (b := Rea_at Re) (by omega) (by omega), q1, q2]
    omega
  unfold Mod_valueOf at h
  rw [if_pos c2, if_neg c3, gd_t g1, n] at h
  by_cases cw : (p : Int) + (wd i).toInt ≤ (Mo_many s).toInt
  · right
    obtain ⟨v0, z, t1, t2, t3, t4⟩ := take_both (f := x) hf q5 q6 hp (by rw [q1, hp]) ⟨hw.1, by omega⟩ cw
    obtain ⟨u, u1, u2⟩ := mean_both (s := Mo_set_at s z) (v := v0) hx hi K1 K2 K3 K4
    rw [bd_s t1] at h
    dsimp only at h
    rw [bd_s u2] at h
    have h := oe_gd h
    unfold o_lt at h
    have h := oe_gd h
    have ix := idx_k hsb hk hx hi
    have h : some (vp_updL rd (100 * Mo_subset s + x).toNatClampNeg u (100 * Mo_subset s + x).toNatClampNeg, Mo_set_at s z, vp_updL rd (100 * Mo_subset s + x).toNatClampNeg u) = some (v, s2, rd2) := h
    rw [ix.1, updL_at] at h
    cases h
    have cl : Fld_widths Fl i ≤ Rea_end Re - Rea_at Re := by
      rw [i_le, ed, K2]
      clear ed t4
      omega
    refine ⟨Rea_set_at Re (Rea_at Re + wd i), z, rfl, ?_, ⟨?_, q2, ?_, ?_, q5, q6, q7, rows_up hi q8⟩, rfl, rfl⟩
    · unfold Rea_takePlainValue
      rw [gd_t g, n, if_pos cl, K2, bd_s t3, bd_s u1, gd_t g]
      rfl
    · show (Rea_at Re + wd i).toInt = 32 + z.toInt
      rw [t4, t2]
    · show 0 ≤ z.toInt
      rw [t2]
      clear ed t4
      omega
    · show z.toInt ≤ (Mo_many s).toInt
      rw [t2]
      exact cw
  · left
    obtain ⟨⟨v0, s0⟩, e0, h⟩ := oi_bd h
    have sh := take_short hp q5 (by clear ed; omega) ⟨hw.1, by clear ed; omega⟩ cw e0
    dsimp only at h
    obtain ⟨u, _, h⟩ := oi_bd h
    have h := oe_gd h
    unfold o_lt at h
    have h := oe_gd h
    cases h
    have cl : ¬ Fld_widths Fl i ≤ Rea_end Re - Rea_at Re := by
      rw [i_le, ed, K2]
      clear ed
      omega
    refine ⟨sh.1, ?_⟩
    unfold Rea_takePlainValue
    rw [gd_t g, n, if_neg cl]
-- reading PLAIN: the walk over one subset
abbrev RO : Type := S_Walk × S_Fld × S_Lps × S_Rea × (Nat → Nat → Int64)
def EndP (c : Cst) (tp : S_Bits) (W : S_Walk) (Fl : S_Fld) (Re : S_Rea) (RR : Nat → Nat → Int64) : Prop := FdE Fl c.r ∧ ((Walk_fault W = 0 ∧ Mo_fault c.r.1 = 0 ∧ RdR tp c.bi Re c.r.1 RR c.r.2.1) ∨ (¬ Walk_fault W = 0 ∧ ¬ Mo_fault c.r.1 = 0))
theorem pl_f {fu m : Nat} {t : S_Tab} {P : S_Prog} {tp : S_Bits} {xk x : Int32} {ke : S_Walk → S_Fld → S_Lps → S_Rea → (Nat → Nat → Int64) → Option RO} {W : S_Walk} {Fl : S_Fld} {L : S_Lps} {Re : S_Rea} {RR : Nat → Nat → Int64} (hf : 12000 ≤ fu) (hz : ¬ Walk_fault W = 0) : Rea_takePlain_L23 fu t P tp xk ke (m + 1) x W Fl L Re RR = ke W Fl L Re RR := by
  have e := (over_f (nR := 0) (m := 0) (row := fun _ => 0) (x := 0) (t := t) (P := P) (Fl := Fl) (L := L) hf hz).1
  rw [Rea_takePlain_L23, bd_s e, if_pos rfl]
theorem pl_L {c : Cst} {tp : S_Bits} {k : Nat} {xk : Int32} {ke : S_Walk → S_Fld → S_Lps → S_Rea → (Nat → Nat → Int64) → Option RO} (ok : Cok c) (hmd : (Mo_mode c.z).toInt = 2) (hsb : (Mo_subset c.z).toInt = (k : Int)) (hk : k < 8) (hxk : xk.toInt = (k : Int)) : ∀ (m i n : Nat) (x : Int32) (W : S_Walk) (Fl : S_Fld) (L : S_Lps) (s : S_Mo) (rd : Nat → Int64) (Re : S_Rea) (RR : Nat → Nat → Int64), SY c n W Fl L s rd → RdR tp c.bi Re s RR rd → x.toInt = (i : Int) → (Fld_count Fl).toInt = (i : Int) → i ≤ 100 → 102 ≤ m + i → ∃ (W' : S_Walk) (Fl' : S_Fld) (L' : S_Lps) (Re' : S_Rea) (RR' : Nat → Nat → Int64), Rea_takePlain_L23 c.fu c.t c.P tp xk ke m x W Fl L Re RR = ke W' Fl' L' Re' RR' ∧ Rea_fault Re' = Rea_fault Re ∧ Rea_subsets Re' = Rea_subsets Re ∧ EndP c tp W' Fl' Re' RR'
  | 0, i, n, x, W, Fl, L, s, rd, Re, RR, S, R, hx, hc, h100, hm => absurd hm (by omega)
  | m + 1, i, n, x, W, Fl, L, s, rd, Re, RR, S, R, hx, hc, h100, hm => by
    have k1 : (1 : Int32).toInt = 1 := by decide
    have kh : (100 : Int32).toInt = 100 := by decide
    obtain ⟨b, W1, Fl1, L1, eA, hA⟩ := ADV ok S
    have eA : Walk_advance c.fu c.t c.P W Fl L = some (b, W1, Fl1, L1) := eA
    rcases hA with ⟨hb, hcn, s1, n1, hKA, hFE⟩ | ⟨hb, hFl, hE⟩
    · obtain ⟨hi, hc1, a0, a1, a2, a3, a4, a5, rep, tu, ki, co, wd, sca, lk, rp, ba, q, Fl0, v1, v3, v4, v5, v6, v7, v8, v10, v11, v12, v13⟩ := FE_i hc h100 hcn hFE
      have nb : ¬ b = 0 := by rw [hb]; decide
      have nh : ¬ (100 : Int32) ≤ x := by rw [i_le]; omega
      have gx : o_in x 100 = true := i_in.mpr (by omega)
      have gk : o_in xk 8 = true := i_in.mpr (by omega)
      have nk : xk.toNatClampNeg = k := by
        have := i_nat (a := xk) (by omega)
        omega
      have nx : x.toNatClampNeg = i := by
        have := i_nat (a := x) (by omega)
        omega
      rw [Rea_takePlain_L23, bd_s eA, if_neg nb, if_neg nh, gd_t gk, nk]
      dsimp only
      obtain ⟨rep', v, s2, rd2, e1, e2, e3, e4, e5⟩ := come_inv v3 v1 hi v7
      have hmS : (Mo_mode s).toInt = (Mo_mode c.z).toInt ∧ (Mo_subset s).toInt = (Mo_subset c.z).toInt := by
        obtain ⟨_, _, _, _, _, _, _, _, _, _, _, _, _, _, _, _, _, _, _, _, _, _, K, _⟩ := S
        exact ⟨K.2.1, K.2.2.1⟩
      have mm : (Mo_mode s1).toInt = 2 := by rw [hKA.2.2.1, hmS.1]; exact hmd
      have ms : (Mo_subset s1).toInt = (k : Int) := by rw [hKA.2.2.2.1, hmS.2]; exact hsb
      have exf : x = Mo_fields s1 := i_eq.mpr (by rw [hx, v1])
      rw [← exf] at e2
      have R1 : RdR tp c.bi Re (Mo_set_fields s1 (x + 1)) RR rd := RdR_KA hKA R
      obtain ⟨G1, G2, G3⟩ := gvF_at (Fl := Fl0) (i := i) (a0 := a0) (a1 := a1) (a2 := a2) (a3 := a3) (a4 := a4) (a5 := a5) (rep := rep)
      rw [← v10] at G1 G2 G3
      have PV := pl_val (k := k) (i := i) (Re := Re) (RR := RR) (Fl := Fl1) ok.1 (show (Mo_mode (Mo_set_fields s1 (x + 1))).toInt = 2 from mm) ms hk R1 hx hi (by rw [G1, upd_at]) (by rw [G2, upd_at]) (by rw [G3, updL_at]) (by rw [upd_at, updL_at]; exact v6.2.1) (by rw [upd_at]; exact v6.1) e2
      rcases PV with ⟨p1, p2⟩ | ⟨Re', z, p1, p2, p3, p4, p5⟩
      · -- no bits left
        rw [bd_s p2, if_pos rfl]
        rcases e5 with ⟨y, _⟩ | ⟨_, y⟩
        · exact absurd y p1
        · obtain ⟨hf, hF⟩ := v12 y
          obtain ⟨m, rfl⟩ : ∃ m', m = m' + 1 := ⟨m - 1, by omega⟩
          have hw2 : ¬ Walk_fault (Walk_set_place (Walk_set_fault W1 12) x) = 0 := by
            show ¬ (12 : Int32) = 0
            decide
          refine ⟨Walk_set_place (Walk_set_fault W1 12) x, Fl1, L1, Re, gr_set RR k (RR k), ?_, rfl, rfl, hF, Or.inr ⟨hw2, hf⟩⟩
          have ef : Walk_fail 12 x W1 = some (Walk_set_place (Walk_set_fault W1 12) x) := rfl
          rw [bd_s ef]
          unfold Rea_takePlain_j76
          exact pl_f ok.1 hw2
      · rw [bd_s p2, if_neg (show ¬ (1 : Int32) = 0 by decide), gd_t gk, gd_t gx]
        dsimp only
        have ev : gr_set RR k (vp_updL (RR k) i v) k x.toNatClampNeg = v := by
          rw [nx]
          show (if k = k then vp_updL (RR k) i v else RR k) i = v
          rw [if_pos rfl, updL_at]
        rw [ev]
        by_cases okk : okv a0 v
        · have okR : okr (Mo_mode s2) a0 a2 a4 v := by
            left
            rw [p1]
            intro e
            have e : Mo_mode s1 = 1 := e
            rw [e, k1] at mm
            exact absurd mm (by decide)
          have z2 : Mo_fault s2 = 0 := by rw [p1]; exact v3
          rcases e5 with ⟨_, _, _, y1, y2⟩ | ⟨y, _⟩
          · have z0 : Mo_fault q.2.1 = 0 := by rw [y2]; exact z2
            obtain ⟨W2, L2, s3, st, hK3, S3⟩ := v13 z0 (by rw [y1]; exact okk)
            rw [y1] at st
            rw [bd_s st]
            unfold Rea_takePlain_j76
            have ex : (x + 1).toInt = ((i + 1 : Nat) : Int) := by
              rw [i_add (a := x) (b := 1) (by omega) (by omega), hx, k1]
              rfl
            have erd : q.2.2.1 = rd2 := by rw [e3]
            rw [erd] at S3
            have R3 : RdR tp c.bi Re' s3 (gr_set RR k (vp_updL (RR k) i v)) rd2 := RdR_KA (s := s2) (by rw [← y2]; exact hK3) p3
            obtain ⟨W', Fl', L', Re2, RR2, o1, o2, o3, o4⟩ := pl_L ok hmd hsb hk hxk m (i + 1) n1 (x + 1) W2 Fl1 L2 s3 rd2 Re' (gr_set RR k (vp_updL (RR k) i v)) S3 R3 ex (by rw [hc1]; rfl) (by clear ex; omega) (by clear ex; omega)
            exact ⟨W', Fl', L', Re2, RR2, o1, o2.trans p4, o3.trans p5, o4⟩
          · exact absurd ⟨z2, okk, okR⟩ y
        · rcases e5 with ⟨_, y, _⟩ | ⟨_, y⟩
          · exact absurd y okk
          · obtain ⟨hf, hF⟩ := v12 y
            have kk : ¬ okv (Fld_kinds Fl1 i) v := by
              rw [G1]
              exact okk
            obtain ⟨W2, st, hw2⟩ := settle_bad (W := W1) (L := L1) hc1 hi kk
            rw [bd_s st]
            obtain ⟨m, rfl⟩ : ∃ m', m = m' + 1 := ⟨m - 1, by omega⟩
            unfold Rea_takePlain_j76
            exact ⟨W2, Fl1, L1, Re', gr_set RR k (vp_updL (RR k) i v), pl_f ok.1 hw2, p4, p5, hF, Or.inr ⟨hw2, hf⟩⟩
    · rw [Rea_takePlain_L23, bd_s eA, if_pos hb]
      refine ⟨W1, Fl1, L1, Re, RR, rfl, rfl, rfl, hE.1, ?_⟩
      rcases hE.2 with ⟨y1, y2, y3, y4⟩ | y
      · exact Or.inl ⟨y1, y2, by rw [y4]; exact RdR_KA y3 R⟩
      · exact Or.inr y

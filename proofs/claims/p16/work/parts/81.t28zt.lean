theorem pk_val {fu i sub : Nat} {tp : S_Bits} {bi : Nat → Int32} {Re : S_Rea} {s s2 : S_Mo} {RR : Nat → Nat → Int64} {va rd rd2 : Nat → Int64} {Fl : S_Fld} {ki wd : Nat → Int32} {ba : Nat → Int64} {x : Int32} {v : Int64} (hf : 12000 ≤ fu) (Ib : I_Bits tp) (Il : (Bits_length tp).toInt ≤ 8000) (hz : Mo_fault s = 0) (hm : (Mo_mode s).toInt = 3) (hs : (Mo_subsets s).toInt = (sub : Int)) (h1 : 1 ≤ sub) (h8 : sub ≤ 8) (R : RdR tp bi Re s RR rd) (hx : x.toInt = (i : Int)) (hi : i < 100) (K1 : Fld_kinds Fl i = ki i) (K2 : Fld_widths Fl i = wd i) (K3 : Fld_references Fl i = ba i) (K4 : ki i = 3 → ba i = 0) (hw : 0 ≤ (wd i).toInt ∧ (wd i).toInt ≤ 32) (h : Mod_valueOf fu va ki wd ba bi x s rd = some (v, s2, rd2)) : ∃ (b : Int32) (Re' : S_Rea) (RR' : Nat → Nat → Int64), Rea_takePackedValues fu Fl tp x Re RR = some (b, Re', RR') ∧ Rea_fault Re' = Rea_fault Re ∧ Rea_subsets Re' = Rea_subsets Re ∧ ((¬ b = 0 ∧ (∃ z, s2 = Mo_set_at s z) ∧ RdR tp bi Re' s2 RR' rd2 ∧ RR' 0 i = v) ∨ (b = 0 ∧ ¬ Mo_fault s2 = 0)) := by
  have k2 : (2 : Int32).toInt = 2 := by decide
  have k3 : (3 : Int32).toInt = 3 := by decide
  have k6 : (6 : Int32).toInt = 6 := by decide
  have c2 : (2 : Int32) ≤ Mo_mode s := by rw [i_le]; omega
  have c3 : Mo_mode s = 3 := i_eq.mpr (by omega)
  have g : o_in x 100 = true := i_in.mpr (by omega)
  have nx : x.toNatClampNeg = i := by
    have := i_nat (a := x) (by omega)
    omega
  unfold Mod_valueOf at h
  rw [if_pos c2, if_pos c3] at h
  obtain ⟨⟨sA, rdA⟩, eA, h⟩ := oi_bd h
  dsimp only at h
  have h := oe_gd h
  rw [nx] at h
  cases h
  obtain ⟨v0, v6, sa, sb, t0, ea, eb, ht, hj⟩ := tA_inv hx hi eA
  obtain ⟨q1, q2, q3, q4, q5, q6, q7, q8⟩ := R
  obtain ⟨p, hp⟩ : ∃ p : Nat, (Mo_at s).toInt = (p : Int) := ⟨(Mo_at s).toInt.toNat, by omega⟩
  have ed : (Rea_end Re - Rea_at Re).toInt = (Mo_many s).toInt - (p : Int) := by
    rw [i_sub (a := Rea_end Re) (b := Rea_at Re) (by omega) (by omega), q1, q2]
    omega
  have ew : (wd i + 6).toInt = (wd i).toInt + 6 := by
    clear ed
    rw [i_add (a := wd i) (b := 6) (by omega) (by omega), k6]
  by_cases cw : (p : Int) + (wd i).toInt ≤ (Mo_many s).toInt
  · obtain ⟨v0', z1, t1, t2, t3, t4⟩ := take_both (f := x) (tp := tp) (Re := Re) hf q5 q6 hp (by rw [q1, hp]) ⟨hw.1, by clear ed ew; omega⟩ cw
    rw [t1] at ea
    cases ea
    obtain ⟨p1, hp1⟩ : ∃ p1 : Nat, z1.toInt = (p1 : Int) := ⟨z1.toInt.toNat, by clear ed ew t4; omega⟩
    by_cases c6 : (p : Int) + (wd i).toInt + 6 ≤ (Mo_many s).toInt
    · obtain ⟨v6', z2, u1, u2, u3, u4⟩ := take_both (f := x) (tp := tp) (w := 6) (s := Mo_set_at s z1) (Re := Rea_set_at Re (Rea_at Re + wd i)) hf q5 q6 hp1 (by show (Rea_at Re + wd i).toInt = _; rw [t4, ← hp1, t2]) ⟨by decide, by decide⟩ (by show (p1 : Int) + (6 : Int32).toInt ≤ (Mo_many s).toInt; rw [k6]; clear ed ew t4; omega)
      rw [u1] at eb
      cases eb
      have rng : 0 ≤ v6.toInt ∧ v6.toInt ≤ 63 := by
        have u3' := u3
        unfold Rea_take at u3'
        obtain ⟨n6, e6, u3'⟩ := oi_bd u3'
        cases u3'
        obtain ⟨r6, f6, h6⟩ := t_Bits_numberAt (fu := fu) (nBt := 1000) (sBt := tp) (a0 := Rea_at (Rea_set_at Re (Rea_at Re + wd i))) (a1 := 6) hf Ib (by decide) Il (by show -1000000 ≤ (Rea_at Re + wd i).toInt; rw [t4]; clear ed ew t4 u4; omega) (by show (Rea_at Re + wd i).toInt ≤ 1000000; rw [t4]; clear ed ew t4 u4; omega) (by decide) (by decide)
        rw [e6] at f6
        cases f6
        rcases h6 with h6 | h6
        · exact absurd k6 h6
        · exact h6
      have sp : v6.toInt32.toInt = v6.toInt := by
        rcases i_64 v6 with y | y | y
        · clear ed ew t4 u4
          omega
        · clear ed ew t4 u4
          omega
        · exact y
      have R2 : RdR tp bi (Rea_set_at (Rea_set_at Re (Rea_at Re + wd i)) (Rea_at Re + wd i + 6)) (Mo_set_at s z2) RR rd := by
        refine ⟨?_, q2, ?_, ?_, q5, q6, q7, q8⟩
        · show (Rea_at Re + wd i + 6).toInt = 32 + z2.toInt
          rw [u2]
          exact u4
        · show 0 ≤ z2.toInt
          rw [u2, k6]
          clear ed ew t4 u4
          omega
        · show z2.toInt ≤ (Mo_many s).toInt
          rw [u2, k6]
          clear ed ew t4 u4
          omega
      obtain ⟨b, Re', RR', o1, o2, o3, o4⟩ := pk_T (Fl := Fl) (r := (s2, rd2)) hf (show Mo_fault (Mo_set_at s z2) = 0 from hz) hs h1 h8 R2 hx hi K1 K2 K3 K4 hw (by rw [sp]; exact rng) ht hj
      have cl : Fld_widths Fl i + 6 ≤ Rea_end Re - Rea_at Re := by
        rw [i_le, K2, ew, ed]
        clear ed ew t4 u4
        omega
      refine ⟨b, Re', RR', ?_, o2, o3, ?_⟩
      · unfold Rea_takePackedValues
        rw [gd_t g, nx, if_pos cl, K2, bd_s t3]
        dsimp only
        rw [bd_s u3]
        exact o1
      · rcases o4 with ⟨o5, ⟨z, o6⟩, o7⟩ | o5
        · refine Or.inl ⟨o5, ⟨z, o6⟩, o7, ?_⟩
          have e := o7.2.2.2.2.2.2.2 0 i (by decide) hi
          rw [e]
          show rd2 (100 * 0 + i) = rd2 i
          rw [Nat.mul_zero, Nat.zero_add]
        · exact Or.inr o5
    · have sh := take_short (s := Mo_set_at s z1) hp1 q5 (by show (p1 : Int) ≤ 40000; clear ed ew t4; omega) ⟨by decide, by decide⟩ (by show ¬ (p1 : Int) + (6 : Int32).toInt ≤ (Mo_many s).toInt; rw [k6]; clear ed ew t4; omega) eb
      have cl : ¬ Fld_widths Fl i + 6 ≤ Rea_end Re - Rea_at Re := by
        rw [i_le, K2, ew, ed]
        clear ed ew t4
        omega
      refine ⟨0, Re, RR, ?_, rfl, rfl, Or.inr ⟨rfl, j47_f sh.1 hj⟩⟩
      unfold Rea_takePackedValues
      rw [gd_t g, nx, if_neg cl]
  · have sh := take_short hp q5 (by clear ed ew; omega) ⟨hw.1, by clear ed ew; omega⟩ cw ea
    have sh2 := take_keep sh.1 eb
    have cl : ¬ Fld_widths Fl i + 6 ≤ Rea_end Re - Rea_at Re := by
      rw [i_le, K2, ew, ed]
      clear ed ew
      omega
    refine ⟨0, Re, RR, ?_, rfl, rfl, Or.inr ⟨rfl, j47_f sh2 hj⟩⟩
    unfold Rea_takePackedValues
    rw [gd_t g, nx, if_neg cl]
-- reading PACKED: the walk
theorem pk_f {fu m : Nat} {t : S_Tab} {P : S_Prog} {tp : S_Bits} {x : Int32} {W : S_Walk} {Fl : S_Fld} {L : S_Lps} {Re : S_Rea} {RR : Nat → Nat → Int64} (hf : 12000 ≤ fu) (hz : ¬ Walk_fault W = 0) : Rea_takePacked_L6 fu t P tp (m + 1) x W Fl L Re RR = o_bd (Rea_endWalk Fl 0 1 W Re) fun q3 => some (q3.1, Fl, L, q3.2, RR) := by
  have e := (over_f (nR := 0) (m := 0) (row := fun _ => 0) (x := 0) (t := t) (P := P) (Fl := Fl) (L := L) hf hz).1
  rw [Rea_takePacked_L6, bd_s e, if_pos rfl]
theorem pk_L {c : Cst} {tp : S_Bits} {sub : Nat} (ok : Cok c) (Ib : I_Bits tp) (Il : (Bits_length tp).toInt ≤ 8000) (hmd : (Mo_mode c.z).toInt = 3) (hsb : (Mo_subset c.z).toInt = 0) (hs : (Mo_subsets c.z).toInt = (sub : Int)) (h1 : 1 ≤ sub) (h8 : sub ≤ 8) : ∀ (m i n : Nat) (x : Int32) (W : S_Walk) (Fl : S_Fld) (L : S_Lps) (s : S_Mo) (rd : Nat → Int64) (Re : S_Rea) (RR : Nat → Nat → Int64), SY c n W Fl L s rd → RdR tp c.bi Re s RR rd → x.toInt = (i : Int) → (Fld_count Fl).toInt = (i : Int) → i ≤ 100 → 102 ≤ m + i → ∃ (W' : S_Walk) (Fl' : S_Fld) (L' : S_Lps) (Re' : S_Rea) (RR' : Nat → Nat → Int64), Rea_takePacked_L6 c.fu c.t c.P tp m x W Fl L Re RR = (o_bd (Rea_endWalk Fl' 0 1 W' Re') fun q3 => some (q3.1, Fl', L', q3.2, RR')) ∧ Rea_fault Re' = Rea_fault Re ∧ Rea_subsets Re' = Rea_subsets Re ∧ EndP c tp W' Fl' Re' RR'
  | 0, i, n, x, W, Fl, L, s, rd, Re, RR, S, R, hx, hc, h100, hm => absurd hm (by omega)
  | m + 1, i, n, x, W, Fl, L, s, rd, Re, RR, S, R, hx, hc, h100, hm => by
    have k1 : (1 : Int32).toInt = 1 := by decide
    have kh : (100 : Int32).toInt = 100 := by decide
    obtain ⟨b, W1, Fl1, L1, eA, hA⟩ := ADV ok S
    have eA : Walk_advance c.fu c.t c.P W Fl L = some (b, W1, Fl1, L1) := eA
    rcases hA with ⟨hb, hcn, s1, n1, hKA, hFE⟩ | ⟨hb, hFl, hE⟩
    · obtain ⟨hi, hc1, a0, a1, a2, a3, a4, a5, rep, tu, ki, co, wd, sca, lk, rp, ba, q, Fl0, v1, v3, v4, v5, v6, v7, v8, v10, v11, v12, v13⟩ := FE_i hc h100 hcn hFE
      have nb : ¬ b = 0 := by rw [hb]; decide
      have nh : ¬ (100 : Int32) ≤ x := by rw [i_le]; omega
      have gx : o_in x 100 = true := i_in.mpr (by omega)
      have nx : x.toNatClampNeg = i := by
        have := i_nat (a := x) (by omega)
        omega
      rw [Rea_takePacked_L6, bd_s eA, if_neg nb, if_neg nh]
      dsimp only
      obtain ⟨rep', v, s2, rd2, e1, e2, e3, e4, e5⟩ := come_inv v3 v1 hi v7
      have hmS : (Mo_mode s).toInt = (Mo_mode c.z).toInt ∧ (Mo_subsets s).toInt = (Mo_subsets c.z).toInt := by
        obtain ⟨_, _, _, _, _, _, _, _, _, _, _, _, _, _, _, _, _, _, _, _, _, _, K, _⟩ := S
        exact ⟨K.2.1, K.2.2.2.1⟩
      have mm : (Mo_mode s1).toInt = 3 := by rw [hKA.2.2.1, hmS.1]; exact hmd
      have ms : (Mo_subsets s1).toInt = (sub : Int) := by rw [hKA.2.2.2.2, hmS.2]; exact hs
      have exf : x = Mo_fields s1 := i_eq.mpr (by rw [hx, v1])
      rw [← exf] at e2
      have R1 : RdR tp c.bi Re (Mo_set_fields s1 (x + 1)) RR rd := RdR_KA hKA R
      obtain ⟨G1, G2, G3⟩ := gvF_at (Fl := Fl0) (i := i) (a0 := a0) (a1 := a1) (a2 := a2) (a3 := a3) (a4 := a4) (a5 := a5) (rep := rep)
      rw [← v10] at G1 G2 G3
      obtain ⟨b2, Re', RR', p2, p4, p5, PV⟩ := pk_val (i := i) (sub := sub) (Re := Re) (RR := RR) (Fl := Fl1) ok.1 Ib Il (show Mo_fault (Mo_set_fields s1 (x + 1)) = 0 from v3) (show (Mo_mode (Mo_set_fields s1 (x + 1))).toInt = 3 from mm) ms h1 h8 R1 hx hi (by rw [G1, upd_at]) (by rw [G2, upd_at]) (by rw [G3, updL_at]) (by rw [upd_at, updL_at]; exact v6.2.1) (by rw [upd_at]; exact v6.1) e2
      rcases PV with ⟨p0, ⟨z, p1⟩, p3, p6⟩ | ⟨p0, p1⟩
      · rw [bd_s p2, if_neg p0, gd_t (show o_in 0 8 = true by decide), gd_t gx]
        have ev : RR' 0 x.toNatClampNeg = v := by
          rw [nx]
          exact p6
        dsimp only
        rw [ev]
        by_cases okk : okv a0 v
        · have okR : okr (Mo_mode s2) a0 a2 a4 v := by
            left
            rw [p1]
            intro e
            have e : Mo_mode s1 = 1 := e
            rw [e, k1] at mm
            exact absurd mm (by decide)
          have z2 : Mo_fault s2 = 0 := by rw [p1]; exact v3
          rcases e5 with ⟨_, _, _, y1, y2⟩ | ⟨y, _⟩
          · have z0 : Mo_fault q.2.1 = 0 := by rw [y2]; exact z2
            obtain ⟨W2, L2, s3, st, hK3, S3⟩ := v13 z0 (by rw [y1]; exact okk)
            rw [y1] at st
            rw [bd_s st]
            unfold Rea_takePacked_j53
            have ex : (x + 1).toInt = ((i + 1 : Nat) : Int) := by
              rw [i_add (a := x) (b := 1) (by omega) (by omega), hx, k1]
              rfl
            have erd : q.2.2.1 = rd2 := by rw [e3]
            rw [erd] at S3
            have R3 : RdR tp c.bi Re' s3 RR' rd2 := RdR_KA (s := s2) (by rw [← y2]; exact hK3) p3
            obtain ⟨W', Fl', L', Re2, RR2, o1, o2, o3, o4⟩ := pk_L ok Ib Il hmd hsb hs h1 h8 m (i + 1) n1 (x + 1) W2 Fl1 L2 s3 rd2 Re' RR' S3 R3 ex (by rw [hc1]; rfl) (by clear ex; omega) (by clear ex; omega)
            exact ⟨W', Fl', L', Re2, RR2, o1, o2.trans p4, o3.trans p5, o4⟩
          · exact absurd ⟨z2, okk, okR⟩ y
        · rcases e5 with ⟨_, y, _⟩ | ⟨_, y⟩
          · exact absurd y okk
          · obtain ⟨hf, hF⟩ := v12 y
            have kk : ¬ okv (Fld_kinds Fl1 i) v := by
              rw [G1]
              exact okk
            obtain ⟨W2, st, hw2⟩ := settle_bad (W := W1) (L := L1) hc1 hi kk
            rw [bd_s st]
            obtain ⟨m, rfl⟩ : ∃ m', m = m' + 1 := ⟨m - 1, by omega⟩
            unfold Rea_takePacked_j53
            exact ⟨W2, Fl1, L1, Re', RR', pk_f ok.1 hw2, p4, p5, hF, Or.inr ⟨hw2, hf⟩⟩
      · rw [bd_s p2, if_pos p0]
        rcases e5 with ⟨y, _⟩ | ⟨_, y⟩
        · exact absurd y p1
        · obtain ⟨hf, hF⟩ := v12 y
          obtain ⟨m, rfl⟩ : ∃ m', m = m' + 1 := ⟨m - 1, by omega⟩
          have hw2 : ¬ Walk_fault (Walk_set_place (Walk_set_fault W1 12) x) = 0 := by
            show ¬ (12 : Int32) = 0
            decide
          refine ⟨Walk_set_place (Walk_set_fault W1 12) x, Fl1, L1, Re', RR', ?_, p4, p5, hF, Or.inr ⟨hw2, hf⟩⟩
          have ef : Walk_fail 12 x W1 = some (Walk_set_place (Walk_set_fault W1 12) x) := rfl
          rw [bd_s ef]
          unfold Rea_takePacked_j53
          exact pk_f ok.1 hw2
    · rw [Rea_takePacked_L6, bd_s eA, if_pos hb]
      refine ⟨W1, Fl1, L1, Re, RR, rfl, rfl, rfl, hE.1, ?_⟩
      rcases hE.2 with ⟨y1, y2, y3, y4⟩ | y
      · exact Or.inl ⟨y1, y2, by rw [y4]; exact RdR_KA y3 R⟩
      · exact Or.inr y

-- walks over rows that agree where it counts
theorem over_st {fu nR : Nat} {t : S_Tab} {P : S_Prog} {row : Nat → Int64} : ∀ (m : Nat) (x : Int32) (W : S_Walk) (Fl : S_Fld) (L : S_Lps) (r : S_Walk × S_Fld × S_Lps), Walk_over_L6 fu nR t P row m x W Fl L = some r → FlS (Fld_count Fl).toInt Fl r.2.1
  | 0, x, W, Fl, L, r, h => by
    rw [Walk_over_L6] at h
    cases h
  | m + 1, x, W, Fl, L, r, h => by
    rw [Walk_over_L6] at h
    obtain ⟨q2, e2, h⟩ := oi_bd h
    have S := adv_st e2
    by_cases c : q2.1 = 0
    · rw [if_pos c] at h
      cases h
      exact S
    · rw [if_neg c] at h
      by_cases c1 : 100 ≤ x
      · rw [if_pos c1] at h
        cases h
        exact S
      · rw [if_neg c1] at h
        have h := oe_gd h
        obtain ⟨q4, e4, h⟩ := oi_bd h
        exact S.trans ((over_st m _ _ _ _ r h).le S.1)
theorem over_fi {fu nR n : Nat} {t : S_Tab} {P : S_Prog} {row : Nat → Int64} {x : Int32} {W : S_Walk} {Fl : S_Fld} {L : S_Lps} {r : S_Walk × S_Fld × S_Lps} (hf : 12000 ≤ fu) (hz : ¬ Walk_fault W = 0) (h : Walk_over_L6 fu nR t P row n x W Fl L = some r) : r = (W, Fl, L) := by
  cases n with
  | zero =>
    rw [Walk_over_L6] at h
    cases h
  | succ n =>
    have e := (over_f (nR := nR) (m := n) (row := row) (x := x) (t := t) (P := P) (Fl := Fl) (L := L) hf hz).2
    rw [e] at h
    exact (Option.some.inj h).symm
-- one step of a walk over a row, with what comes after
set_option maxHeartbeats 8000000 in
theorem over_step {c : Cst} {row row' : Nat → Int64} {k m i n : Nat} {x : Int32} {W : S_Walk} {Fl : S_Fld} {L : S_Lps} {s : S_Mo} {rd : Nat → Int64} {r : S_Walk × S_Fld × S_Lps} (ok : Cok c) (hmd : (Mo_mode c.z).toInt < 2) (hsb : (Mo_subset c.z).toInt = (k : Int)) (hk : k < 8) (hrow : ∀ j, j < 100 → row j = c.va (100 * k + j)) (hr0 : Mo_fault c.r.1 = 0) (S : SY c n W Fl L s rd) (hx : x.toInt = (i : Int)) (hc : (Fld_count Fl).toInt = (i : Int)) (h100 : i ≤ 100) (h : Walk_over_L6 c.fu 100 c.t c.P row (m + 1) x W Fl L = some r) : (∀ row'' : Nat → Int64, Walk_over_L6 c.fu 100 c.t c.P row'' (m + 1) x W Fl L = some r) ∨ (∃ (W1 W2 : S_Walk) (Fl1 : S_Fld) (L1 L2 : S_Lps) (s3 : S_Mo) (n1 : Nat) (rd3 : Nat → Int64), i < 100 ∧ (Fld_count Fl1).toInt = ((i + 1 : Nat) : Int) ∧ (∀ row'' : Nat → Int64, Walk_over_L6 c.fu 100 c.t c.P row'' (m + 1) x W Fl L = (o_bd (Walk_settle Fl1 (row'' i) W1 L1) fun q4 => Walk_over_L6 c.fu 100 c.t c.P row'' m (x + 1) q4.1 Fl1 q4.2)) ∧ Walk_settle Fl1 (row i) W1 L1 = some (W2, L2) ∧ SY c n1 W2 Fl1 L2 s3 rd3 ∧ ((¬ Fld_kinds Fl1 i = 2 ∧ ¬ Fld_kinds Fl1 i = 3) → ∀ v, Walk_settle Fl1 v W1 L1 = some (W2, L2)) ∧ Walk_over_L6 c.fu 100 c.t c.P row m (x + 1) W2 Fl1 L2 = some r) := by
  have k1 : (1 : Int32).toInt = 1 := by decide
  have kh : (100 : Int32).toInt = 100 := by decide
  obtain ⟨b, W1, Fl1, L1, eA, hA⟩ := ADV ok S
  have eA : Walk_advance c.fu c.t c.P W Fl L = some (b, W1, Fl1, L1) := eA
  rcases hA with ⟨hb, hcn, s1, n1, hKA, hFE⟩ | ⟨hb, hFl, hE⟩
  · right
    obtain ⟨hi, hc1, a0, a1, a2, a3, a4, a5, rep, tu, ki, co, wd, sca, lk, rp, ba, q, Fl0, v1, v3, v4, v5, v6, v7, v8, v10, v11, v12, v13⟩ := FE_i hc h100 hcn hFE
    have nb : ¬ b = 0 := by rw [hb]; decide
    have nh : ¬ (100 : Int32) ≤ x := by rw [i_le]; omega
    have gx : o_in x 100 = true := i_in.mpr (by omega)
    have nx : x.toNatClampNeg = i := by
      have := i_nat (a := x) (by omega)
      omega
    have eq : ∀ row'' : Nat → Int64, Walk_over_L6 c.fu 100 c.t c.P row'' (m + 1) x W Fl L = (o_bd (Walk_settle Fl1 (row'' i) W1 L1) fun q4 => Walk_over_L6 c.fu 100 c.t c.P row'' m (x + 1) q4.1 Fl1 q4.2) := by
      intro row''
      rw [Walk_over_L6, bd_s eA, if_neg nb, if_neg nh, gd_t gx, nx]
    obtain ⟨rep', v, s2, rd2, e1, e2, e3, e4, e5⟩ := come_inv v3 v1 hi v7
    have hmS : (Mo_mode s).toInt = (Mo_mode c.z).toInt ∧ (Mo_subset s).toInt = (Mo_subset c.z).toInt := by
      obtain ⟨_, _, _, _, _, _, _, _, _, _, _, _, _, _, _, _, _, _, _, _, _, _, K, _⟩ := S
      exact ⟨K.2.1, K.2.2.1⟩
    have mm : (Mo_mode s1).toInt = (Mo_mode c.z).toInt := by rw [hKA.2.2.1]; exact hmS.1
    have ms : (Mo_subset s1).toInt = (k : Int) := by rw [hKA.2.2.2.1, hmS.2]; exact hsb
    obtain ⟨g1, g2, g3⟩ := val_01 (k := k) (i := i) (show (Mo_mode (Mo_set_fields s1 (Mo_fields s1 + 1))).toInt < 2 by show (Mo_mode s1).toInt < 2; rw [mm]; exact hmd) ms hk v1 hi e2
    rw [← hrow i hi] at g1
    subst g1
    have z0 : Mo_fault q.2.1 = 0 := by
      by_cases y : Mo_fault q.2.1 = 0
      · exact y
      · exact absurd hr0 (v12 y).1
    rcases e5 with ⟨_, okk, _, y1, y2⟩ | ⟨_, y⟩
    · obtain ⟨W2, L2, s3, st, hK3, S3⟩ := v13 z0 (by rw [y1]; exact okk)
      rw [y1] at st
      rw [eq row, bd_s st] at h
      refine ⟨W1, W2, Fl1, L1, L2, s3, n1, q.2.2.1, hi, by rw [hc1]; rfl, eq, st, S3, fun hn v => ?_, h⟩
      have o1 := settle_other (v := row i) (W := W1) (L := L1) hc1 hi hn.1 hn.2
      rw [st] at o1
      cases o1
      exact settle_other (v := v) (W := W1) (L := L1) hc1 hi hn.1 hn.2
    · exact absurd z0 y
  · left
    intro row''
    rw [Walk_over_L6, bd_s eA, if_pos hb] at h ⊢
    exact h
theorem over_same {c : Cst} {row row' : Nat → Int64} {k : Nat} (ok : Cok c) (hmd : (Mo_mode c.z).toInt < 2) (hsb : (Mo_subset c.z).toInt = (k : Int)) (hk : k < 8) (hrow : ∀ j, j < 100 → row j = c.va (100 * k + j)) (hr0 : Mo_fault c.r.1 = 0) : ∀ (m i n : Nat) (x : Int32) (W : S_Walk) (Fl : S_Fld) (L : S_Lps) (s : S_Mo) (rd : Nat → Int64) (r : S_Walk × S_Fld × S_Lps), SY c n W Fl L s rd → x.toInt = (i : Int) → (Fld_count Fl).toInt = (i : Int) → i ≤ 100 → Walk_over_L6 c.fu 100 c.t c.P row m x W Fl L = some r → (∀ j : Nat, (j : Int) < (Fld_count r.2.1).toInt → (Fld_kinds r.2.1 j = 2 ∨ Fld_kinds r.2.1 j = 3) → row j = row' j) → Walk_over_L6 c.fu 100 c.t c.P row' m x W Fl L = some r
  | 0, i, n, x, W, Fl, L, s, rd, r, S, hx, hc, h100, h, hA => by
    rw [Walk_over_L6] at h
    cases h
  | m + 1, i, n, x, W, Fl, L, s, rd, r, S, hx, hc, h100, h, hA => by
    have k1 : (1 : Int32).toInt = 1 := by decide
    rcases over_step (row' := row') ok hmd hsb hk hrow hr0 S hx hc h100 h with y | ⟨W1, W2, Fl1, L1, L2, s3, n1, rd3, hi, hc1, eq, st, S3, so, h3⟩
    · exact y row'
    · have T := over_st m _ _ _ _ r h3
      have ek : Fld_kinds r.2.1 i = Fld_kinds Fl1 i := (T.2 i (by rw [hc1]; omega)).1
      have st' : Walk_settle Fl1 (row' i) W1 L1 = some (W2, L2) := by
        by_cases c23 : Fld_kinds Fl1 i = 2 ∨ Fld_kinds Fl1 i = 3
        · rw [← hA i (by have := T.1; omega) (by rw [ek]; exact c23)]
          exact st
        · exact so ⟨fun e => c23 (Or.inl e), fun e => c23 (Or.inr e)⟩ _
      have ex : (x + 1).toInt = ((i + 1 : Nat) : Int) := by
        rw [i_add (a := x) (b := 1) (by omega) (by omega), hx, k1]
        rfl
      rw [eq row', bd_s st']
      exact over_same ok hmd hsb hk hrow hr0 m (i + 1) n1 (x + 1) W2 Fl1 L2 s3 rd3 r S3 ex hc1 (by clear ex; omega) h3 hA
set_option maxHeartbeats 8000000 in
theorem over_pre {c : Cst} {row row' : Nat → Int64} {k i0 : Nat} (ok : Cok c) (hmd : (Mo_mode c.z).toInt < 2) (hsb : (Mo_subset c.z).toInt = (k : Int)) (hk : k < 8) (hrow : ∀ j, j < 100 → row j = c.va (100 * k + j)) (hr0 : Mo_fault c.r.1 = 0) : ∀ (m i n : Nat) (x : Int32) (W : S_Walk) (Fl : S_Fld) (L : S_Lps) (s : S_Mo) (rd : Nat → Int64) (r r' : S_Walk × S_Fld × S_Lps), SY c n W Fl L s rd → x.toInt = (i : Int) → (Fld_count Fl).toInt = (i : Int) → i ≤ 100 → i ≤ i0 → Walk_over_L6 c.fu 100 c.t c.P row m x W Fl L = some r → Walk_over_L6 c.fu 100 c.t c.P row' m x W Fl L = some r' → (i0 : Int) < (Fld_count r.2.1).toInt → (∀ j : Nat, j < i0 → (Fld_kinds r.2.1 j = 2 ∨ Fld_kinds r.2.1 j = 3) → row j = row' j) → (i0 : Int) < (Fld_count r'.2.1).toInt ∧ Fld_kinds r'.2.1 i0 = Fld_kinds r.2.1 i0
  | 0, i, n, x, W, Fl, L, s, rd, r, r', S, hx, hc, h100, hii, h, h', hi0, hA => by
    rw [Walk_over_L6] at h
    cases h
  | m + 1, i, n, x, W, Fl, L, s, rd, r, r', S, hx, hc, h100, hii, h, h', hi0, hA => by
    have k1 : (1 : Int32).toInt = 1 := by decide
    rcases over_step (row' := row') ok hmd hsb hk hrow hr0 S hx hc h100 h with y | ⟨W1, W2, Fl1, L1, L2, s3, n1, rd3, hi, hc1, eq, st, S3, so, h3⟩
    · have e := y row'
      rw [h'] at e
      cases e
      exact ⟨hi0, rfl⟩
    · have T := over_st m _ _ _ _ r h3
      have ek : Fld_kinds r.2.1 i = Fld_kinds Fl1 i := (T.2 i (by rw [hc1]; omega)).1
      rw [eq row'] at h'
      by_cases ci : i = i0
      · obtain ⟨q4, e4, h'⟩ := oi_bd h'
        have T' := over_st m _ _ _ _ r' h'
        rw [← ci]
        refine ⟨by have := T'.1; omega, ?_⟩
        rw [ek]
        exact (T'.2 i (by rw [hc1]; omega)).1
      · have st' : Walk_settle Fl1 (row' i) W1 L1 = some (W2, L2) := by
          by_cases c23 : Fld_kinds Fl1 i = 2 ∨ Fld_kinds Fl1 i = 3
          · rw [← hA i (by omega) (by rw [ek]; exact c23)]
            exact st
          · exact so ⟨fun e => c23 (Or.inl e), fun e => c23 (Or.inr e)⟩ _
        have ex : (x + 1).toInt = ((i + 1 : Nat) : Int) := by
          rw [i_add (a := x) (b := 1) (by omega) (by omega), hx, k1]
          rfl
        rw [bd_s st'] at h'
        exact over_pre ok hmd hsb hk hrow hr0 m (i + 1) n1 (x + 1) W2 Fl1 L2 s3 rd3 r r' S3 ex hc1 (by clear ex; omega) (by clear ex; omega) h3 h' hi0 hA

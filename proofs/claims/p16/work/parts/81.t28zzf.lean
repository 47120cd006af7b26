-- writing: each value must have a raw number
theorem l_sub (a b : Int64) : (a - b).toInt = (a.toInt - b.toInt).bmod (2 ^ 64) := Int64.toInt_sub a b
theorem l_add (a b : Int64) : (a + b).toInt = (a.toInt + b.toInt).bmod (2 ^ 64) := Int64.toInt_add a b
theorem most_b : ∀ k : Fin 33, (((1 : Int64) <<< ((Int32.ofNat k.val).toInt64 &&& 63)) - 1).toInt = 2 ^ k.val - 1 := by decide +kernel
theorem most_v {w : Int32} (h0 : 0 ≤ w.toInt) (h1 : w.toInt ≤ 32) : ∃ m : Int64, Mod_most w = some m ∧ X_allOnes w = some m ∧ m.toInt = 2 ^ w.toInt.toNat - 1 ∧ 0 ≤ m.toInt ∧ m.toInt ≤ 4294967295 ∧ (m - 1).toInt = m.toInt - 1 := by
  obtain ⟨k, hk⟩ : ∃ k : Nat, w.toInt = (k : Int) := ⟨w.toInt.toNat, by omega⟩
  have e : w = Int32.ofNat k := i_eq.mpr (by rw [hk, i_of (by omega)])
  have b := most_b ⟨k, by omega⟩
  have b : (((1 : Int64) <<< ((Int32.ofNat k).toInt64 &&& 63)) - 1).toInt = 2 ^ k - 1 := b
  have m := most_k ⟨k, by omega⟩
  have m : 0 ≤ (((1 : Int64) <<< ((Int32.ofNat k).toInt64 &&& 63)) - 1).toInt ∧ (((1 : Int64) <<< ((Int32.ofNat k).toInt64 &&& 63)) - 1 - 1).toInt = (((1 : Int64) <<< ((Int32.ofNat k).toInt64 &&& 63)) - 1).toInt - 1 := m
  have hp : (2 : Int) ^ k ≤ 4294967296 := by
    have := Nat.pow_le_pow_right (show 0 < 2 by decide) (show k ≤ 32 by omega)
    have c : ((2 ^ k : Nat) : Int) ≤ ((2 ^ 32 : Nat) : Int) := Int.ofNat_le.mpr this
    have e2 : ((2 ^ k : Nat) : Int) = (2 : Int) ^ k := Int.natCast_pow 2 k
    rw [e2] at c
    exact c
  refine ⟨((1 : Int64) <<< ((Int32.ofNat k).toInt64 &&& 63)) - 1, by rw [e]; rfl, by rw [e]; rfl, ?_, m.1, ?_, m.2⟩
  · rw [b, hk]
    rfl
  · rw [b]
    omega
def okA (Fl : S_Fld) (row : Nat → Int64) (j : Nat) : Prop := okv (Fld_kinds Fl j) (row j) ∧ okr 1 (Fld_kinds Fl j) (Fld_widths Fl j) (Fld_references Fl j) (row j)
theorem has_ok {Fl : S_Fld} {i : Nat} {x : Int32} {v : Int64} (hx : x.toInt = (i : Int)) (hi : i < 100) (hb : BB (Fld_references Fl i)) (hw : 0 ≤ (Fld_widths Fl i).toInt ∧ (Fld_widths Fl i).toInt ≤ 32) : ∃ b : Int32, Fld_hasRaw Fl x v = some b ∧ (b = 0 ↔ ¬ okr 1 (Fld_kinds Fl i) (Fld_widths Fl i) (Fld_references Fl i) v) := by
  have g : o_in x 100 = true := i_in.mpr (by omega)
  have nx : x.toNatClampNeg = i := by
    have := i_nat (a := x) (by omega)
    omega
  have z0 : (0 : Int64).toInt = 0 := by decide
  obtain ⟨m, m1, m2, _, m4, m5, m6⟩ := most_v hw.1 hw.2
  obtain ⟨b1, b2⟩ := hb
  have r1 := Int64.le_toInt v
  have r2 := Int64.toInt_lt v
  have r1 : -9223372036854775808 ≤ v.toInt := r1
  have r2 : v.toInt < 9223372036854775808 := r2
  unfold Fld_hasRaw
  rw [gd_t g, nx]
  by_cases c3 : Fld_kinds Fl i = 3
  · rw [if_pos c3]
    exact ⟨1, rfl, fun e => absurd e (by decide), fun e => absurd (Or.inr (Or.inl c3)) e⟩
  · rw [if_neg c3]
    by_cases cv : v = (-9000000000000000000)
    · rw [if_pos cv]
      exact ⟨1, rfl, fun e => absurd e (by decide), fun e => absurd (Or.inr (Or.inr (Or.inl cv))) e⟩
    · rw [if_neg cv, gd_t g]
      have es := l_sub v (Fld_references Fl i)
      have hs : (v - Fld_references Fl i).toInt = v.toInt - (Fld_references Fl i).toInt ∨ (9223372036854775808 ≤ v.toInt - (Fld_references Fl i).toInt ∧ (v - Fld_references Fl i).toInt < 0) ∨ (v.toInt - (Fld_references Fl i).toInt < -9223372036854775808 ∧ 4294967296 < (v - Fld_references Fl i).toInt) := by
        rw [es, Int.bmod_eq_emod]
        split <;> omega
      clear es
      have iff_ : okr 1 (Fld_kinds Fl i) (Fld_widths Fl i) (Fld_references Fl i) v ↔ (¬ v - Fld_references Fl i < 0 ∧ v - Fld_references Fl i ≤ m - 1) := by
        refine ⟨fun h => ?_, fun h => Or.inr (Or.inr (Or.inr ⟨h.1, m, m1, h.2⟩))⟩
        rcases h with h | h | h | ⟨h1, m', h2, h3⟩
        · exact absurd rfl h
        · exact absurd h c3
        · exact absurd h cv
        · rw [m1] at h2
          cases h2
          exact ⟨h1, h3⟩
      by_cases c1 : v < Fld_references Fl i
      · rw [if_pos c1]
        refine ⟨0, rfl, fun _ h => ?_, fun _ => rfl⟩
        have h := iff_.1 h
        rw [i64_lt, i64_le, z0, m6] at h
        rw [i64_lt] at c1
        omega
      · rw [if_neg c1, gd_t g, gd_t g, bd_s m2]
        have ea : (Fld_references Fl i + m).toInt = (Fld_references Fl i).toInt + m.toInt := by
          rw [l_add, Int.bmod_eq_emod]
          split <;> omega
        rw [i64_lt] at c1
        by_cases c2 : Fld_references Fl i + m ≤ v
        · rw [if_pos c2]
          refine ⟨0, rfl, fun _ h => ?_, fun _ => rfl⟩
          have h := iff_.1 h
          rw [i64_lt, i64_le, z0, m6] at h
          rw [i64_le, ea] at c2
          omega
        · rw [if_neg c2]
          refine ⟨1, rfl, fun e => absurd e (by decide), fun h => absurd (iff_.2 ?_) h⟩
          rw [i64_le, ea] at c2
          rw [i64_lt, i64_le, z0, m6]
          omega
theorem och_f {fu nR n : Nat} {t : S_Tab} {P : S_Prog} {row : Nat → Int64} {x : Int32} {W : S_Walk} {Fl : S_Fld} {L : S_Lps} {r : S_Walk × S_Fld × S_Lps} (hf : 12000 ≤ fu) (hz : ¬ Walk_fault W = 0) (h : Walk_overChecked_L6 fu nR t P row n x W Fl L = some r) : r = (W, Fl, L) := by
  have e := (over_f (nR := 0) (m := 0) (row := fun _ => 0) (x := 0) (t := t) (P := P) (Fl := Fl) (L := L) hf hz).1
  cases n with
  | zero =>
    rw [Walk_overChecked_L6] at h
    cases h
  | succ n =>
    rw [Walk_overChecked_L6, bd_s e, if_pos rfl] at h
    exact (Option.some.inj h).symm
-- fields that stand stay as they are: the class's side alone
def FlS (b : Int) (Fl Fl' : S_Fld) : Prop := (Fld_count Fl).toInt ≤ (Fld_count Fl').toInt ∧ ∀ j : Nat, (j : Int) < b → Fld_kinds Fl' j = Fld_kinds Fl j ∧ Fld_widths Fl' j = Fld_widths Fl j ∧ Fld_references Fl' j = Fld_references Fl j
theorem FlS.refl {b : Int} (Fl : S_Fld) : FlS b Fl Fl := ⟨Int.le_refl _, fun _ _ => ⟨rfl, rfl, rfl⟩⟩
theorem FlS.trans {b : Int} {F1 F2 F3 : S_Fld} (h : FlS b F1 F2) (g : FlS b F2 F3) : FlS b F1 F3 := ⟨Int.le_trans h.1 g.1, fun j hj => ⟨(g.2 j hj).1.trans (h.2 j hj).1, (g.2 j hj).2.1.trans (h.2 j hj).2.1, (g.2 j hj).2.2.trans (h.2 j hj).2.2⟩⟩
theorem FlS.le {b b' : Int} {F1 F2 : S_Fld} (h : FlS b F1 F2) (hb : b' ≤ b) : FlS b' F1 F2 := ⟨h.1, fun j hj => h.2 j (by omega)⟩
theorem give_st {L : S_Lps} {a0 a1 a2 a3 a5 : Int32} {a4 : Int64} {W : S_Walk} {Fl : S_Fld} {q : S_Walk × S_Fld} (h : Walk_give L a0 a1 a2 a3 a4 a5 W Fl = some q) : FlS (Fld_count Fl).toInt Fl q.2 := by
  unfold Walk_give o_lt at h
  dsimp only at h
  by_cases c : Fld_count Fl < 100
  · rw [if_pos c] at h
    have h := oe_gd (oe_gd (oe_gd (oe_gd (oe_gd (oe_gd h)))))
    obtain ⟨q13, e13, h⟩ := oi_bd h
    have h := oe_gd h
    have ne : ∀ j : Nat, (j : Int) < (Fld_count Fl).toInt → j ≠ (Fld_count Fl).toNatClampNeg := by
      intro j hj
      have := i_nat (a := Fld_count Fl) (by omega)
      omega
    have ct : (Fld_count Fl).toInt ≤ (Fld_count Fl + 1).toInt := by
      have k1 : (1 : Int32).toInt = 1 := by decide
      have kh : (100 : Int32).toInt = 100 := by decide
      have r1 := i_r1 (Fld_count Fl)
      rw [i_lt] at c
      rw [i_add (a := Fld_count Fl) (b := 1) (by omega) (by omega), k1]
      omega
    by_cases c0 : a0 = 0
    · rw [if_pos c0] at h
      have h := oe_gd h
      cases h
      exact ⟨ct, fun j hj => ⟨upd_ne (ne j hj), upd_ne (ne j hj), if_neg (ne j hj)⟩⟩
    · rw [if_neg c0] at h
      cases h
      exact ⟨ct, fun j hj => ⟨upd_ne (ne j hj), upd_ne (ne j hj), if_neg (ne j hj)⟩⟩
  · rw [if_neg c] at h
    obtain ⟨q21, e21, h⟩ := oi_bd h
    cases h
    exact FlS.refl Fl
theorem gq_st {L : S_Lps} {W : S_Walk} {Fl : S_Fld} {q : S_Walk × S_Fld} (h : Walk_giveQuality L W Fl = some q) : FlS (Fld_count Fl).toInt Fl q.2 := by
  unfold Walk_giveQuality o_lt at h
  dsimp only at h
  have h := oe_gd h
  obtain ⟨q3, e3, h⟩ := oi_bd h
  cases h
  exact give_st e3
theorem gj_st {fu : Nat} {t : S_Tab} {L : S_Lps} {x1 x3 x4 : Int32} {x5 : Int64} {W : S_Walk} {Fl : S_Fld} {q : S_Walk × S_Fld} (h : Walk_giveFromEntry_j104 fu t L x1 x3 x4 x5 W Fl = some q) : FlS (Fld_count Fl).toInt Fl q.2 := by
  unfold Walk_giveFromEntry_j104 at h
  obtain ⟨q3, e3, h⟩ := oi_bd h
  cases h
  exact give_st e3
theorem gf_st {fu : Nat} {t : S_Tab} {L : S_Lps} {W : S_Walk} {Fl : S_Fld} {q : S_Walk × S_Fld} (h : Walk_giveFromEntry fu t L W Fl = some q) : FlS (Fld_count Fl).toInt Fl q.2 := by
  unfold Walk_giveFromEntry o_lt at h
  dsimp only at h
  obtain ⟨q2, e2, h⟩ := oi_bd h
  by_cases c : q2 = (-1)
  · rw [if_pos c] at h
    cases h
    exact FlS.refl Fl
  · rw [if_neg c] at h
    have h := oe_gd (oe_gd (oe_gd h))
    by_cases c0 : Walk_dueKind W = 0
    · rw [if_pos c0] at h
      have h := oe_gd h
      obtain ⟨q8, e8, h⟩ := oi_bd h
      have h := oe_gd h
      obtain ⟨q11, e11, h⟩ := oi_bd h
      have h := oe_gd h
      exact gj_st h
    · rw [if_neg c0] at h
      exact gj_st h
theorem gb_st {L : S_Lps} {W : S_Walk} {Fl : S_Fld} {q : S_Walk × S_Fld} (h : Walk_giveBit L W Fl = some q) : FlS (Fld_count Fl).toInt Fl q.2 := by
  unfold Walk_giveBit o_lt at h
  dsimp only at h
  have h := oe_gd h
  have j38 : ∀ (u d : Int32) (W' : S_Walk), Walk_giveBit_j38 L u d W' Fl = some q → FlS (Fld_count Fl).toInt Fl q.2 := by
    intro u d W' g
    unfold Walk_giveBit_j38 o_lt at g
    dsimp only at g
    obtain ⟨q3, e3, g⟩ := oi_bd g
    cases g
    exact give_st e3
  by_cases c : Walk_dueBits W - 1 ≤ 0
  · rw [if_pos c] at h
    exact j38 _ _ _ h
  · rw [if_neg c] at h
    exact j38 _ _ _ h
theorem gm_st {L : S_Lps} {W : S_Walk} {Fl : S_Fld} {q : S_Walk × S_Fld} (h : Walk_giveMark L W Fl = some q) : FlS (Fld_count Fl).toInt Fl q.2 := by
  unfold Walk_giveMark o_lt at h
  dsimp only at h
  by_cases c : Walk_nextPointed W < Walk_pointedCount W
  · rw [if_pos c] at h
    have h := oe_gd (oe_gd (oe_gd (oe_gd (oe_gd h))))
    obtain ⟨q3, e3, h⟩ := oi_bd h
    cases h
    exact give_st e3
  · rw [if_neg c] at h
    obtain ⟨q3, e3, h⟩ := oi_bd h
    cases h
    exact FlS.refl Fl
theorem adv_st_L {fu : Nat} {t : S_Tab} {P : S_Prog} {x1 : Int32} : ∀ (n : Nat) (x2 : Int32) (W : S_Walk) (Fl : S_Fld) (L : S_Lps) (r : WO), Walk_advance_L10 fu t P x1 (fun zW zF zL => Walk_advance_j141 fu t P x1 zW zF zL) n x2 W Fl L = some r → FlS x1.toInt Fl r.2.2.1
  | 0, x2, W, Fl, L, r, h => by
    rw [Walk_advance_L10] at h
    cases h
  | n + 1, x2, W, Fl, L, r, h => by
    have j141 : ∀ (W' : S_Walk) (F' : S_Fld) (L' : S_Lps), Walk_advance_j141 fu t P x1 W' F' L' = some r → r.2.2.1 = F' := by
      intro W' F' L' g
      unfold Walk_advance_j141 at g
      by_cases c : Walk_fault W' = 0
      · rw [if_pos c] at g
        by_cases c2 : Fld_count F' ≤ x1
        · rw [if_pos c2] at g
          cases g
          rfl
        · rw [if_neg c2] at g
          cases g
          rfl
      · rw [if_neg c] at g
        cases g
        rfl
    have out : Walk_advance_j141 fu t P x1 W Fl L = some r → FlS x1.toInt Fl r.2.2.1 := fun g => by
      rw [j141 _ _ _ g]
      exact FlS.refl Fl
    rw [Walk_advance_L10] at h
    by_cases c1 : (2000 : Int32) < x2
    · rw [if_pos c1] at h
      exact out h
    · rw [if_neg c1] at h
      by_cases c2 : Walk_fault W = 0
      · rw [if_pos c2] at h
        by_cases c3 : Fld_count Fl = x1
        · rw [if_pos c3] at h
          have go : ∀ (q : S_Walk × S_Fld), FlS (Fld_count Fl).toInt Fl q.2 → Walk_advance_L10 fu t P x1 (fun zW zF zL => Walk_advance_j141 fu t P x1 zW zF zL) n (x2 + 1) q.1 q.2 L = some r → FlS x1.toInt Fl r.2.2.1 := by
            intro q S g
            rw [c3] at S
            exact S.trans (adv_st_L n (x2 + 1) q.1 q.2 L r g)
          by_cases d0 : Walk_dueKind W = 0
          · rw [if_pos d0] at h
            obtain ⟨q, e, h⟩ := oi_bd h
            exact go q (gf_st e) h
          · rw [if_neg d0] at h
            by_cases d1 : Walk_dueKind W = 1
            · rw [if_pos d1] at h
              obtain ⟨q, e, h⟩ := oi_bd h
              exact go q (gq_st e) h
            · rw [if_neg d1] at h
              by_cases d2 : Walk_dueKind W = 2
              · rw [if_pos d2] at h
                obtain ⟨q, e, h⟩ := oi_bd h
                exact go q (gf_st e) h
              · rw [if_neg d2] at h
                by_cases d3 : Walk_dueKind W = 3
                · rw [if_pos d3] at h
                  obtain ⟨q, e, h⟩ := oi_bd h
                  exact go q (gb_st e) h
                · rw [if_neg d3] at h
                  by_cases d4 : Walk_dueKind W = 4
                  · rw [if_pos d4] at h
                    obtain ⟨q, e, h⟩ := oi_bd h
                    exact go q (gm_st e) h
                  · rw [if_neg d4] at h
                    obtain ⟨q11, e11, h⟩ := oi_bd h
                    unfold o_lt at h
                    dsimp only at h
                    by_cases d5 : q11.1 < Prog_size P
                    · rw [if_pos d5] at h
                      obtain ⟨q13, e13, h⟩ := oi_bd h
                      exact adv_st_L n (x2 + 1) q13.1 Fl q13.2 r h
                    · rw [if_neg d5] at h
                      cases h
                      exact FlS.refl Fl
        · rw [if_neg c3] at h
          exact out h
      · rw [if_neg c2] at h
        exact out h
theorem adv_st {fu : Nat} {t : S_Tab} {P : S_Prog} {W : S_Walk} {Fl : S_Fld} {L : S_Lps} {r : WO} (h : Walk_advance fu t P W Fl L = some r) : FlS (Fld_count Fl).toInt Fl r.2.2.1 := adv_st_L fu 0 W Fl L r h
-- the walk that also asks for raw numbers
theorem okA_st {b : Int} {Fl Fl' : S_Fld} {row : Nat → Int64} {j : Nat} (S : FlS b Fl Fl') (hj : (j : Int) < b) (h : okA Fl row j) : okA Fl' row j := by
  obtain ⟨e1, e2, e3⟩ := S.2 j hj
  unfold okA at *
  rw [e1, e2, e3]
  exact h
set_option maxHeartbeats 8000000 in
theorem och_L {c : Cst} {row : Nat → Int64} {k : Nat} (ok : Cok c) (hmd : (Mo_mode c.z).toInt = 1) (hsb : (Mo_subset c.z).toInt = (k : Int)) (hk : k < 8) (hrow : ∀ j, j < 100 → row j = c.va (100 * k + j)) : ∀ (m i n : Nat) (x : Int32) (W : S_Walk) (Fl : S_Fld) (L : S_Lps) (s : S_Mo) (rd : Nat → Int64) (r : S_Walk × S_Fld × S_Lps), SY c n W Fl L s rd → x.toInt = (i : Int) → (Fld_count Fl).toInt = (i : Int) → i ≤ 100 → (∀ j, j < i → okA Fl row j) → Walk_overChecked_L6 c.fu 100 c.t c.P row m x W Fl L = some r → EndB c r.1 r.2.1 ∧ (Walk_fault r.1 = 0 → ∀ j : Nat, (j : Int) < (Fld_count r.2.1).toInt → okA r.2.1 row j)
  | 0, i, n, x, W, Fl, L, s, rd, r, S, hx, hc, h100, hP, h => by
    rw [Walk_overChecked_L6] at h
    cases h
  | m + 1, i, n, x, W, Fl, L, s, rd, r, S, hx, hc, h100, hP, h => by
    have k1 : (1 : Int32).toInt = 1 := by decide
    have kh : (100 : Int32).toInt = 100 := by decide
    obtain ⟨b, W1, Fl1, L1, eA, hA⟩ := ADV ok S
    have eA : Walk_advance c.fu c.t c.P W Fl L = some (b, W1, Fl1, L1) := eA
    have ST : FlS (Fld_count Fl).toInt Fl Fl1 := adv_st eA
    rw [Walk_overChecked_L6, bd_s eA] at h
    rcases hA with ⟨hb, hcn, s1, n1, hKA, hFE⟩ | ⟨hb, hFl, hE⟩
    · obtain ⟨hi, hc1, a0, a1, a2, a3, a4, a5, rep, tu, ki, co, wd, sca, lk, rp, ba, q, Fl0, v1, v3, v4, v5, v6, v7, v8, v10, v11, v12, v13⟩ := FE_i hc h100 hcn hFE
      have nb : ¬ b = 0 := by rw [hb]; decide
      have nh : ¬ (100 : Int32) ≤ x := by rw [i_le]; omega
      have gx : o_in x 100 = true := i_in.mpr (by omega)
      have nx : x.toNatClampNeg = i := by
        have := i_nat (a := x) (by omega)
        omega
      rw [if_neg nb, if_neg nh, gd_t gx, nx] at h
      dsimp only at h
      obtain ⟨⟨W2, L2⟩, st, h⟩ := oi_bd h
      dsimp only at h
      obtain ⟨rep', v, s2, rd2, e1, e2, e3, e4, e5⟩ := come_inv v3 v1 hi v7
      have hmS : (Mo_mode s).toInt = (Mo_mode c.z).toInt ∧ (Mo_subset s).toInt = (Mo_subset c.z).toInt := by
        obtain ⟨_, _, _, _, _, _, _, _, _, _, _, _, _, _, _, _, _, _, _, _, _, _, K, _⟩ := S
        exact ⟨K.2.1, K.2.2.1⟩
      have mm : (Mo_mode s1).toInt = 1 := by rw [hKA.2.2.1, hmS.1]; exact hmd
      have ms : (Mo_subset s1).toInt = (k : Int) := by rw [hKA.2.2.2.1, hmS.2]; exact hsb
      obtain ⟨g1, g2, g3⟩ := val_01 (k := k) (i := i) (show (Mo_mode (Mo_set_fields s1 (Mo_fields s1 + 1))).toInt < 2 by show (Mo_mode s1).toInt < 2; rw [mm]; decide) ms hk v1 hi e2
      rw [← hrow i hi] at g1
      subst g1
      obtain ⟨G1, G2, G3⟩ := gvF_at (Fl := Fl0) (i := i) (a0 := a0) (a1 := a1) (a2 := a2) (a3 := a3) (a4 := a4) (a5 := a5) (rep := rep)
      rw [← v10] at G1 G2 G3
      have md1 : Mo_mode s2 = 1 := i_eq.mpr (by rw [g2, k1]; exact mm)
      obtain ⟨hr, eh, hh⟩ := has_ok (Fl := Fl1) (v := row i) hx hi (by rw [G3]; exact v6.2.2.1) (by rw [G2]; exact v6.1)
      rw [G1, G2, G3] at hh
      have bad : ¬ Walk_fault W2 = 0 → ¬ Mo_fault q.2.1 = 0 → Walk_overChecked_L6 c.fu 100 c.t c.P row m (x + 1) W2 Fl1 L2 = some r → EndB c r.1 r.2.1 ∧ (Walk_fault r.1 = 0 → ∀ j : Nat, (j : Int) < (Fld_count r.2.1).toInt → okA r.2.1 row j) := by
        intro hw2 y g
        obtain ⟨hf, hF⟩ := v12 y
        have e := och_f ok.1 hw2 g
        rw [e]
        exact ⟨⟨hF, Or.inr ⟨hw2, hf⟩⟩, fun z => absurd z hw2⟩
      have bad9 : ¬ Mo_fault q.2.1 = 0 → Walk_overChecked_L6 c.fu 100 c.t c.P row m (x + 1) (Walk_set_place (Walk_set_fault W2 9) x) Fl1 L2 = some r → EndB c r.1 r.2.1 ∧ (Walk_fault r.1 = 0 → ∀ j : Nat, (j : Int) < (Fld_count r.2.1).toInt → okA r.2.1 row j) := by
        intro y g
        have hw2 : ¬ Walk_fault (Walk_set_place (Walk_set_fault W2 9) x) = 0 := by
          show ¬ (9 : Int32) = 0
          decide
        obtain ⟨hf, hF⟩ := v12 y
        have e := och_f ok.1 hw2 g
        rw [e]
        exact ⟨⟨hF, Or.inr ⟨hw2, hf⟩⟩, fun z => absurd z hw2⟩
      by_cases okk : okv a0 (row i)
      · by_cases okR : okr 1 a0 a2 a4 (row i)
        · rcases e5 with ⟨_, _, _, y1, y2⟩ | ⟨y, _⟩
          · have z0 : Mo_fault q.2.1 = 0 := by rw [y2, g2]; exact v3
            obtain ⟨W2', L2', s3, st', hK3, S3⟩ := v13 z0 (by rw [y1]; exact okk)
            rw [y1] at st'
            rw [st] at st'
            cases st'
            have wz : Walk_fault W2 = 0 := by
              obtain ⟨_, _, _, _, _, _, _, _, _, _, _, _, _, _, _, _, _, _, _, R, _⟩ := S3
              exact R.1
            have nr : ¬ hr = 0 := fun e => (hh.1 e) okR
            rw [if_pos wz, gd_t gx, bd_s eh, if_neg nr] at h
            unfold Walk_overChecked_j54 at h
            have ex : (x + 1).toInt = ((i + 1 : Nat) : Int) := by
              rw [i_add (a := x) (b := 1) (by omega) (by omega), hx, k1]
              rfl
            refine och_L ok hmd hsb hk hrow m (i + 1) n1 (x + 1) W2 Fl1 L2 s3 q.2.2.1 r S3 ex (by rw [hc1]; rfl) (by clear ex; omega) (fun j hj => ?_) h
            by_cases cj : j = i
            · rw [cj]
              unfold okA
              rw [G1, G2, G3]
              exact ⟨okk, okR⟩
            · exact okA_st ST (by rw [hc]; clear ex; omega) (hP j (by clear ex; omega))
          · exact absurd ⟨by rw [g2]; exact v3, okk, by rw [md1]; exact okR⟩ y
        · have y : ¬ Mo_fault q.2.1 = 0 := by
            rcases e5 with ⟨_, _, y, _⟩ | ⟨_, y⟩
            · rw [md1] at y
              exact absurd y okR
            · exact y
          by_cases wz : Walk_fault W2 = 0
          · have zr : hr = 0 := hh.2 okR
            have ef : Walk_fail 9 x W2 = some (Walk_set_place (Walk_set_fault W2 9) x) := rfl
            rw [if_pos wz, gd_t gx, bd_s eh, if_pos zr, bd_s ef] at h
            exact bad9 y h
          · rw [if_neg wz] at h
            exact bad wz y h
      · rcases e5 with ⟨_, y, _⟩ | ⟨_, y⟩
        · exact absurd y okk
        · have kk : ¬ okv (Fld_kinds Fl1 i) (row i) := by
            rw [G1]
            exact okk
          obtain ⟨W2', st', hw2⟩ := settle_bad (W := W1) (L := L1) hc1 hi kk
          rw [st] at st'
          cases st'
          rw [if_neg hw2] at h
          exact bad hw2 y h
    · rw [if_pos hb] at h
      cases h
      refine ⟨⟨hE.1, ?_⟩, fun _ j hj => ?_⟩
      · rcases hE.2 with ⟨y1, y2, _⟩ | y
        · exact Or.inl ⟨y1, y2⟩
        · exact Or.inr y
      · have hFl : Fl1 = Fl := hFl
        have hj : (j : Int) < (Fld_count Fl1).toInt := hj
        rw [hFl, hc] at hj
        show okA Fl1 row j
        rw [hFl]
        exact hP j (by omega)

-- the walk: lists that end, on both sides
theorem w_pops {fu sz : Nat} {th sc rf wi ls le : Nat → Int32} {va : Nat → Int64} {bi : Nat → Int32} {F : Nat → Int32} {Z : Nat → Nat} {D B : Nat → Int32} {rd : Nat → Int64} {li en be fo op ki co wd sca lk rp : Nat → Int32} {ba : Nat → Int64} {ea pa : Nat → Int32} {r : A19} (hf : 12000 ≤ fu) (Ile : A_Mlengths le) (z : S_Mo) : ∀ (n : Nat) (s : S_Mo) (ne lf tu : Nat → Int32) (o a m : Nat) (x : Int32) (L : S_Lps), WSt fu th sc wi ls le z s li ne en be lf fo op wd ea pa → Mo_fault s = 0 → (Mo_open s).toInt = (o : Int) + 1 → x.toInt = (a : Int) → St F Z D B sz li ne en be lf tu L o a → (Lps_open L).toInt = (rn tu (o + 1) : Int) → rn tu (o + 1) < m → Mod_walk_L34 fu th sc rf wi ls le va bi n s rd li ne en be lf tu fo op ki co wd sca lk rp ba ea pa = some r → ∃ (n' : Nat) (v : Int32) (ne' lf' tu' : Nat → Int32) (a' : Nat) (y : Int32) (L' : S_Lps), n' ≤ n ∧ Lps_onFrom_L0 fu x m L = some (y, L') ∧ y.toInt = (a' : Int) ∧ Mod_walk_L34 fu th sc rf wi ls le va bi n' (Mo_set_open s v) rd li ne' en be lf' tu' fo op ki co wd sca lk rp ba ea pa = some r ∧ WSt fu th sc wi ls le z (Mo_set_open s v) li ne' en be lf' fo op wd ea pa ∧ ((v = 0 ∧ a' = sz) ∨ ∃ o' : Nat, v.toInt = (o' : Int) + 1 ∧ St F Z D B sz li ne' en be lf' tu' L' o' a' ∧ (Lps_open L').toInt = (rn tu' (o' + 1) : Int) ∧ (ne' o').toInt < (en o').toInt)
  | 0, s, ne, lf, tu, o, a, m, x, L, _, _, _, _, _, _, _, h => by
    rw [Mod_walk_L34] at h
    cases h
  | n + 1, s, ne, lf, tu, o, a, m, x, L, S, hz, ho, hx, H, hL, hm, h => by
    have k0 : (0 : Int32).toInt = 0 := by decide
    have k1 : (1 : Int32).toInt = 1 := by decide
    obtain ⟨m, rfl⟩ : ∃ m1, m = m1 + 1 := ⟨m - 1, by omega⟩
    have S' := S
    obtain ⟨W, K, a1, a2, a3, a4, a5, hst⟩ := S'
    obtain ⟨o1, ho1, ⟨hC, hE, hWL⟩, hl0, hl1⟩ := hst hz
    obtain rfl : o1 = o + 1 := by omega
    obtain ⟨t1, t2, t3, t4, t5, t6, t7⟩ := cs_top Ile hC
    have n_ne := i_nat (a := ne o) (by omega)
    have n_en := i_nat (a := en o) (by omega)
    have n_be := i_nat (a := be o) t2
    have t0 := St_t0 o a H
    have rl := rn_le t0.1 o
    have top := St_top o a H
    by_cases c3 : en o ≤ ne o
    · have c3' := c3
      rw [i_le] at c3'
      have eqp : fp li ne o = fp li en o := by
        unfold fp
        omega
      cases o with
      | zero =>
        obtain ⟨⟨M, H1⟩, H2, H3⟩ := H
        have ea_ : a = sz := by
          rcases Sg_adv (It_adv _) M _ _ _ _ H1 with ⟨_, _, y⟩ | ⟨y, _⟩
          · exact y
          · omega
        have c4 : lf 0 ≤ 1 := by rw [i_le, H3, k1]; exact Int.le_refl _
        have r0 : rn tu (0 + 1) = 0 := rn_s H2
        have lo : Lps_open L ≤ 0 := by rw [i_le, hL, r0, k0]; exact Int.le_refl _
        have hv : Mo_open s - 1 = 0 := i_eq.mpr (by
          rw [i_sub (a := Mo_open s) (b := 1) (by omega) (by omega), ho, k1, k0]
          omega)
        refine ⟨n, 0, ne, lf, tu, a, x, L, Nat.le_succ n, lp_stay (Or.inl lo), hx, ?_, ?_, Or.inl ⟨rfl, ea_⟩⟩
        · have g := r_pop ho (by omega) hz c3 c4 h
          rw [hv] at g
          exact g
        · have g := S.pop hf Ile hz ho c3'
          rw [hv] at g
          exact g
      | succ o =>
        obtain ⟨H0, E, ⟨M, H1⟩, H2, H3⟩ := H
        have ea_ : a = E := by
          rcases Sg_adv (It_adv _) M _ _ _ _ H1 with ⟨_, _, y⟩ | ⟨y, _⟩
          · exact y
          · omega
        have po : (Mo_open (Mo_set_open s (Mo_open s - 1))).toInt = (o : Int) + 1 := by
          show (Mo_open s - 1).toInt = _
          rw [i_sub (a := Mo_open s) (b := 1) (by omega) (by omega), ho, k1]
          omega
        rcases H2 with ⟨q1, q2⟩ | ⟨q1, q2, q3, Sx, M', d1, d2, d3, d4, d5⟩
        · -- a sequence ends
          have c4 : lf (o + 1) ≤ 1 := by rw [i_le, q2, k1]; exact Int.le_refl _
          rw [rn_s q1] at hL hm
          have g := r_pop ho (by omega) hz c3 c4 h
          obtain ⟨n', v, ne', lf', tu', a', y, L', y1, y2, y3, y4, y5, y6⟩ := w_pops hf Ile z n (Mo_set_open s (Mo_open s - 1)) ne lf tu o a (m + 1) x L (S.pop hf Ile hz ho c3') hz po hx (by rw [ea_]; exact H3) hL hm g
          exact ⟨n', v, ne', lf', tu', a', y, L', Nat.le_succ_of_le y1, y2, y3, y4, y5, y6⟩
        · -- a REPEAT's list ends
          have er := rn_r q1
          rw [er] at hL hm
          have hk : rn tu (o + 1) < 64 := by omega
          have hL' : (Lps_open L).toInt = ((rn tu (o + 1) : Nat) : Int) + 1 := by
            omega
          have hxe : x = Lps_ends L (rn tu (o + 1)) := i_eq.mpr (by rw [hx, d3, ea_])
          have tn : 0 ≤ (tu (o + 1)).toInt := by
            rw [i_lt, k0] at q1
            omega
          have dn : (Lps_done L (rn tu (o + 1)) + 1).toInt = (tu (o + 1)).toInt + 1 := by
            rw [i_add (a := Lps_done L (rn tu (o + 1))) (b := 1) (by omega) (by omega), d4, k1]
          by_cases c4 : lf (o + 1) ≤ 1
          · have c4' := c4
            rw [i_le, k1] at c4'
            have ct : Lps_times L (rn tu (o + 1)) ≤ Lps_done L (rn tu (o + 1)) + 1 := by
              rw [i_le, d5, dn]
              clear dn
              omega
            have cl := lp_end (fu := fu) (m := m) hk hL' hxe
            rw [if_pos ct] at cl
            have g := r_pop ho (by clear dn; omega) hz c3 c4 h
            obtain ⟨n', v, ne', lf', tu', a', y, L', y1, y2, y3, y4, y5, y6⟩ := w_pops hf Ile z n (Mo_set_open s (Mo_open s - 1)) ne lf tu o a m x (Lps_set_open (Lps_put_done L (rn tu (o + 1)) (Lps_done L (rn tu (o + 1)) + 1)) (Lps_open L - 1)) (S.pop hf Ile hz ho c3') hz po hx (by
              rw [ea_]
              refine St_cong (li := li) (ne := ne) (en := en) (be := be) (lf := lf) (tu := tu) (L := L) o E (fun f _ => ⟨rfl, rfl, rfl, rfl, rfl, rfl⟩) (fun k hk' => ⟨rfl, rfl, ?_, rfl⟩) H3
              have nk : k ≠ rn tu (o + 1) := by clear dn; omega
              exact upd_ne nk) (by
              show (Lps_open L - 1).toInt = _
              clear dn po
              rw [i_sub (a := Lps_open L) (b := 1) (by omega) (by omega), hL', k1]
              omega) (by clear dn; omega) g
            exact ⟨n', v, ne', lf', tu', a', y, L', Nat.le_succ_of_le y1, cl.trans y2, y3, y4, y5, y6⟩
          · have c4' := c4
            rw [i_le, k1] at c4'
            have ct : ¬ Lps_times L (rn tu (o + 1)) ≤ Lps_done L (rn tu (o + 1)) + 1 := by
              rw [i_le, d5, dn]
              clear dn
              omega
            have cl := lp_end (fu := fu) (m := m) hk hL' hxe
            rw [if_neg ct] at cl
            have g := r_turn ho (by clear dn; omega) hz c3 c4 h
            have bl : (be (o + 1)).toInt < (en (o + 1)).toInt := by
              rcases hWL (o + 1) (by clear dn; omega) with w | w
              · clear dn
                omega
              · exact w
            have e_t : (tu (o + 1) + 1).toInt = (tu (o + 1)).toInt + 1 := by
              clear dn
              rw [i_add (a := tu (o + 1)) (b := 1) (by omega) (by omega), k1]
            have e_l : (lf (o + 1) - 1).toInt = (lf (o + 1)).toInt - 1 := by
              clear dn e_t
              rw [i_sub (a := lf (o + 1)) (b := 1) (by omega) (by omega), k1]
            have rc : rn (upd tu (o + 1) (tu (o + 1) + 1)) (o + 1) = rn tu (o + 1) := rn_cong (o + 1) (fun j hj => upd_ne (by clear dn e_t e_l; omega))
            have tn' : ¬ upd tu (o + 1) (tu (o + 1) + 1) (o + 1) < 0 := by
              rw [upd_at, i_lt, e_t, k0]
              clear dn e_t e_l
              omega
            refine ⟨n, Mo_open s, upd ne (o + 1) (be (o + 1)), upd lf (o + 1) (lf (o + 1) - 1), upd tu (o + 1) (tu (o + 1) + 1), Sx, Lps_starts L (rn tu (o + 1)), Lps_put_done L (rn tu (o + 1)) (Lps_done L (rn tu (o + 1)) + 1), Nat.le_succ n, cl, d2, g, S.turn hf Ile hz ho c3' c4', Or.inr ⟨o + 1, ho, ⟨H0, E, ⟨M', ?_⟩, Or.inr ⟨tn', ?_, ?_, Sx, M', d1, ?_, ?_, ?_, ?_⟩, ?_⟩, ?_, ?_⟩⟩
            · unfold fp
              rw [upd_at]
              exact d1
            · rw [upd_at, e_l]
              clear dn e_t e_l
              omega
            · rw [upd_at, upd_at, e_t, e_l]
              clear dn e_t e_l
              omega
            · rw [rc]
              exact d2
            · rw [rc]
              exact d3
            · rw [rc, upd_at, e_t]
              show (upd (Lps_done L) (rn tu (o + 1)) (Lps_done L (rn tu (o + 1)) + 1) (rn tu (o + 1))).toInt = _
              rw [upd_at]
              exact dn
            · rw [rc, upd_at, upd_at, e_t, e_l]
              show (Lps_times L (rn tu (o + 1))).toInt = _
              rw [d5]
              clear dn e_t e_l
              omega
            · refine St_cong (li := li) (ne := ne) (en := en) (be := be) (lf := lf) (tu := tu) (L := L) o E (fun f hf' => ?_) (fun k hk' => ⟨rfl, rfl, ?_, rfl⟩) H3
              · have nf : f ≠ o + 1 := by clear dn e_t e_l; omega
                exact ⟨rfl, upd_ne nf, rfl, rfl, upd_ne nf, upd_ne nf⟩
              · have nk : k ≠ rn tu (o + 1) := by clear dn e_t e_l; omega
                exact upd_ne nk
            · rw [rn_r tn', rc]
              exact hL
            · rw [upd_at]
              exact bl
    · -- nothing ends
      have c3' := c3
      rw [i_le] at c3'
      have ltp : fp li ne o < fp li en o := by
        unfold fp
        omega
      have stay : Lps_onFrom_L0 fu x (m + 1) L = some (x, L) := by
        by_cases c : rn tu (o + 1) = 0
        · refine lp_stay (Or.inl ?_)
          rw [i_le, hL, c, k0]
          exact Int.le_refl _
        · have e := (St_end o a H c).2 ltp
          refine lp_stay (Or.inr ⟨rn tu (o + 1) - 1, by omega, by omega, fun ex => ?_⟩)
          rw [← ex, hx] at e
          exact absurd e (Int.lt_irrefl _)
      exact ⟨n + 1, Mo_open s, ne, lf, tu, a, x, L, Nat.le_refl _, stay, hx, h, S, Or.inr ⟨o, ho, H, hL, by omega⟩⟩
